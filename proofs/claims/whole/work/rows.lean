section
-- ===== PART A: goes FIRST, ahead of the names: the tables' words, and 'selects' of the private methods out of them =====
/-- a private method of a class that the tables say can be made, by its rows of tables_1 -/
def lw_okq (q : MethodName × Nat) : Prop := (q.1.cls ≠ "java/lang/invoke/MethodHandle" ∧ q.1.cls ≠ "java/lang/invoke/VarHandle") ∧ Cond.instantiable q.1.cls q.2 ∈ tables_1 ∧ Cond.privateMethod q.1 ∈ tables_1 ∧ Cond.instanceMethod q.1 ∈ tables_1
theorem lw_p0 : lw_okq (⟨"SlotMaps$History", "behindLatest", "()I"⟩, 3) := ⟨⟨by decide +kernel, by decide +kernel⟩, List.mem_of_getElem? (i := 48) (by decide +kernel), List.mem_of_getElem? (i := 121) (by decide +kernel), List.mem_of_getElem? (i := 122) (by decide +kernel)⟩
theorem lw_p1 : lw_okq (⟨"SlotMaps$Slots", "takeBySummaries", "()I"⟩, 5) := ⟨⟨by decide +kernel, by decide +kernel⟩, List.mem_of_getElem? (i := 18) (by decide +kernel), List.mem_of_getElem? (i := 136) (by decide +kernel), List.mem_of_getElem? (i := 137) (by decide +kernel)⟩
theorem lw_p2 : lw_okq (⟨"SlotMaps$Slots", "change", "(IIII)V"⟩, 5) := ⟨⟨by decide +kernel, by decide +kernel⟩, List.mem_of_getElem? (i := 18) (by decide +kernel), List.mem_of_getElem? (i := 160) (by decide +kernel), List.mem_of_getElem? (i := 161) (by decide +kernel)⟩
theorem lw_p3 : lw_okq (⟨"SlotMaps", "settle", "(I)I"⟩, 6) := ⟨⟨by decide +kernel, by decide +kernel⟩, List.mem_of_getElem? (i := 10) (by decide +kernel), List.mem_of_getElem? (i := 169) (by decide +kernel), List.mem_of_getElem? (i := 170) (by decide +kernel)⟩
theorem lw_p4 : lw_okq (⟨"SlotMaps$Slots", "isFree", "(I)Z"⟩, 5) := ⟨⟨by decide +kernel, by decide +kernel⟩, List.mem_of_getElem? (i := 18) (by decide +kernel), List.mem_of_getElem? (i := 196) (by decide +kernel), List.mem_of_getElem? (i := 197) (by decide +kernel)⟩
theorem lw_p5 : lw_okq (⟨"SlotMaps$Slots", "ownedBits", "(I)I"⟩, 5) := ⟨⟨by decide +kernel, by decide +kernel⟩, List.mem_of_getElem? (i := 18) (by decide +kernel), List.mem_of_getElem? (i := 220) (by decide +kernel), List.mem_of_getElem? (i := 221) (by decide +kernel)⟩
theorem lw_p6 : lw_okq (⟨"SlotMaps$Slots", "blockBits", "(I)I"⟩, 5) := ⟨⟨by decide +kernel, by decide +kernel⟩, List.mem_of_getElem? (i := 18) (by decide +kernel), List.mem_of_getElem? (i := 224) (by decide +kernel), List.mem_of_getElem? (i := 225) (by decide +kernel)⟩
theorem lw_p7 : lw_okq (⟨"SlotMaps$Slots", "firstUnusedBlock", "()I"⟩, 5) := ⟨⟨by decide +kernel, by decide +kernel⟩, List.mem_of_getElem? (i := 18) (by decide +kernel), List.mem_of_getElem? (i := 244) (by decide +kernel), List.mem_of_getElem? (i := 245) (by decide +kernel)⟩
theorem lw_p8 : lw_okq (⟨"SlotMaps$Program", "readCharacter", "(CI)Z"⟩, 6) := ⟨⟨by decide +kernel, by decide +kernel⟩, List.mem_of_getElem? (i := 68) (by decide +kernel), List.mem_of_getElem? (i := 317) (by decide +kernel), List.mem_of_getElem? (i := 318) (by decide +kernel)⟩
theorem lw_p9 : lw_okq (⟨"SlotMaps$Program", "readLetter", "(CI)Z"⟩, 6) := ⟨⟨by decide +kernel, by decide +kernel⟩, List.mem_of_getElem? (i := 68) (by decide +kernel), List.mem_of_getElem? (i := 321) (by decide +kernel), List.mem_of_getElem? (i := 322) (by decide +kernel)⟩
theorem lw_p10 : lw_okq (⟨"SlotMaps$Program", "readDigit", "(I)Z"⟩, 6) := ⟨⟨by decide +kernel, by decide +kernel⟩, List.mem_of_getElem? (i := 68) (by decide +kernel), List.mem_of_getElem? (i := 325) (by decide +kernel), List.mem_of_getElem? (i := 326) (by decide +kernel)⟩
theorem lw_p11 : lw_okq (⟨"SlotMaps$Program", "readDash", "()Z"⟩, 6) := ⟨⟨by decide +kernel, by decide +kernel⟩, List.mem_of_getElem? (i := 68) (by decide +kernel), List.mem_of_getElem? (i := 329) (by decide +kernel), List.mem_of_getElem? (i := 330) (by decide +kernel)⟩
theorem lw_p12 : lw_okq (⟨"SlotMaps$Program", "mayEnd", "()Z"⟩, 6) := ⟨⟨by decide +kernel, by decide +kernel⟩, List.mem_of_getElem? (i := 68) (by decide +kernel), List.mem_of_getElem? (i := 333) (by decide +kernel), List.mem_of_getElem? (i := 334) (by decide +kernel)⟩
theorem lw_p13 : lw_okq (⟨"SlotMaps$Program", "perform", "(LSlotMaps$Slots;)I"⟩, 6) := ⟨⟨by decide +kernel, by decide +kernel⟩, List.mem_of_getElem? (i := 68) (by decide +kernel), List.mem_of_getElem? (i := 337) (by decide +kernel), List.mem_of_getElem? (i := 338) (by decide +kernel)⟩
theorem lw_p14 : lw_okq (⟨"SlotMapsModel", "notes", "()V"⟩, 8) := ⟨⟨by decide +kernel, by decide +kernel⟩, List.mem_of_getElem? (i := 435) (by decide +kernel), List.mem_of_getElem? (i := 470) (by decide +kernel), List.mem_of_getElem? (i := 471) (by decide +kernel)⟩
theorem lw_p15 : lw_okq (⟨"SlotMapsModel", "takes1", "()I"⟩, 8) := ⟨⟨by decide +kernel, by decide +kernel⟩, List.mem_of_getElem? (i := 435) (by decide +kernel), List.mem_of_getElem? (i := 477) (by decide +kernel), List.mem_of_getElem? (i := 478) (by decide +kernel)⟩
def lw_privs_1 : List (MethodName × Nat) := [(⟨"SlotMaps$History", "behindLatest", "()I"⟩, 3), (⟨"SlotMaps$Slots", "takeBySummaries", "()I"⟩, 5), (⟨"SlotMaps$Slots", "change", "(IIII)V"⟩, 5), (⟨"SlotMaps", "settle", "(I)I"⟩, 6), (⟨"SlotMaps$Slots", "isFree", "(I)Z"⟩, 5), (⟨"SlotMaps$Slots", "ownedBits", "(I)I"⟩, 5), (⟨"SlotMaps$Slots", "blockBits", "(I)I"⟩, 5), (⟨"SlotMaps$Slots", "firstUnusedBlock", "()I"⟩, 5), (⟨"SlotMaps$Program", "readCharacter", "(CI)Z"⟩, 6), (⟨"SlotMaps$Program", "readLetter", "(CI)Z"⟩, 6), (⟨"SlotMaps$Program", "readDigit", "(I)Z"⟩, 6), (⟨"SlotMaps$Program", "readDash", "()Z"⟩, 6), (⟨"SlotMaps$Program", "mayEnd", "()Z"⟩, 6), (⟨"SlotMaps$Program", "perform", "(LSlotMaps$Slots;)I"⟩, 6), (⟨"SlotMapsModel", "notes", "()V"⟩, 8), (⟨"SlotMapsModel", "takes1", "()I"⟩, 8)]
theorem lw_r1 : ∀ q ∈ lw_privs_1, lw_okq q := List.forall_mem_cons.mpr ⟨lw_p0, List.forall_mem_cons.mpr ⟨lw_p1, List.forall_mem_cons.mpr ⟨lw_p2, List.forall_mem_cons.mpr ⟨lw_p3, List.forall_mem_cons.mpr ⟨lw_p4, List.forall_mem_cons.mpr ⟨lw_p5, List.forall_mem_cons.mpr ⟨lw_p6, List.forall_mem_cons.mpr ⟨lw_p7, List.forall_mem_cons.mpr ⟨lw_p8, List.forall_mem_cons.mpr ⟨lw_p9, List.forall_mem_cons.mpr ⟨lw_p10, List.forall_mem_cons.mpr ⟨lw_p11, List.forall_mem_cons.mpr ⟨lw_p12, List.forall_mem_cons.mpr ⟨lw_p13, List.forall_mem_cons.mpr ⟨lw_p14, List.forall_mem_cons.mpr ⟨lw_p15, fun _ h => absurd h List.not_mem_nil⟩⟩⟩⟩⟩⟩⟩⟩⟩⟩⟩⟩⟩⟩⟩⟩
theorem lw_p16 : lw_okq (⟨"SlotMapsModel", "goesThrough", "()I"⟩, 8) := ⟨⟨by decide +kernel, by decide +kernel⟩, List.mem_of_getElem? (i := 435) (by decide +kernel), List.mem_of_getElem? (i := 481) (by decide +kernel), List.mem_of_getElem? (i := 482) (by decide +kernel)⟩
theorem lw_p17 : lw_okq (⟨"SlotMapsModel", "firstIn", "(I)I"⟩, 8) := ⟨⟨by decide +kernel, by decide +kernel⟩, List.mem_of_getElem? (i := 435) (by decide +kernel), List.mem_of_getElem? (i := 485) (by decide +kernel), List.mem_of_getElem? (i := 486) (by decide +kernel)⟩
theorem lw_p18 : lw_okq (⟨"SlotMapsModel", "becomes", "(II)V"⟩, 8) := ⟨⟨by decide +kernel, by decide +kernel⟩, List.mem_of_getElem? (i := 435) (by decide +kernel), List.mem_of_getElem? (i := 489) (by decide +kernel), List.mem_of_getElem? (i := 490) (by decide +kernel)⟩
theorem lw_p19 : lw_okq (⟨"SlotMapsModel", "right", "(I)I"⟩, 8) := ⟨⟨by decide +kernel, by decide +kernel⟩, List.mem_of_getElem? (i := 435) (by decide +kernel), List.mem_of_getElem? (i := 493) (by decide +kernel), List.mem_of_getElem? (i := 494) (by decide +kernel)⟩
theorem lw_p20 : lw_okq (⟨"SlotMapsModel", "inWord", "(II)I"⟩, 8) := ⟨⟨by decide +kernel, by decide +kernel⟩, List.mem_of_getElem? (i := 435) (by decide +kernel), List.mem_of_getElem? (i := 497) (by decide +kernel), List.mem_of_getElem? (i := 498) (by decide +kernel)⟩
theorem lw_p21 : lw_okq (⟨"SlotMapsModel", "clears", "(I)I"⟩, 8) := ⟨⟨by decide +kernel, by decide +kernel⟩, List.mem_of_getElem? (i := 435) (by decide +kernel), List.mem_of_getElem? (i := 501) (by decide +kernel), List.mem_of_getElem? (i := 502) (by decide +kernel)⟩
theorem lw_p22 : lw_okq (⟨"SlotMapsModel", "ends", "(I)I"⟩, 8) := ⟨⟨by decide +kernel, by decide +kernel⟩, List.mem_of_getElem? (i := 435) (by decide +kernel), List.mem_of_getElem? (i := 505) (by decide +kernel), List.mem_of_getElem? (i := 506) (by decide +kernel)⟩
theorem lw_p23 : lw_okq (⟨"SlotMapsModel", "runFrom", "(I)I"⟩, 8) := ⟨⟨by decide +kernel, by decide +kernel⟩, List.mem_of_getElem? (i := 435) (by decide +kernel), List.mem_of_getElem? (i := 516) (by decide +kernel), List.mem_of_getElem? (i := 517) (by decide +kernel)⟩
theorem lw_p24 : lw_okq (⟨"SlotMapsModel", "givesBack", "(II)I"⟩, 8) := ⟨⟨by decide +kernel, by decide +kernel⟩, List.mem_of_getElem? (i := 435) (by decide +kernel), List.mem_of_getElem? (i := 524) (by decide +kernel), List.mem_of_getElem? (i := 525) (by decide +kernel)⟩
theorem lw_p25 : lw_okq (⟨"SlotMapsModel", "clearsSome", "(I)I"⟩, 8) := ⟨⟨by decide +kernel, by decide +kernel⟩, List.mem_of_getElem? (i := 435) (by decide +kernel), List.mem_of_getElem? (i := 532) (by decide +kernel), List.mem_of_getElem? (i := 533) (by decide +kernel)⟩
theorem lw_p26 : lw_okq (⟨"SlotMapsModel", "reserves", "(I)I"⟩, 8) := ⟨⟨by decide +kernel, by decide +kernel⟩, List.mem_of_getElem? (i := 435) (by decide +kernel), List.mem_of_getElem? (i := 540) (by decide +kernel), List.mem_of_getElem? (i := 541) (by decide +kernel)⟩
theorem lw_p27 : lw_okq (⟨"SlotMapsModel", "isBlock", "(I)Z"⟩, 8) := ⟨⟨by decide +kernel, by decide +kernel⟩, List.mem_of_getElem? (i := 435) (by decide +kernel), List.mem_of_getElem? (i := 547) (by decide +kernel), List.mem_of_getElem? (i := 548) (by decide +kernel)⟩
theorem lw_p28 : lw_okq (⟨"SlotMapsModel", "placeOf", "(I)I"⟩, 8) := ⟨⟨by decide +kernel, by decide +kernel⟩, List.mem_of_getElem? (i := 435) (by decide +kernel), List.mem_of_getElem? (i := 551) (by decide +kernel), List.mem_of_getElem? (i := 552) (by decide +kernel)⟩
theorem lw_p29 : lw_okq (⟨"SlotMapsModel", "takesIn", "(I)I"⟩, 8) := ⟨⟨by decide +kernel, by decide +kernel⟩, List.mem_of_getElem? (i := 435) (by decide +kernel), List.mem_of_getElem? (i := 559) (by decide +kernel), List.mem_of_getElem? (i := 560) (by decide +kernel)⟩
theorem lw_p30 : lw_okq (⟨"SlotMapsModel", "damages", "(I)I"⟩, 8) := ⟨⟨by decide +kernel, by decide +kernel⟩, List.mem_of_getElem? (i := 435) (by decide +kernel), List.mem_of_getElem? (i := 571) (by decide +kernel), List.mem_of_getElem? (i := 572) (by decide +kernel)⟩
theorem lw_p31 : lw_okq (⟨"SlotMapsModel", "repairs", "()I"⟩, 8) := ⟨⟨by decide +kernel, by decide +kernel⟩, List.mem_of_getElem? (i := 435) (by decide +kernel), List.mem_of_getElem? (i := 582) (by decide +kernel), List.mem_of_getElem? (i := 583) (by decide +kernel)⟩
def lw_privs_2 : List (MethodName × Nat) := [(⟨"SlotMapsModel", "goesThrough", "()I"⟩, 8), (⟨"SlotMapsModel", "firstIn", "(I)I"⟩, 8), (⟨"SlotMapsModel", "becomes", "(II)V"⟩, 8), (⟨"SlotMapsModel", "right", "(I)I"⟩, 8), (⟨"SlotMapsModel", "inWord", "(II)I"⟩, 8), (⟨"SlotMapsModel", "clears", "(I)I"⟩, 8), (⟨"SlotMapsModel", "ends", "(I)I"⟩, 8), (⟨"SlotMapsModel", "runFrom", "(I)I"⟩, 8), (⟨"SlotMapsModel", "givesBack", "(II)I"⟩, 8), (⟨"SlotMapsModel", "clearsSome", "(I)I"⟩, 8), (⟨"SlotMapsModel", "reserves", "(I)I"⟩, 8), (⟨"SlotMapsModel", "isBlock", "(I)Z"⟩, 8), (⟨"SlotMapsModel", "placeOf", "(I)I"⟩, 8), (⟨"SlotMapsModel", "takesIn", "(I)I"⟩, 8), (⟨"SlotMapsModel", "damages", "(I)I"⟩, 8), (⟨"SlotMapsModel", "repairs", "()I"⟩, 8)]
theorem lw_r2 : ∀ q ∈ lw_privs_2, lw_okq q := List.forall_mem_cons.mpr ⟨lw_p16, List.forall_mem_cons.mpr ⟨lw_p17, List.forall_mem_cons.mpr ⟨lw_p18, List.forall_mem_cons.mpr ⟨lw_p19, List.forall_mem_cons.mpr ⟨lw_p20, List.forall_mem_cons.mpr ⟨lw_p21, List.forall_mem_cons.mpr ⟨lw_p22, List.forall_mem_cons.mpr ⟨lw_p23, List.forall_mem_cons.mpr ⟨lw_p24, List.forall_mem_cons.mpr ⟨lw_p25, List.forall_mem_cons.mpr ⟨lw_p26, List.forall_mem_cons.mpr ⟨lw_p27, List.forall_mem_cons.mpr ⟨lw_p28, List.forall_mem_cons.mpr ⟨lw_p29, List.forall_mem_cons.mpr ⟨lw_p30, List.forall_mem_cons.mpr ⟨lw_p31, fun _ h => absurd h List.not_mem_nil⟩⟩⟩⟩⟩⟩⟩⟩⟩⟩⟩⟩⟩⟩⟩⟩
theorem lw_p32 : lw_okq (⟨"SlotMapsModel", "runsOne", "()Z"⟩, 8) := ⟨⟨by decide +kernel, by decide +kernel⟩, List.mem_of_getElem? (i := 435) (by decide +kernel), List.mem_of_getElem? (i := 602) (by decide +kernel), List.mem_of_getElem? (i := 603) (by decide +kernel)⟩
theorem lw_p33 : lw_okq (⟨"SlotMapsModel", "signAt", "(I)I"⟩, 8) := ⟨⟨by decide +kernel, by decide +kernel⟩, List.mem_of_getElem? (i := 435) (by decide +kernel), List.mem_of_getElem? (i := 606) (by decide +kernel), List.mem_of_getElem? (i := 607) (by decide +kernel)⟩
theorem lw_p34 : lw_okq (⟨"SlotMapsModel", "isDigit", "()Z"⟩, 8) := ⟨⟨by decide +kernel, by decide +kernel⟩, List.mem_of_getElem? (i := 435) (by decide +kernel), List.mem_of_getElem? (i := 613) (by decide +kernel), List.mem_of_getElem? (i := 614) (by decide +kernel)⟩
theorem lw_p35 : lw_okq (⟨"SlotMapsModel", "number", "()I"⟩, 8) := ⟨⟨by decide +kernel, by decide +kernel⟩, List.mem_of_getElem? (i := 435) (by decide +kernel), List.mem_of_getElem? (i := 617) (by decide +kernel), List.mem_of_getElem? (i := 618) (by decide +kernel)⟩
theorem lw_p36 : lw_okq (⟨"SlotMapsModel", "does", "(III)I"⟩, 8) := ⟨⟨by decide +kernel, by decide +kernel⟩, List.mem_of_getElem? (i := 435) (by decide +kernel), List.mem_of_getElem? (i := 621) (by decide +kernel), List.mem_of_getElem? (i := 622) (by decide +kernel)⟩
theorem lw_p37 : lw_okq (⟨"SlotMapsModel", "takesMany", "(I)I"⟩, 8) := ⟨⟨by decide +kernel, by decide +kernel⟩, List.mem_of_getElem? (i := 435) (by decide +kernel), List.mem_of_getElem? (i := 625) (by decide +kernel), List.mem_of_getElem? (i := 626) (by decide +kernel)⟩
theorem lw_p38 : lw_okq (⟨"SlotMapsModel", "inAll", "(I)I"⟩, 8) := ⟨⟨by decide +kernel, by decide +kernel⟩, List.mem_of_getElem? (i := 435) (by decide +kernel), List.mem_of_getElem? (i := 633) (by decide +kernel), List.mem_of_getElem? (i := 634) (by decide +kernel)⟩
theorem lw_p39 : lw_okq (⟨"SlotMapsModel", "blocks", "()I"⟩, 8) := ⟨⟨by decide +kernel, by decide +kernel⟩, List.mem_of_getElem? (i := 435) (by decide +kernel), List.mem_of_getElem? (i := 637) (by decide +kernel), List.mem_of_getElem? (i := 638) (by decide +kernel)⟩
theorem lw_p40 : lw_okq (⟨"SlotMapsModel", "bits", "()I"⟩, 8) := ⟨⟨by decide +kernel, by decide +kernel⟩, List.mem_of_getElem? (i := 435) (by decide +kernel), List.mem_of_getElem? (i := 641) (by decide +kernel), List.mem_of_getElem? (i := 642) (by decide +kernel)⟩
theorem lw_p41 : lw_okq (⟨"SlotMapsModel", "full", "()I"⟩, 8) := ⟨⟨by decide +kernel, by decide +kernel⟩, List.mem_of_getElem? (i := 435) (by decide +kernel), List.mem_of_getElem? (i := 645) (by decide +kernel), List.mem_of_getElem? (i := 646) (by decide +kernel)⟩
theorem lw_p42 : lw_okq (⟨"SlotMapsModel", "runs", "(Z)I"⟩, 8) := ⟨⟨by decide +kernel, by decide +kernel⟩, List.mem_of_getElem? (i := 435) (by decide +kernel), List.mem_of_getElem? (i := 649) (by decide +kernel), List.mem_of_getElem? (i := 650) (by decide +kernel)⟩
def lw_privs_3 : List (MethodName × Nat) := [(⟨"SlotMapsModel", "runsOne", "()Z"⟩, 8), (⟨"SlotMapsModel", "signAt", "(I)I"⟩, 8), (⟨"SlotMapsModel", "isDigit", "()Z"⟩, 8), (⟨"SlotMapsModel", "number", "()I"⟩, 8), (⟨"SlotMapsModel", "does", "(III)I"⟩, 8), (⟨"SlotMapsModel", "takesMany", "(I)I"⟩, 8), (⟨"SlotMapsModel", "inAll", "(I)I"⟩, 8), (⟨"SlotMapsModel", "blocks", "()I"⟩, 8), (⟨"SlotMapsModel", "bits", "()I"⟩, 8), (⟨"SlotMapsModel", "full", "()I"⟩, 8), (⟨"SlotMapsModel", "runs", "(Z)I"⟩, 8)]
theorem lw_r3 : ∀ q ∈ lw_privs_3, lw_okq q := List.forall_mem_cons.mpr ⟨lw_p32, List.forall_mem_cons.mpr ⟨lw_p33, List.forall_mem_cons.mpr ⟨lw_p34, List.forall_mem_cons.mpr ⟨lw_p35, List.forall_mem_cons.mpr ⟨lw_p36, List.forall_mem_cons.mpr ⟨lw_p37, List.forall_mem_cons.mpr ⟨lw_p38, List.forall_mem_cons.mpr ⟨lw_p39, List.forall_mem_cons.mpr ⟨lw_p40, List.forall_mem_cons.mpr ⟨lw_p41, List.forall_mem_cons.mpr ⟨lw_p42, fun _ h => absurd h List.not_mem_nil⟩⟩⟩⟩⟩⟩⟩⟩⟩⟩⟩
def lw_privs : List (MethodName × Nat) := lw_privs_1 ++ (lw_privs_2 ++ (lw_privs_3))
def lw_tbl : List Cond := k2_sels lw_privs ++ tables_1
theorem lw_privs_ok : ∀ q ∈ lw_privs, lw_okq q := by
  show ∀ q ∈ lw_privs_1 ++ (lw_privs_2 ++ (lw_privs_3)), lw_okq q
  exact List.forall_mem_append.mpr ⟨lw_r1, List.forall_mem_append.mpr ⟨lw_r2, lw_r3⟩⟩
-- ===== end of PART A; then your names; then what follows =====
end
section
/-! ===== BEGIN words of one list among another's, by their places ===== -/
theorem goodIn_r {big : List Cond} (ws : List Cond) (ps : List Nat) (hp : ws = ps.filterMap (fun i => big[i]?)) (h : ws.all goodWord = true) : GoodIn big ws := by
  intro w hw
  have h1 := List.all_eq_true.mp h w hw
  rw [hp] at hw
  obtain ⟨i, -, hi⟩ := List.mem_filterMap.mp hw
  have hm : w ∈ big := by first | exact List.mem_of_getElem? hi | exact List.getElem?_mem hi
  exact ⟨hm, good_of_word h1⟩
theorem goodIn_app {big a b : List Cond} (ha : GoodIn big a) (hb : GoodIn big b) : GoodIn big (a ++ b) := fun w h => (List.mem_append.mp h).elim (ha w) (hb w)
theorem goodIn_ca {big a b : List Cond} {c : Cond} (ha : GoodIn big (c :: a)) (hb : GoodIn big b) : GoodIn big (c :: (a ++ b)) := fun w h => (List.mem_cons.mp h).elim (fun e => ha w (List.mem_cons.mpr (Or.inl e))) (fun h => (List.mem_append.mp h).elim (fun h => ha w (List.mem_cons.mpr (Or.inr h))) (hb w))
theorem goodIn_sub {big ws : List Cond} (hm : ∀ w ∈ ws, w ∈ big) (h : ws.all goodWord = true) : GoodIn big ws := fun w hw => ⟨hm w hw, good_of_word (List.all_eq_true.mp h w hw)⟩
/-! ===== END ===== -/

/-! ===== BEGIN new T[n][m]: the outer array a place, the inner ones among the pooled ===== -/
/-- f, but v at every address of l -/
def vr_up {α : Type} (f : Nat → α) (l : List Nat) (v : α) : Nat → α := fun a => if a ∈ l then v else f a
theorem vr_up_in {α : Type} {f : Nat → α} {l : List Nat} {v : α} {a : Nat} (h : a ∈ l) : vr_up f l v a = v := if_pos h
theorem vr_up_ne {α : Type} {f : Nat → α} {l : List Nat} {v : α} {a : Nat} (h : a ∉ l) : vr_up f l v a = f a := if_neg h
theorem vr_rows {L l : List Nat} {f : Nat → va_E} {e : va_E} (h : ∀ a, a ∈ l → a ∉ L) : va_pl L f ++ l.map (fun a => (a, e)) = va_pl (L ++ l) (vr_up f l e) := by
  unfold va_pl
  rw [List.map_append]
  congr 1
  · apply List.map_congr_left
    intro a ha
    rw [vr_up_ne (fun q => h a q ha)]
  · apply List.map_congr_left
    intro a ha
    rw [vr_up_in ha]
theorem vr_lay {X rows : va_W} {x : Nat × va_E} {pl : va_W} {D : va_G} {cl : List vw_C} {H : Heap} (hP : va_P D cl (((X ++ pl) ++ [x]) ++ rows) H) : va_P D cl ((X ++ [x]) ++ (pl ++ rows)) H := by
  rw [List.append_assoc (X ++ pl)] at hP
  have h := va_P.swap hP
  rw [← List.append_assoc X] at h
  have h2 := va_P.swap h
  rw [List.append_assoc (X ++ [x])] at h2
  exact h2
theorem vr_layD {X rows : va_W} {x : Nat × va_E} {pl : va_W} {A : Nat → Prop} (hD : va_D A (((X ++ pl) ++ [x]) ++ rows)) : va_D A ((X ++ [x]) ++ (pl ++ rows)) := by
  rw [List.append_assoc (X ++ pl)] at hD
  have h := va_D.swap hD
  rw [← List.append_assoc X] at h
  have h2 := va_D.swap h
  rw [List.append_assoc (X ++ [x])] at h2
  exact h2
theorem vr_outer (c : ClassId) (N h0 : Nat) : ∀ i : Nat, Jvm.Free.Multi.outerC c N h0 i = arrV c N (fun j => va_rf (if j < i then some (h0 + 1 + j) else none))
  | 0 => by
    show ({ cls := c, slots := Array.replicate N .null, vm := .none } : Cell) = _
    rw [arrV_new]
    refine congrArg (arrV c N) (funext fun j => ?_)
    simp [va_rf]
  | i + 1 => by
    show (Jvm.Free.Multi.outerC c N h0 i).setSlot i (.ref (h0 + 1 + i)) = _
    rw [vr_outer c N h0 i, arrV_store]
    refine congrArg (arrV c N) (funext fun j => ?_)
    by_cases e : j = i
    · subst e
      simp [updV, va_rf]
    · by_cases h : j < i
      · simp [updV, e, h, Nat.lt_succ_of_lt h]
      · simp [updV, e, h, show ¬ j < i + 1 by omega]
section VGM
variable {p : Program} {l : Launch} {e : Env} {R : Room} {s : State} {m : MethodId} {args : Array Value} {below : List Frame} {meth : Method} {c : Code} {H : Heap} {locs : List Loc} {cells slots : Nat} {Q : State → Prop}
variable {cc : ByteArray} {pc : Nat} {ls : Array Slot} {rest : List Value} {D : va_G} {cl : List vw_C} {A : Nat → Prop} {a : Nat} {tys : List (ClassId × FieldType)} {ws : va_W} {H0 : Heap}
theorem va_mna {X : va_W} {L : List Nat} {f : Nat → va_E} {cc : ByteArray} (hexec : p.tables.exec = Jvm.exec) (hb : c.code = cc) {own : String} {index : Nat} {ty : FieldType} {cy : ClassId} (hown : s.vm.findClass own = some m.cls) (hclink : (Cond.classLink own index ("[" ++ (FieldType.array ty).toString)).before args s = true) (hover : va_AOA ty s) (harr : (Cond.arrayClass ty).before args s = true) (hcy : s.vm.findClass (FieldType.array ty).toString = some cy)
    (hK : va_K D cl tys s) (hP : va_P D cl (X ++ va_pl L f) H) (hD : va_D A (X ++ va_pl L f)) (hS : va_S A H0 H locs) (hA : ∀ q, H0.size ≤ q → A q) {n k : Int32} {N' K' : Nat} {z : vp_A} (hn : ¬ n < 0) (hk : ¬ k < 0) (hN : n.toNatClampNeg = N') (hM : k.toNatClampNeg = K')
    (hb1 : N' * 4 ≤ 536870912) (hb2 : K' * componentBytes ty ≤ 536870912) (hb3 : K' ≤ 536870912) (hdf : fits ty (defaultValue ty) = true) (hdd : (defaultValue ty).isDefault = true) (hcells : cells + (1 + N') ≤ R.cells) (hslots : slots + (N' + N' * K') ≤ R.slots) (hz : ∀ c : ClassId, Jvm.Free.Multi.innerC c K' (defaultValue ty) = vp_cell c z) (hdg : decode cc pc = .ok (.multianewarray index 2, 4))
    (kk : ∀ (q : Nat) (r : Nat → Nat) (cA : ClassId) (H1 : Heap), (∀ i j : Nat, i < N' → j < N' → r i = r j → i = j) → (∀ i : Nat, i < N' → r i ∉ L) → va_K D cl (tys ++ [(cA, .array ty)]) s →
      va_P D cl ((X ++ [(q, .inl (cA, N', .inr (.inr (.inr (.inr (fun i => if i < N' then some (r i) else none))))))]) ++ va_pl (L ++ (List.range N').map r) (vr_up f ((List.range N').map r) (.inl (cy, z)))) H1 → va_D A ((X ++ [(q, .inl (cA, N', .inr (.inr (.inr (.inr (fun i => if i < N' then some (r i) else none))))))]) ++ va_pl (L ++ (List.range N').map r) (vr_up f ((List.range N').map r) (.inl (cy, z)))) → va_S A H0 H1 locs →
      W p l e R s m args below meth c H1 locs (cells + 1 + N') (slots + N' + N' * K') Q (F0 m (pc + 4) ls (.ref q :: rest))) : W p l e R s m args below meth c H locs cells slots Q (F0 m pc ls (.int k :: .int n :: rest)) := by
  subst hN
  subst hM
  intro T hT Xs
  obtain ⟨vm₁, cA, comp, -, fA, fC, hO, -, X', step⟩ := Xs.multianewarray2F hexec hown hclink (va_AOA.use hover) harr (g := F0 m pc ls (.int k :: .int n :: rest)) rfl (by rw [hb]; exact hdg) rfl hn hk hb1 hb2 hb3 hdf hdd hcells hslots
  have ec : some cy = some comp := hcy.symm.trans fC
  cases ec
  generalize hF : Jvm.Free.Multi.fill (T.setVm vm₁) cA cy n.toNatClampNeg k.toNatClampNeg (defaultValue ty) n.toNatClampNeg = F at X' step
  have hTh : (T.setVm vm₁).heap = H := hT
  obtain ⟨f1, f2, -, -⟩ := Jvm.Free.Multi.fill_facts (T.setVm vm₁) cA cy n.toNatClampNeg k.toNatClampNeg (defaultValue ty) n.toNatClampNeg
  rw [hF, hTh] at f1 f2
  have hold : ∀ x : Nat, x < H.size → F.heap[x]? = H[x]? := fun x hx => by
    have := Jvm.Free.Multi.fill_old (T.setVm vm₁) cA cy n.toNatClampNeg k.toNatClampNeg (defaultValue ty) (a := x) (by rw [hTh]; exact hx) n.toNatClampNeg
    rw [hF, hTh] at this
    exact this
  have hrow : ∀ j : Nat, j < n.toNatClampNeg → F.heap[H.size + 1 + j]? = some (vp_cell cy z) := fun j hj => by
    have := Jvm.Free.Multi.fill_inner (T.setVm vm₁) cA cy n.toNatClampNeg k.toNatClampNeg (defaultValue ty) n.toNatClampNeg j hj
    rw [hF, hTh, hz] at this
    exact this
  have hout : Jvm.Free.Multi.outerC cA n.toNatClampNeg H.size n.toNatClampNeg = vp_cell cA (n.toNatClampNeg, .inr (.inr (.inr (.inr (fun i => if i < n.toNatClampNeg then some (H.size + 1 + i) else none))))) := by
    rw [vp_cell_q]
    exact vr_outer cA n.toNatClampNeg H.size n.toNatClampNeg
  rw [hout] at f2
  have hlt : ∀ a, a ∈ L → a < H.size := fun a ha => by
    obtain ⟨k9, hk9⟩ := va_pl_get (X := X) (f := f) ha
    exact (hP k9 _ hk9).lt
  have hnl : ∀ i : Nat, i < n.toNatClampNeg → H.size + 1 + i ∉ L := fun i _ h => by
    have := hlt _ h
    omega
  have hnm : ∀ a, a ∈ (List.range n.toNatClampNeg).map (fun i => H.size + 1 + i) → a ∉ L := fun a ha h => by
    obtain ⟨i, -, rfl⟩ := List.mem_map.mp ha
    have := hlt _ h
    omega
  have hP0 : va_P D cl (X ++ va_pl L f) F.heap := hP.kept (fun k9 x hx => hold x.1 ((hP k9 x hx).lt))
  have hP1 : va_P D cl ((X ++ va_pl L f) ++ [(H.size, .inl (cA, n.toNatClampNeg, .inr (.inr (.inr (.inr (fun i => if i < n.toNatClampNeg then some (H.size + 1 + i) else none))))))]) F.heap := hP0.app (fun k9 x hx => by
    have h0 : k9 < 1 := (List.getElem?_eq_some_iff.mp hx).1
    rw [show k9 = 0 by omega] at hx
    cases hx
    exact f2)
  have hP2 : va_P D cl (((X ++ va_pl L f) ++ [(H.size, .inl (cA, n.toNatClampNeg, .inr (.inr (.inr (.inr (fun i => if i < n.toNatClampNeg then some (H.size + 1 + i) else none))))))]) ++ ((List.range n.toNatClampNeg).map (fun i => H.size + 1 + i)).map (fun a => (a, .inl (cy, z)))) F.heap := hP1.app (fun k9 x hx => by
    obtain ⟨a, ha, rfl⟩ := List.mem_map.mp (List.mem_of_getElem? hx)
    obtain ⟨i, hi, rfl⟩ := List.mem_map.mp ha
    exact hrow i (List.mem_range.mp hi))
  have hD2 : va_D A (((X ++ va_pl L f) ++ [(H.size, .inl (cA, n.toNatClampNeg, .inr (.inr (.inr (.inr (fun i => if i < n.toNatClampNeg then some (H.size + 1 + i) else none))))))]) ++ ((List.range n.toNatClampNeg).map (fun i => H.size + 1 + i)).map (fun a => (a, .inl (cy, z)))) := by
    have hD1 := hD.push (e := .inl (cA, n.toNatClampNeg, .inr (.inr (.inr (.inr (fun i => if i < n.toNatClampNeg then some (H.size + 1 + i) else none)))))) hP rfl (hA _ hS.1)
    generalize hW1 : (X ++ va_pl L f) ++ [(H.size, .inl (cA, n.toNatClampNeg, .inr (.inr (.inr (.inr (fun i => if i < n.toNatClampNeg then some (H.size + 1 + i) else none))))))] = W1 at hD1 hP1 ⊢
    have hle : ∀ (k9 : Nat) (x : Nat × va_E), W1[k9]? = some x → x.1 ≤ H.size := fun k9 x hx => by
      rw [← hW1] at hx
      by_cases hl : k9 < (X ++ va_pl L f).length
      · rw [List.getElem?_append_left hl] at hx
        exact Nat.le_of_lt ((hP k9 x hx).lt)
      · rw [List.getElem?_append_right (by omega)] at hx
        have h0 : k9 - (X ++ va_pl L f).length < 1 := (List.getElem?_eq_some_iff.mp hx).1
        rw [show k9 - (X ++ va_pl L f).length = 0 by omega] at hx
        cases hx
        exact Nat.le_refl _
    have hr : ∀ (k9 : Nat) (x : Nat × va_E), (((List.range n.toNatClampNeg).map (fun i => H.size + 1 + i)).map (fun a => ((a, .inl (cy, z)) : Nat × va_E)))[k9]? = some x → x.1 = H.size + 1 + k9 := fun k9 x hx => by
      rw [List.getElem?_map, List.getElem?_map] at hx
      by_cases h9 : k9 < n.toNatClampNeg
      · rw [List.getElem?_range h9] at hx
        cases hx
        rfl
      · have hn0 : (List.range n.toNatClampNeg)[k9]? = none := List.getElem?_eq_none (by rw [List.length_range]; omega)
        rw [hn0] at hx
        cases hx
    refine ⟨fun i j x y hi hj hxy => ?_, fun k9 x hx => ?_⟩
    · by_cases h1 : i < W1.length <;> by_cases h2 : j < W1.length
      · rw [List.getElem?_append_left h1] at hi
        rw [List.getElem?_append_left h2] at hj
        exact hD1.1 i j x y hi hj hxy
      · rw [List.getElem?_append_left h1] at hi
        rw [List.getElem?_append_right (by omega)] at hj
        have := hle _ _ hi
        have := hr _ _ hj
        omega
      · rw [List.getElem?_append_right (by omega)] at hi
        rw [List.getElem?_append_left h2] at hj
        have := hle _ _ hj
        have := hr _ _ hi
        omega
      · rw [List.getElem?_append_right (by omega)] at hi hj
        have := hr _ _ hi
        have := hr _ _ hj
        omega
    · by_cases h1 : k9 < W1.length
      · rw [List.getElem?_append_left h1] at hx
        exact hD1.2 k9 x hx
      · rw [List.getElem?_append_right (by omega)] at hx
        have := hr _ _ hx
        exact hA _ (by have := hS.1; omega)
  have hAr : ArrOfT s cA (.array ty) := fun N9 z9 => by
    obtain ⟨-, k9, hk9, cm9, hkk9⟩ := (hO 0 0 0).1
    exact ⟨(fun q hq => by cases hq), k9, hk9, cm9, hkk9⟩
  have hK2 : va_K D cl (tys ++ [(cA, .array ty)]) s := ⟨hK.1, fun k9 x hx => by
    by_cases hl : k9 < tys.length
    · rw [List.getElem?_append_left hl] at hx
      exact hK.2 k9 x hx
    · rw [List.getElem?_append_right (by omega)] at hx
      have h0 : k9 - tys.length < 1 := (List.getElem?_eq_some_iff.mp hx).1
      rw [show k9 - tys.length = 0 by omega] at hx
      cases hx
      exact ⟨hAr, fA⟩⟩
  obtain ⟨t, a1, b1⟩ := kk H.size (fun i => H.size + 1 + i) cA F.heap (fun i j _ _ h => by have h9 : H.size + 1 + i = H.size + 1 + j := h; omega) hnl hK2 (by rw [← vr_rows hnm]; exact vr_lay hP2) (by rw [← vr_rows hnm]; exact vr_layD hD2) ⟨by rw [f1]; have := hS.1; omega, fun x h1 h2 => (hold x (Nat.lt_of_lt_of_le h1 hS.1)).trans (hS.2.1 x h1 h2), hS.2.2⟩ F rfl X'
  refine ⟨t, step t ?_, b1⟩
  have e : T.heap.size = H.size := by rw [hT]
  rw [e]
  exact a1
end VGM
/-! ===== END ===== -/

/-! ===== BEGIN printed: names, fields, word lists, decode rows ===== -/
def RX0 : String := "SlotMaps$History"
def TX0 : u_T := fun k => match k with
  | 0 => ("SlotMaps$History", "ring", "[LSlotMaps$Slots;", true)
  | 1 => ("SlotMaps$History", "oldest", "I", false)
  | _ => ("SlotMaps$History", "states", "I", false)
def tyX0 : Nat → FieldType := fun k => match k with
  | 0 => .array (.object "SlotMaps$Slots")
  | 1 => .int
  | _ => .int
abbrev wsX00 : List Cond := u_ws RX0 TX0 3
theorem nmX0 : ∀ a, a < 3 → ∀ b, b < 3 → a ≠ b → (TX0 a).2.1 ≠ (TX0 b).2.1 := by decide +kernel
theorem tyX0_ok : ∀ k, k < 3 → parseFieldDescriptor (TX0 k).2.2.1 = some (tyX0 k) := by decide +kernel
abbrev cX0_init : ByteArray := prog_2_method_1_code
def yX0_init : MethodName := ⟨RX0, "<init>", "()V"⟩
abbrev cX0_prepare : ByteArray := prog_2_method_2_code
def yX0_prepare : MethodName := ⟨RX0, "prepare", "(LSlotMaps$Slots;)V"⟩
abbrev cX0_takeBack : ByteArray := prog_2_method_3_code
def yX0_takeBack : MethodName := ⟨RX0, "takeBack", "(LSlotMaps$Slots;)V"⟩
abbrev cX0_keep : ByteArray := prog_2_method_4_code
def yX0_keep : MethodName := ⟨RX0, "keep", "()V"⟩
abbrev cX0_restoreLatest : ByteArray := prog_2_method_5_code
def yX0_restoreLatest : MethodName := ⟨RX0, "restoreLatest", "(LSlotMaps$Slots;)I"⟩
abbrev cX0_behindLatest : ByteArray := prog_2_method_6_code
def yX0_behindLatest : MethodName := ⟨RX0, "behindLatest", "()I"⟩
def RX1 : String := "SlotMaps$Program"
def TX1 : u_T := fun k => match k with
  | 0 => ("SlotMaps$Program", "letter", "C", false)
  | 1 => ("SlotMaps$Program", "letterPlace", "I", false)
  | 2 => ("SlotMaps$Program", "hasFrom", "Z", false)
  | 3 => ("SlotMaps$Program", "from", "I", false)
  | 4 => ("SlotMaps$Program", "number", "I", false)
  | _ => ("SlotMaps$Program", "digits", "I", false)
def tyX1 : Nat → FieldType := fun k => match k with
  | 0 => .char
  | 1 => .int
  | 2 => .boolean
  | 3 => .int
  | 4 => .int
  | _ => .int
abbrev wsX10 : List Cond := u_ws RX1 TX1 6
theorem nmX1 : ∀ a, a < 6 → ∀ b, b < 6 → a ≠ b → (TX1 a).2.1 ≠ (TX1 b).2.1 := by decide +kernel
theorem tyX1_ok : ∀ k, k < 6 → parseFieldDescriptor (TX1 k).2.2.1 = some (tyX1 k) := by decide +kernel
abbrev cX1_init : ByteArray := prog_3_method_1_code
def yX1_init : MethodName := ⟨RX1, "<init>", "()V"⟩
abbrev cX1_execute : ByteArray := prog_3_method_2_code
def yX1_execute : MethodName := ⟨RX1, "execute", "([CILSlotMaps$Slots;)I"⟩
abbrev cX1_readCharacter : ByteArray := prog_3_method_3_code
def yX1_readCharacter : MethodName := ⟨RX1, "readCharacter", "(CI)Z"⟩
abbrev cX1_readLetter : ByteArray := prog_3_method_4_code
def yX1_readLetter : MethodName := ⟨RX1, "readLetter", "(CI)Z"⟩
abbrev cX1_readDigit : ByteArray := prog_3_method_5_code
def yX1_readDigit : MethodName := ⟨RX1, "readDigit", "(I)Z"⟩
abbrev cX1_readDash : ByteArray := prog_3_method_6_code
def yX1_readDash : MethodName := ⟨RX1, "readDash", "()Z"⟩
abbrev cX1_mayEnd : ByteArray := prog_3_method_7_code
def yX1_mayEnd : MethodName := ⟨RX1, "mayEnd", "()Z"⟩
abbrev cX1_perform : ByteArray := prog_3_method_8_code
def yX1_perform : MethodName := ⟨RX1, "perform", "(LSlotMaps$Slots;)I"⟩
def RX2 : String := "SlotMaps$Slots"
def TX2 : u_T := fun k => match k with
  | 0 => ("SlotMaps$Slots", "bits", "[[I", true)
  | 1 => ("SlotMaps$Slots", "blockFirst", "[I", true)
  | 2 => ("SlotMaps$Slots", "blockSize", "[I", true)
  | 3 => ("SlotMaps$Slots", "summary", "I", false)
  | _ => ("SlotMaps$Slots", "looks", "I", false)
def tyX2 : Nat → FieldType := fun k => match k with
  | 0 => .array (.array .int)
  | 1 => .array .int
  | 2 => .array .int
  | 3 => .int
  | _ => .int
abbrev wsX20 : List Cond := u_ws RX2 TX2 5
theorem nmX2 : ∀ a, a < 5 → ∀ b, b < 5 → a ≠ b → (TX2 a).2.1 ≠ (TX2 b).2.1 := by decide +kernel
theorem tyX2_ok : ∀ k, k < 5 → parseFieldDescriptor (TX2 k).2.2.1 = some (tyX2 k) := by decide +kernel
abbrev cX2_init : ByteArray := prog_4_method_1_code
def yX2_init : MethodName := ⟨RX2, "<init>", "()V"⟩
abbrev cX2_copyFrom : ByteArray := prog_4_method_2_code
def yX2_copyFrom : MethodName := ⟨RX2, "copyFrom", "(LSlotMaps$Slots;)V"⟩
abbrev cX2_takeOne : ByteArray := prog_4_method_3_code
def yX2_takeOne : MethodName := ⟨RX2, "takeOne", "()I"⟩
abbrev cX2_takeBySummaries : ByteArray := prog_4_method_4_code
def yX2_takeBySummaries : MethodName := ⟨RX2, "takeBySummaries", "()I"⟩
abbrev cX2_takeMany : ByteArray := prog_4_method_5_code
def yX2_takeMany : MethodName := ⟨RX2, "takeMany", "(I)I"⟩
abbrev cX2_takeSideBySide : ByteArray := prog_4_method_6_code
def yX2_takeSideBySide : MethodName := ⟨RX2, "takeSideBySide", "(I)I"⟩
abbrev cX2_giveBackRange : ByteArray := prog_4_method_7_code
def yX2_giveBackRange : MethodName := ⟨RX2, "giveBackRange", "(II)I"⟩
abbrev cX2_clearWords : ByteArray := prog_4_method_8_code
def yX2_clearWords : MethodName := ⟨RX2, "clearWords", "(I)I"⟩
abbrev cX2_reserveBlock : ByteArray := prog_4_method_9_code
def yX2_reserveBlock : MethodName := ⟨RX2, "reserveBlock", "(I)I"⟩
abbrev cX2_takeInBlock : ByteArray := prog_4_method_10_code
def yX2_takeInBlock : MethodName := ⟨RX2, "takeInBlock", "(I)I"⟩
abbrev cX2_giveUpBlock : ByteArray := prog_4_method_11_code
def yX2_giveUpBlock : MethodName := ⟨RX2, "giveUpBlock", "(I)I"⟩
abbrev cX2_damageBit : ByteArray := prog_4_method_12_code
def yX2_damageBit : MethodName := ⟨RX2, "damageBit", "(I)I"⟩
abbrev cX2_repairBits : ByteArray := prog_4_method_13_code
def yX2_repairBits : MethodName := ⟨RX2, "repairBits", "()I"⟩
abbrev cX2_change : ByteArray := prog_4_method_14_code
def yX2_change : MethodName := ⟨RX2, "change", "(IIII)V"⟩
abbrev cX2_total : ByteArray := prog_4_method_15_code
def yX2_total : MethodName := ⟨RX2, "total", "(I)I"⟩
abbrev cX2_kindOf : ByteArray := prog_4_method_16_code
def yX2_kindOf : MethodName := ⟨RX2, "kindOf", "(I)I"⟩
abbrev cX2_isFree : ByteArray := prog_4_method_17_code
def yX2_isFree : MethodName := ⟨RX2, "isFree", "(I)Z"⟩
abbrev cX2_isFull : ByteArray := prog_4_method_18_code
def yX2_isFull : MethodName := ⟨RX2, "isFull", "(I)Z"⟩
abbrev cX2_firstFree : ByteArray := prog_4_method_19_code
def yX2_firstFree : MethodName := ⟨RX2, "firstFree", "(I)I"⟩
abbrev cX2_summaryBit : ByteArray := prog_4_method_20_code
def yX2_summaryBit : MethodName := ⟨RX2, "summaryBit", "(I)I"⟩
abbrev cX2_rightSummary : ByteArray := prog_4_method_21_code
def yX2_rightSummary : MethodName := ⟨RX2, "rightSummary", "()I"⟩
abbrev cX2_runStart : ByteArray := prog_4_method_22_code
def yX2_runStart : MethodName := ⟨RX2, "runStart", "(I)I"⟩
abbrev cX2_freeRuns : ByteArray := prog_4_method_23_code
def yX2_freeRuns : MethodName := ⟨RX2, "freeRuns", "()I"⟩
abbrev cX2_longestFreeRun : ByteArray := prog_4_method_24_code
def yX2_longestFreeRun : MethodName := ⟨RX2, "longestFreeRun", "()I"⟩
abbrev cX2_reachable : ByteArray := prog_4_method_25_code
def yX2_reachable : MethodName := ⟨RX2, "reachable", "()I"⟩
abbrev cX2_hasBlock : ByteArray := prog_4_method_26_code
def yX2_hasBlock : MethodName := ⟨RX2, "hasBlock", "(I)Z"⟩
abbrev cX2_blockTotal : ByteArray := prog_4_method_27_code
def yX2_blockTotal : MethodName := ⟨RX2, "blockTotal", "()I"⟩
abbrev cX2_firstUnusedBlock : ByteArray := prog_4_method_28_code
def yX2_firstUnusedBlock : MethodName := ⟨RX2, "firstUnusedBlock", "()I"⟩
abbrev cX2_placeStart : ByteArray := prog_4_method_29_code
def yX2_placeStart : MethodName := ⟨RX2, "placeStart", "(I)I"⟩
abbrev cX2_blockOf : ByteArray := prog_4_method_30_code
def yX2_blockOf : MethodName := ⟨RX2, "blockOf", "(I)I"⟩
abbrev cX2_totalInBlock : ByteArray := prog_4_method_31_code
def yX2_totalInBlock : MethodName := ⟨RX2, "totalInBlock", "(II)I"⟩
abbrev cX2_blockBits : ByteArray := prog_4_method_32_code
def yX2_blockBits : MethodName := ⟨RX2, "blockBits", "(I)I"⟩
abbrev cX2_ownedBits : ByteArray := prog_4_method_33_code
def yX2_ownedBits : MethodName := ⟨RX2, "ownedBits", "(I)I"⟩
def RX3 : String := "SlotMaps"
def TX3 : u_T := fun k => match k with
  | 0 => ("SlotMaps", "now", "LSlotMaps$Slots;", true)
  | 1 => ("SlotMaps", "trial", "LSlotMaps$Slots;", true)
  | 2 => ("SlotMaps", "history", "LSlotMaps$History;", true)
  | 3 => ("SlotMaps", "program", "LSlotMaps$Program;", true)
  | 4 => ("SlotMaps", "text", "[C", true)
  | _ => ("SlotMaps", "textLength", "I", false)
def tyX3 : Nat → FieldType := fun k => match k with
  | 0 => .object "SlotMaps$Slots"
  | 1 => .object "SlotMaps$Slots"
  | 2 => .object "SlotMaps$History"
  | 3 => .object "SlotMaps$Program"
  | 4 => .array .char
  | _ => .int
abbrev wsX30 : List Cond := u_ws RX3 TX3 6
theorem nmX3 : ∀ a, a < 6 → ∀ b, b < 6 → a ≠ b → (TX3 a).2.1 ≠ (TX3 b).2.1 := by decide +kernel
theorem tyX3_ok : ∀ k, k < 6 → parseFieldDescriptor (TX3 k).2.2.1 = some (tyX3 k) := by decide +kernel
abbrev cX3_init : ByteArray := prog_1_method_1_code
def yX3_init : MethodName := ⟨RX3, "<init>", "()V"⟩
abbrev cX3_take : ByteArray := prog_1_method_2_code
def yX3_take : MethodName := ⟨RX3, "take", "()I"⟩
abbrev cX3_takeRun : ByteArray := prog_1_method_3_code
def yX3_takeRun : MethodName := ⟨RX3, "takeRun", "(I)I"⟩
abbrev cX3_giveBack : ByteArray := prog_1_method_4_code
def yX3_giveBack : MethodName := ⟨RX3, "giveBack", "(II)I"⟩
abbrev cX3_clear : ByteArray := prog_1_method_5_code
def yX3_clear : MethodName := ⟨RX3, "clear", "(I)I"⟩
abbrev cX3_reserve : ByteArray := prog_1_method_6_code
def yX3_reserve : MethodName := ⟨RX3, "reserve", "(I)I"⟩
abbrev cX3_takeIn : ByteArray := prog_1_method_7_code
def yX3_takeIn : MethodName := ⟨RX3, "takeIn", "(I)I"⟩
abbrev cX3_giveUp : ByteArray := prog_1_method_8_code
def yX3_giveUp : MethodName := ⟨RX3, "giveUp", "(I)I"⟩
abbrev cX3_damage : ByteArray := prog_1_method_9_code
def yX3_damage : MethodName := ⟨RX3, "damage", "(I)I"⟩
abbrev cX3_repair : ByteArray := prog_1_method_10_code
def yX3_repair : MethodName := ⟨RX3, "repair", "()I"⟩
abbrev cX3_undo : ByteArray := prog_1_method_11_code
def yX3_undo : MethodName := ⟨RX3, "undo", "()I"⟩
abbrev cX3_append : ByteArray := prog_1_method_12_code
def yX3_append : MethodName := ⟨RX3, "append", "(I)I"⟩
abbrev cX3_clearText : ByteArray := prog_1_method_13_code
def yX3_clearText : MethodName := ⟨RX3, "clearText", "()I"⟩
abbrev cX3_run : ByteArray := prog_1_method_14_code
def yX3_run : MethodName := ⟨RX3, "run", "()I"⟩
abbrev cX3_count : ByteArray := prog_1_method_15_code
def yX3_count : MethodName := ⟨RX3, "count", "(I)I"⟩
abbrev cX3_slot : ByteArray := prog_1_method_16_code
def yX3_slot : MethodName := ⟨RX3, "slot", "(II)I"⟩
abbrev cX3_word : ByteArray := prog_1_method_17_code
def yX3_word : MethodName := ⟨RX3, "word", "(II)I"⟩
abbrev cX3_block : ByteArray := prog_1_method_18_code
def yX3_block : MethodName := ⟨RX3, "block", "(II)I"⟩
abbrev cX3_audit : ByteArray := prog_1_method_19_code
def yX3_audit : MethodName := ⟨RX3, "audit", "(I)I"⟩
abbrev cX3_next : ByteArray := prog_1_method_20_code
def yX3_next : MethodName := ⟨RX3, "next", "(I)I"⟩
abbrev cX3_runAt : ByteArray := prog_1_method_21_code
def yX3_runAt : MethodName := ⟨RX3, "runAt", "(I)I"⟩
abbrev cX3_placeFor : ByteArray := prog_1_method_22_code
def yX3_placeFor : MethodName := ⟨RX3, "placeFor", "(I)I"⟩
abbrev cX3_takes : ByteArray := prog_1_method_23_code
def yX3_takes : MethodName := ⟨RX3, "takes", "()I"⟩
abbrev cX3_settle : ByteArray := prog_1_method_24_code
def yX3_settle : MethodName := ⟨RX3, "settle", "(I)I"⟩
abbrev cX3_isRunLength : ByteArray := prog_1_method_25_code
def yX3_isRunLength : MethodName := ⟨RX3, "isRunLength", "(I)Z"⟩
abbrev cX3_isBlockSize : ByteArray := prog_1_method_26_code
def yX3_isBlockSize : MethodName := ⟨RX3, "isBlockSize", "(I)Z"⟩
abbrev cX3_wordOf : ByteArray := prog_1_method_27_code
def yX3_wordOf : MethodName := ⟨RX3, "wordOf", "(I)I"⟩
abbrev cX3_bitOf : ByteArray := prog_1_method_28_code
def yX3_bitOf : MethodName := ⟨RX3, "bitOf", "(I)I"⟩
abbrev cX3_lowestBit : ByteArray := prog_1_method_29_code
def yX3_lowestBit : MethodName := ⟨RX3, "lowestBit", "(I)I"⟩
abbrev cX3_rangeBits : ByteArray := prog_1_method_30_code
def yX3_rangeBits : MethodName := ⟨RX3, "rangeBits", "(III)I"⟩
def RX4 : String := "SlotMapsModel"
def TX4 : u_T := fun k => match k with
  | 0 => ("SlotMapsModel", "now", "[I", true)
  | 1 => ("SlotMapsModel", "past", "[I", true)
  | 2 => ("SlotMapsModel", "pasts", "I", false)
  | 3 => ("SlotMapsModel", "before", "[I", true)
  | 4 => ("SlotMapsModel", "trial", "[I", true)
  | 5 => ("SlotMapsModel", "text", "[I", true)
  | 6 => ("SlotMapsModel", "typed", "I", false)
  | _ => ("SlotMapsModel", "at", "I", false)
def tyX4 : Nat → FieldType := fun k => match k with
  | 0 => .array .int
  | 1 => .array .int
  | 2 => .int
  | 3 => .array .int
  | 4 => .array .int
  | 5 => .array .int
  | 6 => .int
  | _ => .int
abbrev wsX40 : List Cond := u_ws RX4 TX4 8
theorem nmX4 : ∀ a, a < 8 → ∀ b, b < 8 → a ≠ b → (TX4 a).2.1 ≠ (TX4 b).2.1 := by decide +kernel
theorem tyX4_ok : ∀ k, k < 8 → parseFieldDescriptor (TX4 k).2.2.1 = some (tyX4 k) := by decide +kernel
abbrev cX4_init : ByteArray := prog_6_method_1_code
def yX4_init : MethodName := ⟨RX4, "<init>", "()V"⟩
abbrev cX4_in : ByteArray := prog_6_method_2_code
def yX4_in : MethodName := ⟨RX4, "in", "(III)Z"⟩
abbrev cX4_copies : ByteArray := prog_6_method_3_code
def yX4_copies : MethodName := ⟨RX4, "copies", "([II[II)V"⟩
abbrev cX4_notes : ByteArray := prog_6_method_4_code
def yX4_notes : MethodName := ⟨RX4, "notes", "()V"⟩
abbrev cX4_ends : ByteArray := prog_6_method_5_code
def yX4_ends : MethodName := ⟨RX4, "ends", "(I)I"⟩
abbrev cX4_inWord : ByteArray := prog_6_method_6_code
def yX4_inWord : MethodName := ⟨RX4, "inWord", "(II)I"⟩
abbrev cX4_inAll : ByteArray := prog_6_method_7_code
def yX4_inAll : MethodName := ⟨RX4, "inAll", "(I)I"⟩
abbrev cX4_right : ByteArray := prog_6_method_8_code
def yX4_right : MethodName := ⟨RX4, "right", "(I)I"⟩
abbrev cX4_becomes : ByteArray := prog_6_method_9_code
def yX4_becomes : MethodName := ⟨RX4, "becomes", "(II)V"⟩
abbrev cX4_firstIn : ByteArray := prog_6_method_10_code
def yX4_firstIn : MethodName := ⟨RX4, "firstIn", "(I)I"⟩
abbrev cX4_goesThrough : ByteArray := prog_6_method_11_code
def yX4_goesThrough : MethodName := ⟨RX4, "goesThrough", "()I"⟩
abbrev cX4_clears : ByteArray := prog_6_method_12_code
def yX4_clears : MethodName := ⟨RX4, "clears", "(I)I"⟩
abbrev cX4_takes1 : ByteArray := prog_6_method_13_code
def yX4_takes1 : MethodName := ⟨RX4, "takes1", "()I"⟩
abbrev cX4_take : ByteArray := prog_6_method_14_code
def yX4_take : MethodName := ⟨RX4, "take", "()I"⟩
abbrev cX4_runFrom : ByteArray := prog_6_method_15_code
def yX4_runFrom : MethodName := ⟨RX4, "runFrom", "(I)I"⟩
abbrev cX4_takeRun : ByteArray := prog_6_method_16_code
def yX4_takeRun : MethodName := ⟨RX4, "takeRun", "(I)I"⟩
abbrev cX4_givesBack : ByteArray := prog_6_method_17_code
def yX4_givesBack : MethodName := ⟨RX4, "givesBack", "(II)I"⟩
abbrev cX4_giveBack : ByteArray := prog_6_method_18_code
def yX4_giveBack : MethodName := ⟨RX4, "giveBack", "(II)I"⟩
abbrev cX4_clearsSome : ByteArray := prog_6_method_19_code
def yX4_clearsSome : MethodName := ⟨RX4, "clearsSome", "(I)I"⟩
abbrev cX4_clear : ByteArray := prog_6_method_20_code
def yX4_clear : MethodName := ⟨RX4, "clear", "(I)I"⟩
abbrev cX4_isBlock : ByteArray := prog_6_method_21_code
def yX4_isBlock : MethodName := ⟨RX4, "isBlock", "(I)Z"⟩
abbrev cX4_isSize : ByteArray := prog_6_method_22_code
def yX4_isSize : MethodName := ⟨RX4, "isSize", "(I)Z"⟩
abbrev cX4_placeOf : ByteArray := prog_6_method_23_code
def yX4_placeOf : MethodName := ⟨RX4, "placeOf", "(I)I"⟩
abbrev cX4_reserves : ByteArray := prog_6_method_24_code
def yX4_reserves : MethodName := ⟨RX4, "reserves", "(I)I"⟩
abbrev cX4_reserve : ByteArray := prog_6_method_25_code
def yX4_reserve : MethodName := ⟨RX4, "reserve", "(I)I"⟩
abbrev cX4_takesIn : ByteArray := prog_6_method_26_code
def yX4_takesIn : MethodName := ⟨RX4, "takesIn", "(I)I"⟩
abbrev cX4_takeIn : ByteArray := prog_6_method_27_code
def yX4_takeIn : MethodName := ⟨RX4, "takeIn", "(I)I"⟩
abbrev cX4_giveUp : ByteArray := prog_6_method_28_code
def yX4_giveUp : MethodName := ⟨RX4, "giveUp", "(I)I"⟩
abbrev cX4_isWord : ByteArray := prog_6_method_29_code
def yX4_isWord : MethodName := ⟨RX4, "isWord", "(I)Z"⟩
abbrev cX4_damages : ByteArray := prog_6_method_30_code
def yX4_damages : MethodName := ⟨RX4, "damages", "(I)I"⟩
abbrev cX4_damage : ByteArray := prog_6_method_31_code
def yX4_damage : MethodName := ⟨RX4, "damage", "(I)I"⟩
abbrev cX4_repairs : ByteArray := prog_6_method_32_code
def yX4_repairs : MethodName := ⟨RX4, "repairs", "()I"⟩
abbrev cX4_repair : ByteArray := prog_6_method_33_code
def yX4_repair : MethodName := ⟨RX4, "repair", "()I"⟩
abbrev cX4_undo : ByteArray := prog_6_method_34_code
def yX4_undo : MethodName := ⟨RX4, "undo", "()I"⟩
abbrev cX4_append : ByteArray := prog_6_method_35_code
def yX4_append : MethodName := ⟨RX4, "append", "(I)I"⟩
abbrev cX4_clearText : ByteArray := prog_6_method_36_code
def yX4_clearText : MethodName := ⟨RX4, "clearText", "()I"⟩
abbrev cX4_signAt : ByteArray := prog_6_method_37_code
def yX4_signAt : MethodName := ⟨RX4, "signAt", "(I)I"⟩
abbrev cX4_isDigit : ByteArray := prog_6_method_38_code
def yX4_isDigit : MethodName := ⟨RX4, "isDigit", "()Z"⟩
abbrev cX4_number : ByteArray := prog_6_method_39_code
def yX4_number : MethodName := ⟨RX4, "number", "()I"⟩
abbrev cX4_takesMany : ByteArray := prog_6_method_40_code
def yX4_takesMany : MethodName := ⟨RX4, "takesMany", "(I)I"⟩
abbrev cX4_does : ByteArray := prog_6_method_41_code
def yX4_does : MethodName := ⟨RX4, "does", "(III)I"⟩
abbrev cX4_isLetter : ByteArray := prog_6_method_42_code
def yX4_isLetter : MethodName := ⟨RX4, "isLetter", "(I)Z"⟩
abbrev cX4_runsOne : ByteArray := prog_6_method_43_code
def yX4_runsOne : MethodName := ⟨RX4, "runsOne", "()Z"⟩
abbrev cX4_run : ByteArray := prog_6_method_44_code
def yX4_run : MethodName := ⟨RX4, "run", "()I"⟩
abbrev cX4_bits : ByteArray := prog_6_method_45_code
def yX4_bits : MethodName := ⟨RX4, "bits", "()I"⟩
abbrev cX4_full : ByteArray := prog_6_method_46_code
def yX4_full : MethodName := ⟨RX4, "full", "()I"⟩
abbrev cX4_runs : ByteArray := prog_6_method_47_code
def yX4_runs : MethodName := ⟨RX4, "runs", "(Z)I"⟩
abbrev cX4_blocks : ByteArray := prog_6_method_48_code
def yX4_blocks : MethodName := ⟨RX4, "blocks", "()I"⟩
abbrev cX4_count : ByteArray := prog_6_method_49_code
def yX4_count : MethodName := ⟨RX4, "count", "(I)I"⟩
abbrev cX4_slot : ByteArray := prog_6_method_50_code
def yX4_slot : MethodName := ⟨RX4, "slot", "(II)I"⟩
abbrev cX4_word : ByteArray := prog_6_method_51_code
def yX4_word : MethodName := ⟨RX4, "word", "(II)I"⟩
abbrev cX4_block : ByteArray := prog_6_method_52_code
def yX4_block : MethodName := ⟨RX4, "block", "(II)I"⟩
abbrev cX4_audit : ByteArray := prog_6_method_53_code
def yX4_audit : MethodName := ⟨RX4, "audit", "(I)I"⟩
abbrev cX4_next : ByteArray := prog_6_method_54_code
def yX4_next : MethodName := ⟨RX4, "next", "(I)I"⟩
abbrev cX4_runAt : ByteArray := prog_6_method_55_code
def yX4_runAt : MethodName := ⟨RX4, "runAt", "(I)I"⟩
abbrev cX4_placeFor : ByteArray := prog_6_method_56_code
def yX4_placeFor : MethodName := ⟨RX4, "placeFor", "(I)I"⟩
abbrev cX4_takes : ByteArray := prog_6_method_57_code
def yX4_takes : MethodName := ⟨RX4, "takes", "()I"⟩
def RJ6 : String := "java/lang/Integer"
def TJ6 : u_T := fun k => match k with
  | _ => ("", "", "", false)
def tyJ6 : Nat → FieldType := fun k => match k with
  | _ => .int
abbrev wsJ60 : List Cond := u_ws RJ6 TJ6 0
theorem nmJ6 : ∀ a, a < 0 → ∀ b, b < 0 → a ≠ b → (TJ6 a).2.1 ≠ (TJ6 b).2.1 := by decide +kernel
theorem tyJ6_ok : ∀ k, k < 0 → parseFieldDescriptor (TJ6 k).2.2.1 = some (tyJ6 k) := by decide +kernel
abbrev cJ6_bitCount_0f7a4 : ByteArray := prog_7_method_49_code
def yJ6_bitCount_0f7a4 : MethodName := ⟨RJ6, "bitCount", "(I)I"⟩
def RJ9 : String := "java/lang/Math"
def TJ9 : u_T := fun k => match k with
  | _ => ("", "", "", false)
def tyJ9 : Nat → FieldType := fun k => match k with
  | _ => .int
abbrev wsJ90 : List Cond := u_ws RJ9 TJ9 0
theorem nmJ9 : ∀ a, a < 0 → ∀ b, b < 0 → a ≠ b → (TJ9 a).2.1 ≠ (TJ9 b).2.1 := by decide +kernel
theorem tyJ9_ok : ∀ k, k < 0 → parseFieldDescriptor (TJ9 k).2.2.1 = some (tyJ9 k) := by decide +kernel
abbrev cJ9_max_7cf53 : ByteArray := prog_8_method_65_code
def yJ9_max_7cf53 : MethodName := ⟨RJ9, "max", "(II)I"⟩
abbrev cJ9_min_7cf53 : ByteArray := prog_8_method_69_code
def yJ9_min_7cf53 : MethodName := ⟨RJ9, "min", "(II)I"⟩
def RJ10 : String := "java/lang/System"
def TJ10 : u_T := fun k => match k with
  | _ => ("", "", "", false)
def tyJ10 : Nat → FieldType := fun k => match k with
  | _ => .int
abbrev wsJ100 : List Cond := u_ws RJ10 TJ10 0
theorem nmJ10 : ∀ a, a < 0 → ∀ b, b < 0 → a ≠ b → (TJ10 a).2.1 ≠ (TJ10 b).2.1 := by decide +kernel
theorem tyJ10_ok : ∀ k, k < 0 → parseFieldDescriptor (TJ10 k).2.2.1 = some (tyJ10 k) := by decide +kernel
def RL : String := "SlotMapsLaw"
abbrev cL_law : ByteArray := code
def yL_law : MethodName := ⟨RL, "law", "([I)Z"⟩
def wsX2_init : List Cond := .code yX2_init cX2_init 2 none :: ([.methodLink RX2 3 objectInit, .instanceMethod objectInit, .code objectInit ⟨#[0xb1]⟩ 1 none, .classLink RX2 9 "[[I", .arrayClass .int, .fieldLink RX2 11 "SlotMaps$Slots" "bits" "[[I", .fieldLink RX2 16 "SlotMaps$Slots" "blockFirst" "[I", .fieldLink RX2 20 "SlotMaps$Slots" "blockSize" "[I", .fieldLink RX2 23 "SlotMaps$Slots" "summary" "I", .fieldLink RX2 27 "SlotMaps$Slots" "looks" "I"] ++ wsX20)
def wsX0_init : List Cond := .code yX0_init cX0_init 2 none :: ([.methodLink RX0 3 objectInit, .instanceMethod objectInit, .code objectInit ⟨#[0xb1]⟩ 1 none, .classLink RX0 9 RX2, .fieldLink RX0 11 "SlotMaps$History" "ring" "[LSlotMaps$Slots;", .instantiable RX2 5, .initialized RX2, .fieldLink RX0 18 "SlotMaps$History" "oldest" "I", .fieldLink RX0 22 "SlotMaps$History" "states" "I", .methodLink RX0 17 yX2_init, .instanceMethod yX2_init, .code yX2_init cX2_init 2 none, .methodLink RX2 3 objectInit, .classLink RX2 9 "[[I", .arrayClass .int, .fieldLink RX2 11 "SlotMaps$Slots" "bits" "[[I", .fieldLink RX2 16 "SlotMaps$Slots" "blockFirst" "[I", .fieldLink RX2 20 "SlotMaps$Slots" "blockSize" "[I", .fieldLink RX2 23 "SlotMaps$Slots" "summary" "I", .fieldLink RX2 27 "SlotMaps$Slots" "looks" "I"] ++ wsX00 ++ wsX20)
def wsX0_behindLatest : List Cond := .code yX0_behindLatest cX0_behindLatest 1 (some .int) :: ([.fieldLink RX0 18 "SlotMaps$History" "oldest" "I", .fieldLink RX0 22 "SlotMaps$History" "states" "I"] ++ wsX00)
def wsX2_copyFrom : List Cond := .code yX2_copyFrom cX2_copyFrom 3 none :: ([.fieldLink RX2 11 "SlotMaps$Slots" "bits" "[[I", .methodLink RX2 30 arraycopyName, .native arraycopyName, .static arraycopyName, .initialized "java/lang/System", .fieldLink RX2 16 "SlotMaps$Slots" "blockFirst" "[I", .fieldLink RX2 20 "SlotMaps$Slots" "blockSize" "[I", .fieldLink RX2 23 "SlotMaps$Slots" "summary" "I", .fieldLink RX2 27 "SlotMaps$Slots" "looks" "I"] ++ wsX20)
def wsX0_prepare : List Cond := .code yX0_prepare cX0_prepare 2 none :: ([.fieldLink RX0 11 "SlotMaps$History" "ring" "[LSlotMaps$Slots;", .methodLink RX0 25 yX0_behindLatest, .instanceMethod yX0_behindLatest, .selects RX0 yX0_behindLatest yX0_behindLatest, .initialized RX0, .code yX0_behindLatest cX0_behindLatest 1 (some .int), .fieldLink RX0 18 "SlotMaps$History" "oldest" "I", .fieldLink RX0 22 "SlotMaps$History" "states" "I", .methodLink RX0 29 yX2_copyFrom, .instanceMethod yX2_copyFrom, .selects RX2 yX2_copyFrom yX2_copyFrom, .initialized RX2, .code yX2_copyFrom cX2_copyFrom 3 none, .fieldLink RX2 11 "SlotMaps$Slots" "bits" "[[I", .methodLink RX2 30 arraycopyName, .native arraycopyName, .static arraycopyName, .initialized "java/lang/System", .fieldLink RX2 16 "SlotMaps$Slots" "blockFirst" "[I", .fieldLink RX2 20 "SlotMaps$Slots" "blockSize" "[I", .fieldLink RX2 23 "SlotMaps$Slots" "summary" "I", .fieldLink RX2 27 "SlotMaps$Slots" "looks" "I"] ++ wsX00 ++ wsX20)
def wsX0_takeBack : List Cond := .code yX0_takeBack cX0_takeBack 2 none :: ([.fieldLink RX0 11 "SlotMaps$History" "ring" "[LSlotMaps$Slots;", .methodLink RX0 25 yX0_behindLatest, .instanceMethod yX0_behindLatest, .selects RX0 yX0_behindLatest yX0_behindLatest, .initialized RX0, .code yX0_behindLatest cX0_behindLatest 1 (some .int), .fieldLink RX0 18 "SlotMaps$History" "oldest" "I", .fieldLink RX0 22 "SlotMaps$History" "states" "I", .methodLink RX0 29 yX2_copyFrom, .instanceMethod yX2_copyFrom, .selects RX2 yX2_copyFrom yX2_copyFrom, .initialized RX2, .code yX2_copyFrom cX2_copyFrom 3 none, .fieldLink RX2 11 "SlotMaps$Slots" "bits" "[[I", .methodLink RX2 30 arraycopyName, .native arraycopyName, .static arraycopyName, .initialized "java/lang/System", .fieldLink RX2 16 "SlotMaps$Slots" "blockFirst" "[I", .fieldLink RX2 20 "SlotMaps$Slots" "blockSize" "[I", .fieldLink RX2 23 "SlotMaps$Slots" "summary" "I", .fieldLink RX2 27 "SlotMaps$Slots" "looks" "I"] ++ wsX00 ++ wsX20)
def wsX0_keep : List Cond := .code yX0_keep cX0_keep 1 none :: ([.fieldLink RX0 22 "SlotMaps$History" "states" "I", .fieldLink RX0 18 "SlotMaps$History" "oldest" "I"] ++ wsX00)
def wsX0_restoreLatest_r1 : List Cond := [Cond.fieldLink RX0 22 "SlotMaps$History" "states" "I", Cond.methodLink RX0 33 yX0_takeBack, Cond.instanceMethod yX0_takeBack, Cond.selects RX0 yX0_takeBack yX0_takeBack, Cond.initialized RX0, Cond.code yX0_takeBack cX0_takeBack 2 none, Cond.fieldLink RX0 11 "SlotMaps$History" "ring" "[LSlotMaps$Slots;", Cond.methodLink RX0 25 yX0_behindLatest, Cond.instanceMethod yX0_behindLatest, Cond.selects RX0 yX0_behindLatest yX0_behindLatest, Cond.code yX0_behindLatest cX0_behindLatest 1 (some .int), Cond.fieldLink RX0 18 "SlotMaps$History" "oldest" "I", Cond.methodLink RX0 29 yX2_copyFrom, Cond.instanceMethod yX2_copyFrom, Cond.selects RX2 yX2_copyFrom yX2_copyFrom, Cond.initialized RX2, Cond.code yX2_copyFrom cX2_copyFrom 3 none, Cond.fieldLink RX2 11 "SlotMaps$Slots" "bits" "[[I", Cond.methodLink RX2 30 arraycopyName, Cond.native arraycopyName, Cond.static arraycopyName, Cond.initialized "java/lang/System", Cond.fieldLink RX2 16 "SlotMaps$Slots" "blockFirst" "[I", Cond.fieldLink RX2 20 "SlotMaps$Slots" "blockSize" "[I"]
def wsX0_restoreLatest_r2 : List Cond := [Cond.fieldLink RX2 23 "SlotMaps$Slots" "summary" "I", Cond.fieldLink RX2 27 "SlotMaps$Slots" "looks" "I"]
def wsX0_restoreLatest : List Cond := .code yX0_restoreLatest cX0_restoreLatest 2 (some .int) :: ((wsX0_restoreLatest_r1 ++ wsX0_restoreLatest_r2) ++ wsX00 ++ wsX20)
def wsX1_init : List Cond := .code yX1_init cX1_init 1 none :: ([.methodLink RX1 3 objectInit, .instanceMethod objectInit, .code objectInit ⟨#[0xb1]⟩ 1 none, .fieldLink RX1 11 "SlotMaps$Program" "letter" "C"] ++ wsX10)
def wsX1_readLetter : List Cond := .code yX1_readLetter cX1_readLetter 3 (some .boolean) :: ([.fieldLink RX1 11 "SlotMaps$Program" "letter" "C", .fieldLink RX1 23 "SlotMaps$Program" "letterPlace" "I", .fieldLink RX1 41 "SlotMaps$Program" "hasFrom" "Z", .fieldLink RX1 45 "SlotMaps$Program" "number" "I", .fieldLink RX1 48 "SlotMaps$Program" "digits" "I"] ++ wsX10)
def wsX1_readDigit : List Cond := .code yX1_readDigit cX1_readDigit 3 (some .boolean) :: ([.fieldLink RX1 48 "SlotMaps$Program" "digits" "I", .fieldLink RX1 45 "SlotMaps$Program" "number" "I", .fieldLink RX1 11 "SlotMaps$Program" "letter" "C"] ++ wsX10)
def wsX1_readDash : List Cond := .code yX1_readDash cX1_readDash 1 (some .boolean) :: ([.fieldLink RX1 11 "SlotMaps$Program" "letter" "C", .fieldLink RX1 41 "SlotMaps$Program" "hasFrom" "Z", .fieldLink RX1 48 "SlotMaps$Program" "digits" "I", .fieldLink RX1 45 "SlotMaps$Program" "number" "I", .fieldLink RX1 51 "SlotMaps$Program" "from" "I"] ++ wsX10)
def wsX1_mayEnd : List Cond := .code yX1_mayEnd cX1_mayEnd 1 (some .boolean) :: ([.fieldLink RX1 48 "SlotMaps$Program" "digits" "I", .fieldLink RX1 11 "SlotMaps$Program" "letter" "C"] ++ wsX10)
def wsX1_readCharacter : List Cond := .code yX1_readCharacter cX1_readCharacter 3 (some .boolean) :: ([.fieldLink RX1 11 "SlotMaps$Program" "letter" "C", .methodLink RX1 27 yX1_readLetter, .instanceMethod yX1_readLetter, .selects RX1 yX1_readLetter yX1_readLetter, .initialized RX1, .code yX1_readLetter cX1_readLetter 3 (some .boolean), .fieldLink RX1 23 "SlotMaps$Program" "letterPlace" "I", .fieldLink RX1 41 "SlotMaps$Program" "hasFrom" "Z", .fieldLink RX1 45 "SlotMaps$Program" "number" "I", .fieldLink RX1 48 "SlotMaps$Program" "digits" "I", .methodLink RX1 30 yX1_readDigit, .instanceMethod yX1_readDigit, .selects RX1 yX1_readDigit yX1_readDigit, .code yX1_readDigit cX1_readDigit 3 (some .boolean), .methodLink RX1 34 yX1_readDash, .instanceMethod yX1_readDash, .selects RX1 yX1_readDash yX1_readDash, .code yX1_readDash cX1_readDash 1 (some .boolean), .fieldLink RX1 51 "SlotMaps$Program" "from" "I", .methodLink RX1 38 yX1_mayEnd, .instanceMethod yX1_mayEnd, .selects RX1 yX1_mayEnd yX1_mayEnd, .code yX1_mayEnd cX1_mayEnd 1 (some .boolean)] ++ wsX10)
def wsX2_summaryBit : List Cond := .code yX2_summaryBit cX2_summaryBit 2 (some .int) :: ([.fieldLink RX2 23 "SlotMaps$Slots" "summary" "I"] ++ wsX20)
def wsX2_isFull : List Cond := .code yX2_isFull cX2_isFull 2 (some .boolean) :: ([.fieldLink RX2 11 "SlotMaps$Slots" "bits" "[[I"] ++ wsX20)
def wsJ6_bitCount_0f7a4 : List Cond := .code yJ6_bitCount_0f7a4 cJ6_bitCount_0f7a4 1 (some .int) :: ([.constant RJ6 265 (1431655765), .constant RJ6 266 (858993459), .constant RJ6 267 (252645135)])
def wsX3_lowestBit : List Cond := .code yX3_lowestBit cX3_lowestBit 1 (some .int) :: ([.methodLink RX3 98 yJ6_bitCount_0f7a4, .static yJ6_bitCount_0f7a4, .initialized RJ6, .code yJ6_bitCount_0f7a4 cJ6_bitCount_0f7a4 1 (some .int), .constant RJ6 265 (1431655765), .constant RJ6 266 (858993459), .constant RJ6 267 (252645135)])
def wsX3_bitOf : List Cond := .code yX3_bitOf cX3_bitOf 1 (some .int) :: ([])
def wsX2_change : List Cond := .code yX2_change cX2_change 5 none :: ([.fieldLink RX2 11 "SlotMaps$Slots" "bits" "[[I", .fieldLink RX2 23 "SlotMaps$Slots" "summary" "I", .methodLink RX2 47 yX2_isFull, .instanceMethod yX2_isFull, .selects RX2 yX2_isFull yX2_isFull, .initialized RX2, .code yX2_isFull cX2_isFull 2 (some .boolean)] ++ wsX20)
def wsX2_takeBySummaries_r1 : List Cond := [Cond.fieldLink RX2 27 "SlotMaps$Slots" "looks" "I", Cond.fieldLink RX2 11 "SlotMaps$Slots" "bits" "[[I", Cond.fieldLink RX2 23 "SlotMaps$Slots" "summary" "I", Cond.methodLink RX2 44 yX2_summaryBit, Cond.instanceMethod yX2_summaryBit, Cond.selects RX2 yX2_summaryBit yX2_summaryBit, Cond.initialized RX2, Cond.code yX2_summaryBit cX2_summaryBit 2 (some .int), Cond.methodLink RX2 47 yX2_isFull, Cond.instanceMethod yX2_isFull, Cond.selects RX2 yX2_isFull yX2_isFull, Cond.code yX2_isFull cX2_isFull 2 (some .boolean), Cond.static yX3_lowestBit, Cond.initialized RX3, Cond.code yX3_lowestBit cX3_lowestBit 1 (some .int), Cond.methodLink RX3 98 yJ6_bitCount_0f7a4, Cond.static yJ6_bitCount_0f7a4, Cond.initialized RJ6, Cond.code yJ6_bitCount_0f7a4 cJ6_bitCount_0f7a4 1 (some .int), Cond.constant RJ6 265 (1431655765), Cond.constant RJ6 266 (858993459), Cond.constant RJ6 267 (252645135), Cond.static yX3_bitOf, Cond.code yX3_bitOf cX3_bitOf 1 (some .int)]
def wsX2_takeBySummaries_r2 : List Cond := [Cond.methodLink RX2 57 yX2_change, Cond.instanceMethod yX2_change, Cond.selects RX2 yX2_change yX2_change, Cond.code yX2_change cX2_change 5 none]
def wsX2_takeBySummaries : List Cond := .code yX2_takeBySummaries cX2_takeBySummaries 3 (some .int) :: ((wsX2_takeBySummaries_r1 ++ wsX2_takeBySummaries_r2) ++ wsX20)
def wsX2_clearWords : List Cond := .code yX2_clearWords cX2_clearWords 6 (some .int) :: ([.fieldLink RX2 11 "SlotMaps$Slots" "bits" "[[I", .methodLink RX2 57 yX2_change, .instanceMethod yX2_change, .selects RX2 yX2_change yX2_change, .initialized RX2, .code yX2_change cX2_change 5 none, .fieldLink RX2 23 "SlotMaps$Slots" "summary" "I", .methodLink RX2 47 yX2_isFull, .instanceMethod yX2_isFull, .selects RX2 yX2_isFull yX2_isFull, .code yX2_isFull cX2_isFull 2 (some .boolean), .methodLink RX2 80 yJ6_bitCount_0f7a4, .static yJ6_bitCount_0f7a4, .initialized RJ6, .code yJ6_bitCount_0f7a4 cJ6_bitCount_0f7a4 1 (some .int), .constant RJ6 265 (1431655765), .constant RJ6 266 (858993459), .constant RJ6 267 (252645135)] ++ wsX20)
def wsX2_takeOne_r1 : List Cond := [Cond.methodLink RX2 36 yX2_takeBySummaries, Cond.instanceMethod yX2_takeBySummaries, Cond.selects RX2 yX2_takeBySummaries yX2_takeBySummaries, Cond.initialized RX2, Cond.code yX2_takeBySummaries cX2_takeBySummaries 3 (some .int), Cond.fieldLink RX2 27 "SlotMaps$Slots" "looks" "I", Cond.fieldLink RX2 11 "SlotMaps$Slots" "bits" "[[I", Cond.fieldLink RX2 23 "SlotMaps$Slots" "summary" "I", Cond.methodLink RX2 44 yX2_summaryBit, Cond.instanceMethod yX2_summaryBit, Cond.selects RX2 yX2_summaryBit yX2_summaryBit, Cond.code yX2_summaryBit cX2_summaryBit 2 (some .int), Cond.methodLink RX2 47 yX2_isFull, Cond.instanceMethod yX2_isFull, Cond.selects RX2 yX2_isFull yX2_isFull, Cond.code yX2_isFull cX2_isFull 2 (some .boolean), Cond.static yX3_lowestBit, Cond.initialized RX3, Cond.code yX3_lowestBit cX3_lowestBit 1 (some .int), Cond.methodLink RX3 98 yJ6_bitCount_0f7a4, Cond.static yJ6_bitCount_0f7a4, Cond.initialized RJ6, Cond.code yJ6_bitCount_0f7a4 cJ6_bitCount_0f7a4 1 (some .int), Cond.constant RJ6 265 (1431655765)]
def wsX2_takeOne_r2 : List Cond := [Cond.constant RJ6 266 (858993459), Cond.constant RJ6 267 (252645135), Cond.static yX3_bitOf, Cond.code yX3_bitOf cX3_bitOf 1 (some .int), Cond.methodLink RX2 57 yX2_change, Cond.instanceMethod yX2_change, Cond.selects RX2 yX2_change yX2_change, Cond.code yX2_change cX2_change 5 none, Cond.methodLink RX2 40 yX2_clearWords, Cond.instanceMethod yX2_clearWords, Cond.selects RX2 yX2_clearWords yX2_clearWords, Cond.code yX2_clearWords cX2_clearWords 6 (some .int), Cond.methodLink RX2 80 yJ6_bitCount_0f7a4]
def wsX2_takeOne : List Cond := .code yX2_takeOne cX2_takeOne 2 (some .int) :: ((wsX2_takeOne_r1 ++ wsX2_takeOne_r2) ++ wsX20)
def wsX2_takeMany_r1 : List Cond := [Cond.methodLink RX2 61 yX2_takeOne, Cond.instanceMethod yX2_takeOne, Cond.selects RX2 yX2_takeOne yX2_takeOne, Cond.initialized RX2, Cond.code yX2_takeOne cX2_takeOne 2 (some .int), Cond.methodLink RX2 36 yX2_takeBySummaries, Cond.instanceMethod yX2_takeBySummaries, Cond.selects RX2 yX2_takeBySummaries yX2_takeBySummaries, Cond.code yX2_takeBySummaries cX2_takeBySummaries 3 (some .int), Cond.fieldLink RX2 27 "SlotMaps$Slots" "looks" "I", Cond.fieldLink RX2 11 "SlotMaps$Slots" "bits" "[[I", Cond.fieldLink RX2 23 "SlotMaps$Slots" "summary" "I", Cond.methodLink RX2 44 yX2_summaryBit, Cond.instanceMethod yX2_summaryBit, Cond.selects RX2 yX2_summaryBit yX2_summaryBit, Cond.code yX2_summaryBit cX2_summaryBit 2 (some .int), Cond.methodLink RX2 47 yX2_isFull, Cond.instanceMethod yX2_isFull, Cond.selects RX2 yX2_isFull yX2_isFull, Cond.code yX2_isFull cX2_isFull 2 (some .boolean), Cond.static yX3_lowestBit, Cond.initialized RX3, Cond.code yX3_lowestBit cX3_lowestBit 1 (some .int), Cond.methodLink RX3 98 yJ6_bitCount_0f7a4]
def wsX2_takeMany_r2 : List Cond := [Cond.static yJ6_bitCount_0f7a4, Cond.initialized RJ6, Cond.code yJ6_bitCount_0f7a4 cJ6_bitCount_0f7a4 1 (some .int), Cond.constant RJ6 265 (1431655765), Cond.constant RJ6 266 (858993459), Cond.constant RJ6 267 (252645135), Cond.static yX3_bitOf, Cond.code yX3_bitOf cX3_bitOf 1 (some .int), Cond.methodLink RX2 57 yX2_change, Cond.instanceMethod yX2_change, Cond.selects RX2 yX2_change yX2_change, Cond.code yX2_change cX2_change 5 none, Cond.methodLink RX2 40 yX2_clearWords, Cond.instanceMethod yX2_clearWords, Cond.selects RX2 yX2_clearWords yX2_clearWords, Cond.code yX2_clearWords cX2_clearWords 6 (some .int), Cond.methodLink RX2 80 yJ6_bitCount_0f7a4]
def wsX2_takeMany : List Cond := .code yX2_takeMany cX2_takeMany 3 (some .int) :: ((wsX2_takeMany_r1 ++ wsX2_takeMany_r2) ++ wsX20)
def wsX3_rangeBits : List Cond := .code yX3_rangeBits cX3_rangeBits 5 (some .int) :: ([.methodLink RX3 175 Lib.Math.max.name, .static Lib.Math.max.name, .initialized "java/lang/Math", .code Lib.Math.max.name Lib.Math.max.code 2 (some .int), .methodLink RX3 180 Lib.Math.min.name, .static Lib.Math.min.name, .code Lib.Math.min.name Lib.Math.min.code 2 (some .int)])
def wsX3_wordOf : List Cond := .code yX3_wordOf cX3_wordOf 1 (some .int) :: ([])
def wsX2_blockBits : List Cond := .code yX2_blockBits cX2_blockBits 3 (some .int) :: ([.fieldLink RX2 16 "SlotMaps$Slots" "blockFirst" "[I", .fieldLink RX2 20 "SlotMaps$Slots" "blockSize" "[I", .static yX3_wordOf, .initialized RX3, .code yX3_wordOf cX3_wordOf 1 (some .int), .static yX3_rangeBits, .code yX3_rangeBits cX3_rangeBits 5 (some .int), .methodLink RX3 175 Lib.Math.max.name, .static Lib.Math.max.name, .initialized "java/lang/Math", .code Lib.Math.max.name Lib.Math.max.code 2 (some .int), .methodLink RX3 180 Lib.Math.min.name, .static Lib.Math.min.name, .code Lib.Math.min.name Lib.Math.min.code 2 (some .int)] ++ wsX20)
def wsX2_ownedBits : List Cond := .code yX2_ownedBits cX2_ownedBits 4 (some .int) :: ([.fieldLink RX2 16 "SlotMaps$Slots" "blockFirst" "[I", .static yX3_wordOf, .initialized RX3, .code yX3_wordOf cX3_wordOf 1 (some .int), .methodLink RX2 94 yX2_blockBits, .instanceMethod yX2_blockBits, .selects RX2 yX2_blockBits yX2_blockBits, .initialized RX2, .code yX2_blockBits cX2_blockBits 3 (some .int), .fieldLink RX2 20 "SlotMaps$Slots" "blockSize" "[I", .static yX3_rangeBits, .code yX3_rangeBits cX3_rangeBits 5 (some .int), .methodLink RX3 175 Lib.Math.max.name, .static Lib.Math.max.name, .initialized "java/lang/Math", .code Lib.Math.max.name Lib.Math.max.code 2 (some .int), .methodLink RX3 180 Lib.Math.min.name, .static Lib.Math.min.name, .code Lib.Math.min.name Lib.Math.min.code 2 (some .int)] ++ wsX20)
def wsX2_giveBackRange_r1 : List Cond := [Cond.fieldLink RX2 11 "SlotMaps$Slots" "bits" "[[I", Cond.static yX3_rangeBits, Cond.initialized RX3, Cond.code yX3_rangeBits cX3_rangeBits 5 (some .int), Cond.methodLink RX3 175 Lib.Math.max.name, Cond.static Lib.Math.max.name, Cond.initialized "java/lang/Math", Cond.code Lib.Math.max.name Lib.Math.max.code 2 (some .int), Cond.methodLink RX3 180 Lib.Math.min.name, Cond.static Lib.Math.min.name, Cond.code Lib.Math.min.name Lib.Math.min.code 2 (some .int), Cond.methodLink RX2 77 yX2_ownedBits, Cond.instanceMethod yX2_ownedBits, Cond.selects RX2 yX2_ownedBits yX2_ownedBits, Cond.initialized RX2, Cond.code yX2_ownedBits cX2_ownedBits 4 (some .int), Cond.fieldLink RX2 16 "SlotMaps$Slots" "blockFirst" "[I", Cond.static yX3_wordOf, Cond.code yX3_wordOf cX3_wordOf 1 (some .int), Cond.methodLink RX2 94 yX2_blockBits, Cond.instanceMethod yX2_blockBits, Cond.selects RX2 yX2_blockBits yX2_blockBits, Cond.code yX2_blockBits cX2_blockBits 3 (some .int), Cond.fieldLink RX2 20 "SlotMaps$Slots" "blockSize" "[I"]
def wsX2_giveBackRange_r2 : List Cond := [Cond.methodLink RX2 57 yX2_change, Cond.instanceMethod yX2_change, Cond.selects RX2 yX2_change yX2_change, Cond.code yX2_change cX2_change 5 none, Cond.fieldLink RX2 23 "SlotMaps$Slots" "summary" "I", Cond.methodLink RX2 47 yX2_isFull, Cond.instanceMethod yX2_isFull, Cond.selects RX2 yX2_isFull yX2_isFull, Cond.code yX2_isFull cX2_isFull 2 (some .boolean), Cond.methodLink RX2 80 yJ6_bitCount_0f7a4, Cond.static yJ6_bitCount_0f7a4, Cond.initialized RJ6, Cond.code yJ6_bitCount_0f7a4 cJ6_bitCount_0f7a4 1 (some .int), Cond.constant RJ6 265 (1431655765), Cond.constant RJ6 266 (858993459), Cond.constant RJ6 267 (252645135)]
def wsX2_giveBackRange : List Cond := .code yX2_giveBackRange cX2_giveBackRange 7 (some .int) :: ((wsX2_giveBackRange_r1 ++ wsX2_giveBackRange_r2) ++ wsX20)
def wsX3_isBlockSize : List Cond := .code yX3_isBlockSize cX3_isBlockSize 1 (some .boolean) :: ([])
def wsX2_hasBlock : List Cond := .code yX2_hasBlock cX2_hasBlock 2 (some .boolean) :: ([.fieldLink RX2 20 "SlotMaps$Slots" "blockSize" "[I"] ++ wsX20)
def wsX2_firstUnusedBlock : List Cond := .code yX2_firstUnusedBlock cX2_firstUnusedBlock 2 (some .int) :: ([.methodLink RX2 97 yX2_hasBlock, .instanceMethod yX2_hasBlock, .selects RX2 yX2_hasBlock yX2_hasBlock, .initialized RX2, .code yX2_hasBlock cX2_hasBlock 2 (some .boolean), .fieldLink RX2 20 "SlotMaps$Slots" "blockSize" "[I"] ++ wsX20)
def wsX2_placeStart : List Cond := .code yX2_placeStart cX2_placeStart 5 (some .int) :: ([.fieldLink RX2 11 "SlotMaps$Slots" "bits" "[[I", .static yX3_wordOf, .initialized RX3, .code yX3_wordOf cX3_wordOf 1 (some .int), .static yX3_rangeBits, .code yX3_rangeBits cX3_rangeBits 5 (some .int), .methodLink RX3 175 Lib.Math.max.name, .static Lib.Math.max.name, .initialized "java/lang/Math", .code Lib.Math.max.name Lib.Math.max.code 2 (some .int), .methodLink RX3 180 Lib.Math.min.name, .static Lib.Math.min.name, .code Lib.Math.min.name Lib.Math.min.code 2 (some .int)] ++ wsX20)
def wsX2_reserveBlock_r1 : List Cond := [Cond.fieldLink RX2 16 "SlotMaps$Slots" "blockFirst" "[I", Cond.fieldLink RX2 20 "SlotMaps$Slots" "blockSize" "[I", Cond.static yX3_isBlockSize, Cond.initialized RX3, Cond.code yX3_isBlockSize cX3_isBlockSize 1 (some .boolean), Cond.methodLink RX2 88 yX2_firstUnusedBlock, Cond.instanceMethod yX2_firstUnusedBlock, Cond.selects RX2 yX2_firstUnusedBlock yX2_firstUnusedBlock, Cond.initialized RX2, Cond.code yX2_firstUnusedBlock cX2_firstUnusedBlock 2 (some .int), Cond.methodLink RX2 97 yX2_hasBlock, Cond.instanceMethod yX2_hasBlock, Cond.selects RX2 yX2_hasBlock yX2_hasBlock, Cond.code yX2_hasBlock cX2_hasBlock 2 (some .boolean), Cond.methodLink RX2 91 yX2_placeStart, Cond.instanceMethod yX2_placeStart, Cond.selects RX2 yX2_placeStart yX2_placeStart, Cond.code yX2_placeStart cX2_placeStart 5 (some .int), Cond.fieldLink RX2 11 "SlotMaps$Slots" "bits" "[[I", Cond.static yX3_wordOf, Cond.code yX3_wordOf cX3_wordOf 1 (some .int), Cond.static yX3_rangeBits, Cond.code yX3_rangeBits cX3_rangeBits 5 (some .int), Cond.methodLink RX3 175 Lib.Math.max.name]
def wsX2_reserveBlock_r2 : List Cond := [Cond.static Lib.Math.max.name, Cond.initialized "java/lang/Math", Cond.code Lib.Math.max.name Lib.Math.max.code 2 (some .int), Cond.methodLink RX3 180 Lib.Math.min.name, Cond.static Lib.Math.min.name, Cond.code Lib.Math.min.name Lib.Math.min.code 2 (some .int), Cond.methodLink RX2 94 yX2_blockBits, Cond.instanceMethod yX2_blockBits, Cond.selects RX2 yX2_blockBits yX2_blockBits, Cond.code yX2_blockBits cX2_blockBits 3 (some .int), Cond.methodLink RX2 57 yX2_change, Cond.instanceMethod yX2_change, Cond.selects RX2 yX2_change yX2_change, Cond.code yX2_change cX2_change 5 none, Cond.fieldLink RX2 23 "SlotMaps$Slots" "summary" "I", Cond.methodLink RX2 47 yX2_isFull, Cond.instanceMethod yX2_isFull, Cond.selects RX2 yX2_isFull yX2_isFull, Cond.code yX2_isFull cX2_isFull 2 (some .boolean)]
def wsX2_reserveBlock : List Cond := .code yX2_reserveBlock cX2_reserveBlock 4 (some .int) :: ((wsX2_reserveBlock_r1 ++ wsX2_reserveBlock_r2) ++ wsX20)
def wsX2_takeInBlock_r1 : List Cond := [Cond.fieldLink RX2 16 "SlotMaps$Slots" "blockFirst" "[I", Cond.fieldLink RX2 11 "SlotMaps$Slots" "bits" "[[I", Cond.methodLink RX2 97 yX2_hasBlock, Cond.instanceMethod yX2_hasBlock, Cond.selects RX2 yX2_hasBlock yX2_hasBlock, Cond.initialized RX2, Cond.code yX2_hasBlock cX2_hasBlock 2 (some .boolean), Cond.fieldLink RX2 20 "SlotMaps$Slots" "blockSize" "[I", Cond.static yX3_wordOf, Cond.initialized RX3, Cond.code yX3_wordOf cX3_wordOf 1 (some .int), Cond.methodLink RX2 94 yX2_blockBits, Cond.instanceMethod yX2_blockBits, Cond.selects RX2 yX2_blockBits yX2_blockBits, Cond.code yX2_blockBits cX2_blockBits 3 (some .int), Cond.static yX3_rangeBits, Cond.code yX3_rangeBits cX3_rangeBits 5 (some .int), Cond.methodLink RX3 175 Lib.Math.max.name, Cond.static Lib.Math.max.name, Cond.initialized "java/lang/Math", Cond.code Lib.Math.max.name Lib.Math.max.code 2 (some .int), Cond.methodLink RX3 180 Lib.Math.min.name, Cond.static Lib.Math.min.name, Cond.code Lib.Math.min.name Lib.Math.min.code 2 (some .int)]
def wsX2_takeInBlock_r2 : List Cond := [Cond.static yX3_lowestBit, Cond.code yX3_lowestBit cX3_lowestBit 1 (some .int), Cond.methodLink RX3 98 yJ6_bitCount_0f7a4, Cond.static yJ6_bitCount_0f7a4, Cond.initialized RJ6, Cond.code yJ6_bitCount_0f7a4 cJ6_bitCount_0f7a4 1 (some .int), Cond.constant RJ6 265 (1431655765), Cond.constant RJ6 266 (858993459), Cond.constant RJ6 267 (252645135), Cond.static yX3_bitOf, Cond.code yX3_bitOf cX3_bitOf 1 (some .int), Cond.methodLink RX2 57 yX2_change, Cond.instanceMethod yX2_change, Cond.selects RX2 yX2_change yX2_change, Cond.code yX2_change cX2_change 5 none, Cond.fieldLink RX2 23 "SlotMaps$Slots" "summary" "I", Cond.methodLink RX2 47 yX2_isFull, Cond.instanceMethod yX2_isFull, Cond.selects RX2 yX2_isFull yX2_isFull, Cond.code yX2_isFull cX2_isFull 2 (some .boolean)]
def wsX2_takeInBlock : List Cond := .code yX2_takeInBlock cX2_takeInBlock 5 (some .int) :: ((wsX2_takeInBlock_r1 ++ wsX2_takeInBlock_r2) ++ wsX20)
def wsX2_damageBit : List Cond := .code yX2_damageBit cX2_damageBit 2 (some .int) :: ([.fieldLink RX2 23 "SlotMaps$Slots" "summary" "I", .methodLink RX2 44 yX2_summaryBit, .instanceMethod yX2_summaryBit, .selects RX2 yX2_summaryBit yX2_summaryBit, .initialized RX2, .code yX2_summaryBit cX2_summaryBit 2 (some .int)] ++ wsX20)
def wsX2_rightSummary : List Cond := .code yX2_rightSummary cX2_rightSummary 3 (some .int) :: ([.methodLink RX2 47 yX2_isFull, .instanceMethod yX2_isFull, .selects RX2 yX2_isFull yX2_isFull, .initialized RX2, .code yX2_isFull cX2_isFull 2 (some .boolean), .fieldLink RX2 11 "SlotMaps$Slots" "bits" "[[I"] ++ wsX20)
def wsX2_repairBits : List Cond := .code yX2_repairBits cX2_repairBits 3 (some .int) :: ([.fieldLink RX2 23 "SlotMaps$Slots" "summary" "I", .methodLink RX2 100 yX2_rightSummary, .instanceMethod yX2_rightSummary, .selects RX2 yX2_rightSummary yX2_rightSummary, .initialized RX2, .code yX2_rightSummary cX2_rightSummary 3 (some .int), .methodLink RX2 47 yX2_isFull, .instanceMethod yX2_isFull, .selects RX2 yX2_isFull yX2_isFull, .code yX2_isFull cX2_isFull 2 (some .boolean), .fieldLink RX2 11 "SlotMaps$Slots" "bits" "[[I", .methodLink RX2 80 yJ6_bitCount_0f7a4, .static yJ6_bitCount_0f7a4, .initialized RJ6, .code yJ6_bitCount_0f7a4 cJ6_bitCount_0f7a4 1 (some .int), .constant RJ6 265 (1431655765), .constant RJ6 266 (858993459), .constant RJ6 267 (252645135)] ++ wsX20)
def wsX1_perform_r1 : List Cond := [Cond.fieldLink RX1 11 "SlotMaps$Program" "letter" "C", Cond.fieldLink RX1 48 "SlotMaps$Program" "digits" "I", Cond.fieldLink RX1 45 "SlotMaps$Program" "number" "I", Cond.fieldLink RX1 41 "SlotMaps$Program" "hasFrom" "Z", Cond.fieldLink RX1 51 "SlotMaps$Program" "from" "I", Cond.methodLink RX1 54 yX2_takeMany, Cond.instanceMethod yX2_takeMany, Cond.selects RX2 yX2_takeMany yX2_takeMany, Cond.initialized RX2, Cond.code yX2_takeMany cX2_takeMany 3 (some .int), Cond.methodLink RX2 61 yX2_takeOne, Cond.instanceMethod yX2_takeOne, Cond.selects RX2 yX2_takeOne yX2_takeOne, Cond.code yX2_takeOne cX2_takeOne 2 (some .int), Cond.methodLink RX2 36 yX2_takeBySummaries, Cond.instanceMethod yX2_takeBySummaries, Cond.selects RX2 yX2_takeBySummaries yX2_takeBySummaries, Cond.code yX2_takeBySummaries cX2_takeBySummaries 3 (some .int), Cond.fieldLink RX2 27 "SlotMaps$Slots" "looks" "I", Cond.fieldLink RX2 11 "SlotMaps$Slots" "bits" "[[I", Cond.fieldLink RX2 23 "SlotMaps$Slots" "summary" "I", Cond.methodLink RX2 44 yX2_summaryBit, Cond.instanceMethod yX2_summaryBit, Cond.selects RX2 yX2_summaryBit yX2_summaryBit]
def wsX1_perform_r2 : List Cond := [Cond.code yX2_summaryBit cX2_summaryBit 2 (some .int), Cond.methodLink RX2 47 yX2_isFull, Cond.instanceMethod yX2_isFull, Cond.selects RX2 yX2_isFull yX2_isFull, Cond.code yX2_isFull cX2_isFull 2 (some .boolean), Cond.static yX3_lowestBit, Cond.initialized RX3, Cond.code yX3_lowestBit cX3_lowestBit 1 (some .int), Cond.methodLink RX3 98 yJ6_bitCount_0f7a4, Cond.static yJ6_bitCount_0f7a4, Cond.initialized RJ6, Cond.code yJ6_bitCount_0f7a4 cJ6_bitCount_0f7a4 1 (some .int), Cond.constant RJ6 265 (1431655765), Cond.constant RJ6 266 (858993459), Cond.constant RJ6 267 (252645135), Cond.static yX3_bitOf, Cond.code yX3_bitOf cX3_bitOf 1 (some .int), Cond.methodLink RX2 57 yX2_change, Cond.instanceMethod yX2_change, Cond.selects RX2 yX2_change yX2_change, Cond.code yX2_change cX2_change 5 none, Cond.methodLink RX2 40 yX2_clearWords, Cond.instanceMethod yX2_clearWords, Cond.selects RX2 yX2_clearWords yX2_clearWords]
def wsX1_perform_r3 : List Cond := [Cond.code yX2_clearWords cX2_clearWords 6 (some .int), Cond.methodLink RX2 80 yJ6_bitCount_0f7a4, Cond.methodLink RX1 60 yX2_giveBackRange, Cond.instanceMethod yX2_giveBackRange, Cond.selects RX2 yX2_giveBackRange yX2_giveBackRange, Cond.code yX2_giveBackRange cX2_giveBackRange 7 (some .int), Cond.static yX3_rangeBits, Cond.code yX3_rangeBits cX3_rangeBits 5 (some .int), Cond.methodLink RX3 175 Lib.Math.max.name, Cond.static Lib.Math.max.name, Cond.initialized "java/lang/Math", Cond.code Lib.Math.max.name Lib.Math.max.code 2 (some .int), Cond.methodLink RX3 180 Lib.Math.min.name, Cond.static Lib.Math.min.name, Cond.code Lib.Math.min.name Lib.Math.min.code 2 (some .int), Cond.methodLink RX2 77 yX2_ownedBits, Cond.instanceMethod yX2_ownedBits, Cond.selects RX2 yX2_ownedBits yX2_ownedBits, Cond.code yX2_ownedBits cX2_ownedBits 4 (some .int), Cond.fieldLink RX2 16 "SlotMaps$Slots" "blockFirst" "[I", Cond.static yX3_wordOf, Cond.code yX3_wordOf cX3_wordOf 1 (some .int), Cond.methodLink RX2 94 yX2_blockBits, Cond.instanceMethod yX2_blockBits]
def wsX1_perform_r4 : List Cond := [Cond.selects RX2 yX2_blockBits yX2_blockBits, Cond.code yX2_blockBits cX2_blockBits 3 (some .int), Cond.fieldLink RX2 20 "SlotMaps$Slots" "blockSize" "[I", Cond.methodLink RX1 64 yX2_clearWords, Cond.methodLink RX1 67 yX2_reserveBlock, Cond.instanceMethod yX2_reserveBlock, Cond.selects RX2 yX2_reserveBlock yX2_reserveBlock, Cond.code yX2_reserveBlock cX2_reserveBlock 4 (some .int), Cond.static yX3_isBlockSize, Cond.code yX3_isBlockSize cX3_isBlockSize 1 (some .boolean), Cond.methodLink RX2 88 yX2_firstUnusedBlock, Cond.instanceMethod yX2_firstUnusedBlock, Cond.selects RX2 yX2_firstUnusedBlock yX2_firstUnusedBlock, Cond.code yX2_firstUnusedBlock cX2_firstUnusedBlock 2 (some .int), Cond.methodLink RX2 97 yX2_hasBlock, Cond.instanceMethod yX2_hasBlock, Cond.selects RX2 yX2_hasBlock yX2_hasBlock, Cond.code yX2_hasBlock cX2_hasBlock 2 (some .boolean), Cond.methodLink RX2 91 yX2_placeStart, Cond.instanceMethod yX2_placeStart, Cond.selects RX2 yX2_placeStart yX2_placeStart, Cond.code yX2_placeStart cX2_placeStart 5 (some .int), Cond.methodLink RX1 70 yX2_takeInBlock, Cond.instanceMethod yX2_takeInBlock]
def wsX1_perform_r5 : List Cond := [Cond.selects RX2 yX2_takeInBlock yX2_takeInBlock, Cond.code yX2_takeInBlock cX2_takeInBlock 5 (some .int), Cond.methodLink RX1 73 yX2_damageBit, Cond.instanceMethod yX2_damageBit, Cond.selects RX2 yX2_damageBit yX2_damageBit, Cond.code yX2_damageBit cX2_damageBit 2 (some .int), Cond.methodLink RX1 76 yX2_repairBits, Cond.instanceMethod yX2_repairBits, Cond.selects RX2 yX2_repairBits yX2_repairBits, Cond.code yX2_repairBits cX2_repairBits 3 (some .int), Cond.methodLink RX2 100 yX2_rightSummary, Cond.instanceMethod yX2_rightSummary, Cond.selects RX2 yX2_rightSummary yX2_rightSummary, Cond.code yX2_rightSummary cX2_rightSummary 3 (some .int)]
def wsX1_perform : List Cond := .code yX1_perform cX1_perform 2 (some .int) :: ((wsX1_perform_r1 ++ (wsX1_perform_r2 ++ (wsX1_perform_r3 ++ (wsX1_perform_r4 ++ wsX1_perform_r5)))) ++ wsX10 ++ wsX20)
def wsX1_execute_r1 : List Cond := [Cond.fieldLink RX1 11 "SlotMaps$Program" "letter" "C", Cond.fieldLink RX1 23 "SlotMaps$Program" "letterPlace" "I", Cond.methodLink RX1 15 yX1_readCharacter, Cond.instanceMethod yX1_readCharacter, Cond.selects RX1 yX1_readCharacter yX1_readCharacter, Cond.initialized RX1, Cond.code yX1_readCharacter cX1_readCharacter 3 (some .boolean), Cond.methodLink RX1 27 yX1_readLetter, Cond.instanceMethod yX1_readLetter, Cond.selects RX1 yX1_readLetter yX1_readLetter, Cond.code yX1_readLetter cX1_readLetter 3 (some .boolean), Cond.fieldLink RX1 41 "SlotMaps$Program" "hasFrom" "Z", Cond.fieldLink RX1 45 "SlotMaps$Program" "number" "I", Cond.fieldLink RX1 48 "SlotMaps$Program" "digits" "I", Cond.methodLink RX1 30 yX1_readDigit, Cond.instanceMethod yX1_readDigit, Cond.selects RX1 yX1_readDigit yX1_readDigit, Cond.code yX1_readDigit cX1_readDigit 3 (some .boolean), Cond.methodLink RX1 34 yX1_readDash, Cond.instanceMethod yX1_readDash, Cond.selects RX1 yX1_readDash yX1_readDash, Cond.code yX1_readDash cX1_readDash 1 (some .boolean), Cond.fieldLink RX1 51 "SlotMaps$Program" "from" "I", Cond.methodLink RX1 38 yX1_mayEnd]
def wsX1_execute_r2 : List Cond := [Cond.instanceMethod yX1_mayEnd, Cond.selects RX1 yX1_mayEnd yX1_mayEnd, Cond.code yX1_mayEnd cX1_mayEnd 1 (some .boolean), Cond.methodLink RX1 19 yX1_perform, Cond.instanceMethod yX1_perform, Cond.selects RX1 yX1_perform yX1_perform, Cond.code yX1_perform cX1_perform 2 (some .int), Cond.methodLink RX1 54 yX2_takeMany, Cond.instanceMethod yX2_takeMany, Cond.selects RX2 yX2_takeMany yX2_takeMany, Cond.initialized RX2, Cond.code yX2_takeMany cX2_takeMany 3 (some .int), Cond.methodLink RX2 61 yX2_takeOne, Cond.instanceMethod yX2_takeOne, Cond.selects RX2 yX2_takeOne yX2_takeOne, Cond.code yX2_takeOne cX2_takeOne 2 (some .int), Cond.methodLink RX2 36 yX2_takeBySummaries, Cond.instanceMethod yX2_takeBySummaries, Cond.selects RX2 yX2_takeBySummaries yX2_takeBySummaries, Cond.code yX2_takeBySummaries cX2_takeBySummaries 3 (some .int), Cond.fieldLink RX2 27 "SlotMaps$Slots" "looks" "I", Cond.fieldLink RX2 11 "SlotMaps$Slots" "bits" "[[I", Cond.fieldLink RX2 23 "SlotMaps$Slots" "summary" "I", Cond.methodLink RX2 44 yX2_summaryBit]
def wsX1_execute_r3 : List Cond := [Cond.instanceMethod yX2_summaryBit, Cond.selects RX2 yX2_summaryBit yX2_summaryBit, Cond.code yX2_summaryBit cX2_summaryBit 2 (some .int), Cond.methodLink RX2 47 yX2_isFull, Cond.instanceMethod yX2_isFull, Cond.selects RX2 yX2_isFull yX2_isFull, Cond.code yX2_isFull cX2_isFull 2 (some .boolean), Cond.static yX3_lowestBit, Cond.initialized RX3, Cond.code yX3_lowestBit cX3_lowestBit 1 (some .int), Cond.methodLink RX3 98 yJ6_bitCount_0f7a4, Cond.static yJ6_bitCount_0f7a4, Cond.initialized RJ6, Cond.code yJ6_bitCount_0f7a4 cJ6_bitCount_0f7a4 1 (some .int), Cond.constant RJ6 265 (1431655765), Cond.constant RJ6 266 (858993459), Cond.constant RJ6 267 (252645135), Cond.static yX3_bitOf, Cond.code yX3_bitOf cX3_bitOf 1 (some .int), Cond.methodLink RX2 57 yX2_change, Cond.instanceMethod yX2_change, Cond.selects RX2 yX2_change yX2_change, Cond.code yX2_change cX2_change 5 none, Cond.methodLink RX2 40 yX2_clearWords]
def wsX1_execute_r4 : List Cond := [Cond.instanceMethod yX2_clearWords, Cond.selects RX2 yX2_clearWords yX2_clearWords, Cond.code yX2_clearWords cX2_clearWords 6 (some .int), Cond.methodLink RX2 80 yJ6_bitCount_0f7a4, Cond.methodLink RX1 60 yX2_giveBackRange, Cond.instanceMethod yX2_giveBackRange, Cond.selects RX2 yX2_giveBackRange yX2_giveBackRange, Cond.code yX2_giveBackRange cX2_giveBackRange 7 (some .int), Cond.static yX3_rangeBits, Cond.code yX3_rangeBits cX3_rangeBits 5 (some .int), Cond.methodLink RX3 175 Lib.Math.max.name, Cond.static Lib.Math.max.name, Cond.initialized "java/lang/Math", Cond.code Lib.Math.max.name Lib.Math.max.code 2 (some .int), Cond.methodLink RX3 180 Lib.Math.min.name, Cond.static Lib.Math.min.name, Cond.code Lib.Math.min.name Lib.Math.min.code 2 (some .int), Cond.methodLink RX2 77 yX2_ownedBits, Cond.instanceMethod yX2_ownedBits, Cond.selects RX2 yX2_ownedBits yX2_ownedBits, Cond.code yX2_ownedBits cX2_ownedBits 4 (some .int), Cond.fieldLink RX2 16 "SlotMaps$Slots" "blockFirst" "[I", Cond.static yX3_wordOf, Cond.code yX3_wordOf cX3_wordOf 1 (some .int)]
def wsX1_execute_r5 : List Cond := [Cond.methodLink RX2 94 yX2_blockBits, Cond.instanceMethod yX2_blockBits, Cond.selects RX2 yX2_blockBits yX2_blockBits, Cond.code yX2_blockBits cX2_blockBits 3 (some .int), Cond.fieldLink RX2 20 "SlotMaps$Slots" "blockSize" "[I", Cond.methodLink RX1 64 yX2_clearWords, Cond.methodLink RX1 67 yX2_reserveBlock, Cond.instanceMethod yX2_reserveBlock, Cond.selects RX2 yX2_reserveBlock yX2_reserveBlock, Cond.code yX2_reserveBlock cX2_reserveBlock 4 (some .int), Cond.static yX3_isBlockSize, Cond.code yX3_isBlockSize cX3_isBlockSize 1 (some .boolean), Cond.methodLink RX2 88 yX2_firstUnusedBlock, Cond.instanceMethod yX2_firstUnusedBlock, Cond.selects RX2 yX2_firstUnusedBlock yX2_firstUnusedBlock, Cond.code yX2_firstUnusedBlock cX2_firstUnusedBlock 2 (some .int), Cond.methodLink RX2 97 yX2_hasBlock, Cond.instanceMethod yX2_hasBlock, Cond.selects RX2 yX2_hasBlock yX2_hasBlock, Cond.code yX2_hasBlock cX2_hasBlock 2 (some .boolean), Cond.methodLink RX2 91 yX2_placeStart, Cond.instanceMethod yX2_placeStart, Cond.selects RX2 yX2_placeStart yX2_placeStart, Cond.code yX2_placeStart cX2_placeStart 5 (some .int)]
def wsX1_execute_r6 : List Cond := [Cond.methodLink RX1 70 yX2_takeInBlock, Cond.instanceMethod yX2_takeInBlock, Cond.selects RX2 yX2_takeInBlock yX2_takeInBlock, Cond.code yX2_takeInBlock cX2_takeInBlock 5 (some .int), Cond.methodLink RX1 73 yX2_damageBit, Cond.instanceMethod yX2_damageBit, Cond.selects RX2 yX2_damageBit yX2_damageBit, Cond.code yX2_damageBit cX2_damageBit 2 (some .int), Cond.methodLink RX1 76 yX2_repairBits, Cond.instanceMethod yX2_repairBits, Cond.selects RX2 yX2_repairBits yX2_repairBits, Cond.code yX2_repairBits cX2_repairBits 3 (some .int), Cond.methodLink RX2 100 yX2_rightSummary, Cond.instanceMethod yX2_rightSummary, Cond.selects RX2 yX2_rightSummary yX2_rightSummary, Cond.code yX2_rightSummary cX2_rightSummary 3 (some .int)]
def wsX1_execute : List Cond := .code yX1_execute cX1_execute 7 (some .int) :: ((wsX1_execute_r1 ++ (wsX1_execute_r2 ++ (wsX1_execute_r3 ++ (wsX1_execute_r4 ++ (wsX1_execute_r5 ++ wsX1_execute_r6))))) ++ wsX10 ++ wsX20)
def wsX3_isRunLength : List Cond := .code yX3_isRunLength cX3_isRunLength 1 (some .boolean) :: ([])
def wsX2_isFree : List Cond := .code yX2_isFree cX2_isFree 2 (some .boolean) :: ([.fieldLink RX2 11 "SlotMaps$Slots" "bits" "[[I", .static yX3_wordOf, .initialized RX3, .code yX3_wordOf cX3_wordOf 1 (some .int), .static yX3_bitOf, .code yX3_bitOf cX3_bitOf 1 (some .int)] ++ wsX20)
def wsX2_runStart : List Cond := .code yX2_runStart cX2_runStart 4 (some .int) :: ([.methodLink RX2 103 yX2_isFree, .instanceMethod yX2_isFree, .selects RX2 yX2_isFree yX2_isFree, .initialized RX2, .code yX2_isFree cX2_isFree 2 (some .boolean), .fieldLink RX2 11 "SlotMaps$Slots" "bits" "[[I", .static yX3_wordOf, .initialized RX3, .code yX3_wordOf cX3_wordOf 1 (some .int), .static yX3_bitOf, .code yX3_bitOf cX3_bitOf 1 (some .int)] ++ wsX20)
def wsX2_takeSideBySide_r1 : List Cond := [Cond.fieldLink RX2 27 "SlotMaps$Slots" "looks" "I", Cond.static yX3_isRunLength, Cond.initialized RX3, Cond.code yX3_isRunLength cX3_isRunLength 1 (some .boolean), Cond.methodLink RX2 67 yX2_runStart, Cond.instanceMethod yX2_runStart, Cond.selects RX2 yX2_runStart yX2_runStart, Cond.initialized RX2, Cond.code yX2_runStart cX2_runStart 4 (some .int), Cond.methodLink RX2 103 yX2_isFree, Cond.instanceMethod yX2_isFree, Cond.selects RX2 yX2_isFree yX2_isFree, Cond.code yX2_isFree cX2_isFree 2 (some .boolean), Cond.fieldLink RX2 11 "SlotMaps$Slots" "bits" "[[I", Cond.static yX3_wordOf, Cond.code yX3_wordOf cX3_wordOf 1 (some .int), Cond.static yX3_bitOf, Cond.code yX3_bitOf cX3_bitOf 1 (some .int), Cond.static yX3_rangeBits, Cond.code yX3_rangeBits cX3_rangeBits 5 (some .int), Cond.methodLink RX3 175 Lib.Math.max.name, Cond.static Lib.Math.max.name, Cond.initialized "java/lang/Math", Cond.code Lib.Math.max.name Lib.Math.max.code 2 (some .int)]
def wsX2_takeSideBySide_r2 : List Cond := [Cond.methodLink RX3 180 Lib.Math.min.name, Cond.static Lib.Math.min.name, Cond.code Lib.Math.min.name Lib.Math.min.code 2 (some .int), Cond.methodLink RX2 57 yX2_change, Cond.instanceMethod yX2_change, Cond.selects RX2 yX2_change yX2_change, Cond.code yX2_change cX2_change 5 none, Cond.fieldLink RX2 23 "SlotMaps$Slots" "summary" "I", Cond.methodLink RX2 47 yX2_isFull, Cond.instanceMethod yX2_isFull, Cond.selects RX2 yX2_isFull yX2_isFull, Cond.code yX2_isFull cX2_isFull 2 (some .boolean)]
def wsX2_takeSideBySide : List Cond := .code yX2_takeSideBySide cX2_takeSideBySide 5 (some .int) :: ((wsX2_takeSideBySide_r1 ++ wsX2_takeSideBySide_r2) ++ wsX20)
def wsX2_giveUpBlock_r1 : List Cond := [Cond.fieldLink RX2 16 "SlotMaps$Slots" "blockFirst" "[I", Cond.fieldLink RX2 11 "SlotMaps$Slots" "bits" "[[I", Cond.fieldLink RX2 20 "SlotMaps$Slots" "blockSize" "[I", Cond.methodLink RX2 97 yX2_hasBlock, Cond.instanceMethod yX2_hasBlock, Cond.selects RX2 yX2_hasBlock yX2_hasBlock, Cond.initialized RX2, Cond.code yX2_hasBlock cX2_hasBlock 2 (some .boolean), Cond.static yX3_wordOf, Cond.initialized RX3, Cond.code yX3_wordOf cX3_wordOf 1 (some .int), Cond.methodLink RX2 94 yX2_blockBits, Cond.instanceMethod yX2_blockBits, Cond.selects RX2 yX2_blockBits yX2_blockBits, Cond.code yX2_blockBits cX2_blockBits 3 (some .int), Cond.static yX3_rangeBits, Cond.code yX3_rangeBits cX3_rangeBits 5 (some .int), Cond.methodLink RX3 175 Lib.Math.max.name, Cond.static Lib.Math.max.name, Cond.initialized "java/lang/Math", Cond.code Lib.Math.max.name Lib.Math.max.code 2 (some .int), Cond.methodLink RX3 180 Lib.Math.min.name, Cond.static Lib.Math.min.name, Cond.code Lib.Math.min.name Lib.Math.min.code 2 (some .int)]
def wsX2_giveUpBlock_r2 : List Cond := [Cond.methodLink RX2 57 yX2_change, Cond.instanceMethod yX2_change, Cond.selects RX2 yX2_change yX2_change, Cond.code yX2_change cX2_change 5 none, Cond.fieldLink RX2 23 "SlotMaps$Slots" "summary" "I", Cond.methodLink RX2 47 yX2_isFull, Cond.instanceMethod yX2_isFull, Cond.selects RX2 yX2_isFull yX2_isFull, Cond.code yX2_isFull cX2_isFull 2 (some .boolean), Cond.methodLink RX2 80 yJ6_bitCount_0f7a4, Cond.static yJ6_bitCount_0f7a4, Cond.initialized RJ6, Cond.code yJ6_bitCount_0f7a4 cJ6_bitCount_0f7a4 1 (some .int), Cond.constant RJ6 265 (1431655765), Cond.constant RJ6 266 (858993459), Cond.constant RJ6 267 (252645135)]
def wsX2_giveUpBlock : List Cond := .code yX2_giveUpBlock cX2_giveUpBlock 4 (some .int) :: ((wsX2_giveUpBlock_r1 ++ wsX2_giveUpBlock_r2) ++ wsX20)
def wsX2_total : List Cond := .code yX2_total cX2_total 4 (some .int) :: ([.fieldLink RX2 11 "SlotMaps$Slots" "bits" "[[I", .methodLink RX2 80 yJ6_bitCount_0f7a4, .static yJ6_bitCount_0f7a4, .initialized RJ6, .code yJ6_bitCount_0f7a4 cJ6_bitCount_0f7a4 1 (some .int), .constant RJ6 265 (1431655765), .constant RJ6 266 (858993459), .constant RJ6 267 (252645135)] ++ wsX20)
def wsX2_kindOf : List Cond := .code yX2_kindOf cX2_kindOf 3 (some .int) :: ([.fieldLink RX2 11 "SlotMaps$Slots" "bits" "[[I", .static yX3_wordOf, .initialized RX3, .code yX3_wordOf cX3_wordOf 1 (some .int), .static yX3_bitOf, .code yX3_bitOf cX3_bitOf 1 (some .int)] ++ wsX20)
def wsX2_firstFree : List Cond := .code yX2_firstFree cX2_firstFree 2 (some .int) :: ([.fieldLink RX2 11 "SlotMaps$Slots" "bits" "[[I", .methodLink RX2 47 yX2_isFull, .instanceMethod yX2_isFull, .selects RX2 yX2_isFull yX2_isFull, .initialized RX2, .code yX2_isFull cX2_isFull 2 (some .boolean), .static yX3_lowestBit, .initialized RX3, .code yX3_lowestBit cX3_lowestBit 1 (some .int), .methodLink RX3 98 yJ6_bitCount_0f7a4, .static yJ6_bitCount_0f7a4, .initialized RJ6, .code yJ6_bitCount_0f7a4 cJ6_bitCount_0f7a4 1 (some .int), .constant RJ6 265 (1431655765), .constant RJ6 266 (858993459), .constant RJ6 267 (252645135)] ++ wsX20)
def wsX2_freeRuns : List Cond := .code yX2_freeRuns cX2_freeRuns 5 (some .int) :: ([.methodLink RX2 103 yX2_isFree, .instanceMethod yX2_isFree, .selects RX2 yX2_isFree yX2_isFree, .initialized RX2, .code yX2_isFree cX2_isFree 2 (some .boolean), .fieldLink RX2 11 "SlotMaps$Slots" "bits" "[[I", .static yX3_wordOf, .initialized RX3, .code yX3_wordOf cX3_wordOf 1 (some .int), .static yX3_bitOf, .code yX3_bitOf cX3_bitOf 1 (some .int)] ++ wsX20)
def wsX2_longestFreeRun : List Cond := .code yX2_longestFreeRun cX2_longestFreeRun 4 (some .int) :: ([.methodLink RX2 106 Lib.Math.max.name, .static Lib.Math.max.name, .initialized "java/lang/Math", .code Lib.Math.max.name Lib.Math.max.code 2 (some .int), .methodLink RX2 103 yX2_isFree, .instanceMethod yX2_isFree, .selects RX2 yX2_isFree yX2_isFree, .initialized RX2, .code yX2_isFree cX2_isFree 2 (some .boolean), .fieldLink RX2 11 "SlotMaps$Slots" "bits" "[[I", .static yX3_wordOf, .initialized RX3, .code yX3_wordOf cX3_wordOf 1 (some .int), .static yX3_bitOf, .code yX3_bitOf cX3_bitOf 1 (some .int)] ++ wsX20)
def wsX2_reachable : List Cond := .code yX2_reachable cX2_reachable 3 (some .int) :: ([.fieldLink RX2 11 "SlotMaps$Slots" "bits" "[[I", .methodLink RX2 44 yX2_summaryBit, .instanceMethod yX2_summaryBit, .selects RX2 yX2_summaryBit yX2_summaryBit, .initialized RX2, .code yX2_summaryBit cX2_summaryBit 2 (some .int), .fieldLink RX2 23 "SlotMaps$Slots" "summary" "I", .methodLink RX2 80 yJ6_bitCount_0f7a4, .static yJ6_bitCount_0f7a4, .initialized RJ6, .code yJ6_bitCount_0f7a4 cJ6_bitCount_0f7a4 1 (some .int), .constant RJ6 265 (1431655765), .constant RJ6 266 (858993459), .constant RJ6 267 (252645135)] ++ wsX20)
def wsX2_blockTotal : List Cond := .code yX2_blockTotal cX2_blockTotal 3 (some .int) :: ([.methodLink RX2 97 yX2_hasBlock, .instanceMethod yX2_hasBlock, .selects RX2 yX2_hasBlock yX2_hasBlock, .initialized RX2, .code yX2_hasBlock cX2_hasBlock 2 (some .boolean), .fieldLink RX2 20 "SlotMaps$Slots" "blockSize" "[I"] ++ wsX20)
def wsX2_blockOf : List Cond := .code yX2_blockOf cX2_blockOf 3 (some .int) :: ([.fieldLink RX2 16 "SlotMaps$Slots" "blockFirst" "[I", .fieldLink RX2 20 "SlotMaps$Slots" "blockSize" "[I"] ++ wsX20)
def wsX2_totalInBlock_r1 : List Cond := [Cond.fieldLink RX2 11 "SlotMaps$Slots" "bits" "[[I", Cond.fieldLink RX2 16 "SlotMaps$Slots" "blockFirst" "[I", Cond.static yX3_wordOf, Cond.initialized RX3, Cond.code yX3_wordOf cX3_wordOf 1 (some .int), Cond.methodLink RX2 94 yX2_blockBits, Cond.instanceMethod yX2_blockBits, Cond.selects RX2 yX2_blockBits yX2_blockBits, Cond.initialized RX2, Cond.code yX2_blockBits cX2_blockBits 3 (some .int), Cond.fieldLink RX2 20 "SlotMaps$Slots" "blockSize" "[I", Cond.static yX3_rangeBits, Cond.code yX3_rangeBits cX3_rangeBits 5 (some .int), Cond.methodLink RX3 175 Lib.Math.max.name, Cond.static Lib.Math.max.name, Cond.initialized "java/lang/Math", Cond.code Lib.Math.max.name Lib.Math.max.code 2 (some .int), Cond.methodLink RX3 180 Lib.Math.min.name, Cond.static Lib.Math.min.name, Cond.code Lib.Math.min.name Lib.Math.min.code 2 (some .int), Cond.methodLink RX2 80 yJ6_bitCount_0f7a4, Cond.static yJ6_bitCount_0f7a4, Cond.initialized RJ6, Cond.code yJ6_bitCount_0f7a4 cJ6_bitCount_0f7a4 1 (some .int)]
def wsX2_totalInBlock_r2 : List Cond := [Cond.constant RJ6 265 (1431655765), Cond.constant RJ6 266 (858993459), Cond.constant RJ6 267 (252645135)]
def wsX2_totalInBlock : List Cond := .code yX2_totalInBlock cX2_totalInBlock 3 (some .int) :: ((wsX2_totalInBlock_r1 ++ wsX2_totalInBlock_r2) ++ wsX20)
def wsX3_init_r1 : List Cond := [Cond.methodLink RX3 1 objectInit, Cond.instanceMethod objectInit, Cond.code objectInit ⟨#[0xb1]⟩ 1 none, Cond.classLink RX3 7 RX2, Cond.instantiable RX2 5, Cond.initialized RX2, Cond.fieldLink RX3 10 "SlotMaps" "now" "LSlotMaps$Slots;", Cond.fieldLink RX3 16 "SlotMaps" "trial" "LSlotMaps$Slots;", Cond.classLink RX3 19 RX0, Cond.instantiable RX0 3, Cond.initialized RX0, Cond.fieldLink RX3 22 "SlotMaps" "history" "LSlotMaps$History;", Cond.classLink RX3 26 RX1, Cond.instantiable RX1 6, Cond.initialized RX1, Cond.fieldLink RX3 29 "SlotMaps" "program" "LSlotMaps$Program;", Cond.arrayClass .char, Cond.fieldLink RX3 33 "SlotMaps" "text" "[C", Cond.fieldLink RX3 37 "SlotMaps" "textLength" "I", Cond.methodLink RX3 9 yX2_init, Cond.instanceMethod yX2_init, Cond.code yX2_init cX2_init 2 none, Cond.methodLink RX2 3 objectInit, Cond.classLink RX2 9 "[[I"]
def wsX3_init_r2 : List Cond := [Cond.arrayClass .int, Cond.fieldLink RX2 11 "SlotMaps$Slots" "bits" "[[I", Cond.fieldLink RX2 16 "SlotMaps$Slots" "blockFirst" "[I", Cond.fieldLink RX2 20 "SlotMaps$Slots" "blockSize" "[I", Cond.fieldLink RX2 23 "SlotMaps$Slots" "summary" "I", Cond.fieldLink RX2 27 "SlotMaps$Slots" "looks" "I", Cond.methodLink RX3 21 yX0_init, Cond.instanceMethod yX0_init, Cond.code yX0_init cX0_init 2 none, Cond.methodLink RX0 3 objectInit, Cond.classLink RX0 9 RX2, Cond.fieldLink RX0 11 "SlotMaps$History" "ring" "[LSlotMaps$Slots;", Cond.fieldLink RX0 18 "SlotMaps$History" "oldest" "I", Cond.fieldLink RX0 22 "SlotMaps$History" "states" "I", Cond.methodLink RX0 17 yX2_init, Cond.methodLink RX3 28 yX1_init, Cond.instanceMethod yX1_init, Cond.code yX1_init cX1_init 1 none, Cond.methodLink RX1 3 objectInit, Cond.fieldLink RX1 11 "SlotMaps$Program" "letter" "C"]
def wsX3_init : List Cond := .code yX3_init cX3_init 1 none :: ((wsX3_init_r1 ++ wsX3_init_r2) ++ wsX20 ++ wsX30 ++ wsX00 ++ wsX10)
def wsX3_settle_r1 : List Cond := [Cond.fieldLink RX3 22 "SlotMaps" "history" "LSlotMaps$History;", Cond.fieldLink RX3 10 "SlotMaps" "now" "LSlotMaps$Slots;", Cond.methodLink RX3 169 yX0_takeBack, Cond.instanceMethod yX0_takeBack, Cond.selects RX0 yX0_takeBack yX0_takeBack, Cond.initialized RX0, Cond.code yX0_takeBack cX0_takeBack 2 none, Cond.fieldLink RX0 11 "SlotMaps$History" "ring" "[LSlotMaps$Slots;", Cond.methodLink RX0 25 yX0_behindLatest, Cond.instanceMethod yX0_behindLatest, Cond.selects RX0 yX0_behindLatest yX0_behindLatest, Cond.code yX0_behindLatest cX0_behindLatest 1 (some .int), Cond.fieldLink RX0 18 "SlotMaps$History" "oldest" "I", Cond.fieldLink RX0 22 "SlotMaps$History" "states" "I", Cond.methodLink RX0 29 yX2_copyFrom, Cond.instanceMethod yX2_copyFrom, Cond.selects RX2 yX2_copyFrom yX2_copyFrom, Cond.initialized RX2, Cond.code yX2_copyFrom cX2_copyFrom 3 none, Cond.fieldLink RX2 11 "SlotMaps$Slots" "bits" "[[I", Cond.methodLink RX2 30 arraycopyName, Cond.native arraycopyName, Cond.static arraycopyName, Cond.initialized "java/lang/System"]
def wsX3_settle_r2 : List Cond := [Cond.fieldLink RX2 16 "SlotMaps$Slots" "blockFirst" "[I", Cond.fieldLink RX2 20 "SlotMaps$Slots" "blockSize" "[I", Cond.fieldLink RX2 23 "SlotMaps$Slots" "summary" "I", Cond.fieldLink RX2 27 "SlotMaps$Slots" "looks" "I", Cond.methodLink RX3 172 yX0_keep, Cond.instanceMethod yX0_keep, Cond.selects RX0 yX0_keep yX0_keep, Cond.code yX0_keep cX0_keep 1 none]
def wsX3_settle : List Cond := .code yX3_settle cX3_settle 2 (some .int) :: ((wsX3_settle_r1 ++ wsX3_settle_r2) ++ wsX30 ++ wsX00 ++ wsX20)
def wsX3_take_r1 : List Cond := [Cond.fieldLink RX3 22 "SlotMaps" "history" "LSlotMaps$History;", Cond.fieldLink RX3 10 "SlotMaps" "now" "LSlotMaps$Slots;", Cond.methodLink RX3 41 yX0_prepare, Cond.instanceMethod yX0_prepare, Cond.selects RX0 yX0_prepare yX0_prepare, Cond.initialized RX0, Cond.code yX0_prepare cX0_prepare 2 none, Cond.fieldLink RX0 11 "SlotMaps$History" "ring" "[LSlotMaps$Slots;", Cond.methodLink RX0 25 yX0_behindLatest, Cond.instanceMethod yX0_behindLatest, Cond.selects RX0 yX0_behindLatest yX0_behindLatest, Cond.code yX0_behindLatest cX0_behindLatest 1 (some .int), Cond.fieldLink RX0 18 "SlotMaps$History" "oldest" "I", Cond.fieldLink RX0 22 "SlotMaps$History" "states" "I", Cond.methodLink RX0 29 yX2_copyFrom, Cond.instanceMethod yX2_copyFrom, Cond.selects RX2 yX2_copyFrom yX2_copyFrom, Cond.initialized RX2, Cond.code yX2_copyFrom cX2_copyFrom 3 none, Cond.fieldLink RX2 11 "SlotMaps$Slots" "bits" "[[I", Cond.methodLink RX2 30 arraycopyName, Cond.native arraycopyName, Cond.static arraycopyName, Cond.initialized "java/lang/System"]
def wsX3_take_r2 : List Cond := [Cond.fieldLink RX2 16 "SlotMaps$Slots" "blockFirst" "[I", Cond.fieldLink RX2 20 "SlotMaps$Slots" "blockSize" "[I", Cond.fieldLink RX2 23 "SlotMaps$Slots" "summary" "I", Cond.fieldLink RX2 27 "SlotMaps$Slots" "looks" "I", Cond.methodLink RX3 45 yX2_takeOne, Cond.instanceMethod yX2_takeOne, Cond.selects RX2 yX2_takeOne yX2_takeOne, Cond.code yX2_takeOne cX2_takeOne 2 (some .int), Cond.methodLink RX2 36 yX2_takeBySummaries, Cond.instanceMethod yX2_takeBySummaries, Cond.selects RX2 yX2_takeBySummaries yX2_takeBySummaries, Cond.code yX2_takeBySummaries cX2_takeBySummaries 3 (some .int), Cond.methodLink RX2 44 yX2_summaryBit, Cond.instanceMethod yX2_summaryBit, Cond.selects RX2 yX2_summaryBit yX2_summaryBit, Cond.code yX2_summaryBit cX2_summaryBit 2 (some .int), Cond.methodLink RX2 47 yX2_isFull, Cond.instanceMethod yX2_isFull, Cond.selects RX2 yX2_isFull yX2_isFull, Cond.code yX2_isFull cX2_isFull 2 (some .boolean), Cond.static yX3_lowestBit, Cond.initialized RX3, Cond.code yX3_lowestBit cX3_lowestBit 1 (some .int), Cond.methodLink RX3 98 yJ6_bitCount_0f7a4]
def wsX3_take_r3 : List Cond := [Cond.static yJ6_bitCount_0f7a4, Cond.initialized RJ6, Cond.code yJ6_bitCount_0f7a4 cJ6_bitCount_0f7a4 1 (some .int), Cond.constant RJ6 265 (1431655765), Cond.constant RJ6 266 (858993459), Cond.constant RJ6 267 (252645135), Cond.static yX3_bitOf, Cond.code yX3_bitOf cX3_bitOf 1 (some .int), Cond.methodLink RX2 57 yX2_change, Cond.instanceMethod yX2_change, Cond.selects RX2 yX2_change yX2_change, Cond.code yX2_change cX2_change 5 none, Cond.methodLink RX2 40 yX2_clearWords, Cond.instanceMethod yX2_clearWords, Cond.selects RX2 yX2_clearWords yX2_clearWords, Cond.code yX2_clearWords cX2_clearWords 6 (some .int), Cond.methodLink RX2 80 yJ6_bitCount_0f7a4, Cond.methodLink RX3 49 yX3_settle, Cond.instanceMethod yX3_settle, Cond.selects RX3 yX3_settle yX3_settle, Cond.code yX3_settle cX3_settle 2 (some .int), Cond.methodLink RX3 169 yX0_takeBack, Cond.instanceMethod yX0_takeBack, Cond.selects RX0 yX0_takeBack yX0_takeBack]
def wsX3_take_r4 : List Cond := [Cond.code yX0_takeBack cX0_takeBack 2 none, Cond.methodLink RX3 172 yX0_keep, Cond.instanceMethod yX0_keep, Cond.selects RX0 yX0_keep yX0_keep, Cond.code yX0_keep cX0_keep 1 none]
def wsX3_take : List Cond := .code yX3_take cX3_take 1 (some .int) :: ((wsX3_take_r1 ++ (wsX3_take_r2 ++ (wsX3_take_r3 ++ wsX3_take_r4))) ++ wsX30 ++ wsX00 ++ wsX20)
def wsX3_takeRun_r1 : List Cond := [Cond.fieldLink RX3 22 "SlotMaps" "history" "LSlotMaps$History;", Cond.fieldLink RX3 10 "SlotMaps" "now" "LSlotMaps$Slots;", Cond.methodLink RX3 41 yX0_prepare, Cond.instanceMethod yX0_prepare, Cond.selects RX0 yX0_prepare yX0_prepare, Cond.initialized RX0, Cond.code yX0_prepare cX0_prepare 2 none, Cond.fieldLink RX0 11 "SlotMaps$History" "ring" "[LSlotMaps$Slots;", Cond.methodLink RX0 25 yX0_behindLatest, Cond.instanceMethod yX0_behindLatest, Cond.selects RX0 yX0_behindLatest yX0_behindLatest, Cond.code yX0_behindLatest cX0_behindLatest 1 (some .int), Cond.fieldLink RX0 18 "SlotMaps$History" "oldest" "I", Cond.fieldLink RX0 22 "SlotMaps$History" "states" "I", Cond.methodLink RX0 29 yX2_copyFrom, Cond.instanceMethod yX2_copyFrom, Cond.selects RX2 yX2_copyFrom yX2_copyFrom, Cond.initialized RX2, Cond.code yX2_copyFrom cX2_copyFrom 3 none, Cond.fieldLink RX2 11 "SlotMaps$Slots" "bits" "[[I", Cond.methodLink RX2 30 arraycopyName, Cond.native arraycopyName, Cond.static arraycopyName, Cond.initialized "java/lang/System"]
def wsX3_takeRun_r2 : List Cond := [Cond.fieldLink RX2 16 "SlotMaps$Slots" "blockFirst" "[I", Cond.fieldLink RX2 20 "SlotMaps$Slots" "blockSize" "[I", Cond.fieldLink RX2 23 "SlotMaps$Slots" "summary" "I", Cond.fieldLink RX2 27 "SlotMaps$Slots" "looks" "I", Cond.methodLink RX3 53 yX2_takeSideBySide, Cond.instanceMethod yX2_takeSideBySide, Cond.selects RX2 yX2_takeSideBySide yX2_takeSideBySide, Cond.code yX2_takeSideBySide cX2_takeSideBySide 5 (some .int), Cond.static yX3_isRunLength, Cond.initialized RX3, Cond.code yX3_isRunLength cX3_isRunLength 1 (some .boolean), Cond.methodLink RX2 67 yX2_runStart, Cond.instanceMethod yX2_runStart, Cond.selects RX2 yX2_runStart yX2_runStart, Cond.code yX2_runStart cX2_runStart 4 (some .int), Cond.methodLink RX2 103 yX2_isFree, Cond.instanceMethod yX2_isFree, Cond.selects RX2 yX2_isFree yX2_isFree, Cond.code yX2_isFree cX2_isFree 2 (some .boolean), Cond.static yX3_wordOf, Cond.code yX3_wordOf cX3_wordOf 1 (some .int), Cond.static yX3_bitOf, Cond.code yX3_bitOf cX3_bitOf 1 (some .int), Cond.static yX3_rangeBits]
def wsX3_takeRun_r3 : List Cond := [Cond.code yX3_rangeBits cX3_rangeBits 5 (some .int), Cond.methodLink RX3 175 Lib.Math.max.name, Cond.static Lib.Math.max.name, Cond.initialized "java/lang/Math", Cond.code Lib.Math.max.name Lib.Math.max.code 2 (some .int), Cond.methodLink RX3 180 Lib.Math.min.name, Cond.static Lib.Math.min.name, Cond.code Lib.Math.min.name Lib.Math.min.code 2 (some .int), Cond.methodLink RX2 57 yX2_change, Cond.instanceMethod yX2_change, Cond.selects RX2 yX2_change yX2_change, Cond.code yX2_change cX2_change 5 none, Cond.methodLink RX2 47 yX2_isFull, Cond.instanceMethod yX2_isFull, Cond.selects RX2 yX2_isFull yX2_isFull, Cond.code yX2_isFull cX2_isFull 2 (some .boolean), Cond.methodLink RX3 49 yX3_settle, Cond.instanceMethod yX3_settle, Cond.selects RX3 yX3_settle yX3_settle, Cond.code yX3_settle cX3_settle 2 (some .int), Cond.methodLink RX3 169 yX0_takeBack, Cond.instanceMethod yX0_takeBack, Cond.selects RX0 yX0_takeBack yX0_takeBack, Cond.code yX0_takeBack cX0_takeBack 2 none]
def wsX3_takeRun_r4 : List Cond := [Cond.methodLink RX3 172 yX0_keep, Cond.instanceMethod yX0_keep, Cond.selects RX0 yX0_keep yX0_keep, Cond.code yX0_keep cX0_keep 1 none]
def wsX3_takeRun : List Cond := .code yX3_takeRun cX3_takeRun 2 (some .int) :: ((wsX3_takeRun_r1 ++ (wsX3_takeRun_r2 ++ (wsX3_takeRun_r3 ++ wsX3_takeRun_r4))) ++ wsX30 ++ wsX00 ++ wsX20)
def wsX3_giveBack_r1 : List Cond := [Cond.fieldLink RX3 22 "SlotMaps" "history" "LSlotMaps$History;", Cond.fieldLink RX3 10 "SlotMaps" "now" "LSlotMaps$Slots;", Cond.methodLink RX3 41 yX0_prepare, Cond.instanceMethod yX0_prepare, Cond.selects RX0 yX0_prepare yX0_prepare, Cond.initialized RX0, Cond.code yX0_prepare cX0_prepare 2 none, Cond.fieldLink RX0 11 "SlotMaps$History" "ring" "[LSlotMaps$Slots;", Cond.methodLink RX0 25 yX0_behindLatest, Cond.instanceMethod yX0_behindLatest, Cond.selects RX0 yX0_behindLatest yX0_behindLatest, Cond.code yX0_behindLatest cX0_behindLatest 1 (some .int), Cond.fieldLink RX0 18 "SlotMaps$History" "oldest" "I", Cond.fieldLink RX0 22 "SlotMaps$History" "states" "I", Cond.methodLink RX0 29 yX2_copyFrom, Cond.instanceMethod yX2_copyFrom, Cond.selects RX2 yX2_copyFrom yX2_copyFrom, Cond.initialized RX2, Cond.code yX2_copyFrom cX2_copyFrom 3 none, Cond.fieldLink RX2 11 "SlotMaps$Slots" "bits" "[[I", Cond.methodLink RX2 30 arraycopyName, Cond.native arraycopyName, Cond.static arraycopyName, Cond.initialized "java/lang/System"]
def wsX3_giveBack_r2 : List Cond := [Cond.fieldLink RX2 16 "SlotMaps$Slots" "blockFirst" "[I", Cond.fieldLink RX2 20 "SlotMaps$Slots" "blockSize" "[I", Cond.fieldLink RX2 23 "SlotMaps$Slots" "summary" "I", Cond.fieldLink RX2 27 "SlotMaps$Slots" "looks" "I", Cond.methodLink RX3 56 yX2_giveBackRange, Cond.instanceMethod yX2_giveBackRange, Cond.selects RX2 yX2_giveBackRange yX2_giveBackRange, Cond.code yX2_giveBackRange cX2_giveBackRange 7 (some .int), Cond.static yX3_rangeBits, Cond.initialized RX3, Cond.code yX3_rangeBits cX3_rangeBits 5 (some .int), Cond.methodLink RX3 175 Lib.Math.max.name, Cond.static Lib.Math.max.name, Cond.initialized "java/lang/Math", Cond.code Lib.Math.max.name Lib.Math.max.code 2 (some .int), Cond.methodLink RX3 180 Lib.Math.min.name, Cond.static Lib.Math.min.name, Cond.code Lib.Math.min.name Lib.Math.min.code 2 (some .int), Cond.methodLink RX2 77 yX2_ownedBits, Cond.instanceMethod yX2_ownedBits, Cond.selects RX2 yX2_ownedBits yX2_ownedBits, Cond.code yX2_ownedBits cX2_ownedBits 4 (some .int), Cond.static yX3_wordOf, Cond.code yX3_wordOf cX3_wordOf 1 (some .int)]
def wsX3_giveBack_r3 : List Cond := [Cond.methodLink RX2 94 yX2_blockBits, Cond.instanceMethod yX2_blockBits, Cond.selects RX2 yX2_blockBits yX2_blockBits, Cond.code yX2_blockBits cX2_blockBits 3 (some .int), Cond.methodLink RX2 57 yX2_change, Cond.instanceMethod yX2_change, Cond.selects RX2 yX2_change yX2_change, Cond.code yX2_change cX2_change 5 none, Cond.methodLink RX2 47 yX2_isFull, Cond.instanceMethod yX2_isFull, Cond.selects RX2 yX2_isFull yX2_isFull, Cond.code yX2_isFull cX2_isFull 2 (some .boolean), Cond.methodLink RX2 80 yJ6_bitCount_0f7a4, Cond.static yJ6_bitCount_0f7a4, Cond.initialized RJ6, Cond.code yJ6_bitCount_0f7a4 cJ6_bitCount_0f7a4 1 (some .int), Cond.constant RJ6 265 (1431655765), Cond.constant RJ6 266 (858993459), Cond.constant RJ6 267 (252645135), Cond.methodLink RX3 49 yX3_settle, Cond.instanceMethod yX3_settle, Cond.selects RX3 yX3_settle yX3_settle, Cond.code yX3_settle cX3_settle 2 (some .int), Cond.methodLink RX3 169 yX0_takeBack]
def wsX3_giveBack_r4 : List Cond := [Cond.instanceMethod yX0_takeBack, Cond.selects RX0 yX0_takeBack yX0_takeBack, Cond.code yX0_takeBack cX0_takeBack 2 none, Cond.methodLink RX3 172 yX0_keep, Cond.instanceMethod yX0_keep, Cond.selects RX0 yX0_keep yX0_keep, Cond.code yX0_keep cX0_keep 1 none]
def wsX3_giveBack : List Cond := .code yX3_giveBack cX3_giveBack 3 (some .int) :: ((wsX3_giveBack_r1 ++ (wsX3_giveBack_r2 ++ (wsX3_giveBack_r3 ++ wsX3_giveBack_r4))) ++ wsX30 ++ wsX00 ++ wsX20)
def wsX3_clear_r1 : List Cond := [Cond.fieldLink RX3 22 "SlotMaps" "history" "LSlotMaps$History;", Cond.fieldLink RX3 10 "SlotMaps" "now" "LSlotMaps$Slots;", Cond.methodLink RX3 41 yX0_prepare, Cond.instanceMethod yX0_prepare, Cond.selects RX0 yX0_prepare yX0_prepare, Cond.initialized RX0, Cond.code yX0_prepare cX0_prepare 2 none, Cond.fieldLink RX0 11 "SlotMaps$History" "ring" "[LSlotMaps$Slots;", Cond.methodLink RX0 25 yX0_behindLatest, Cond.instanceMethod yX0_behindLatest, Cond.selects RX0 yX0_behindLatest yX0_behindLatest, Cond.code yX0_behindLatest cX0_behindLatest 1 (some .int), Cond.fieldLink RX0 18 "SlotMaps$History" "oldest" "I", Cond.fieldLink RX0 22 "SlotMaps$History" "states" "I", Cond.methodLink RX0 29 yX2_copyFrom, Cond.instanceMethod yX2_copyFrom, Cond.selects RX2 yX2_copyFrom yX2_copyFrom, Cond.initialized RX2, Cond.code yX2_copyFrom cX2_copyFrom 3 none, Cond.fieldLink RX2 11 "SlotMaps$Slots" "bits" "[[I", Cond.methodLink RX2 30 arraycopyName, Cond.native arraycopyName, Cond.static arraycopyName, Cond.initialized "java/lang/System"]
def wsX3_clear_r2 : List Cond := [Cond.fieldLink RX2 16 "SlotMaps$Slots" "blockFirst" "[I", Cond.fieldLink RX2 20 "SlotMaps$Slots" "blockSize" "[I", Cond.fieldLink RX2 23 "SlotMaps$Slots" "summary" "I", Cond.fieldLink RX2 27 "SlotMaps$Slots" "looks" "I", Cond.methodLink RX3 60 yX2_clearWords, Cond.instanceMethod yX2_clearWords, Cond.selects RX2 yX2_clearWords yX2_clearWords, Cond.code yX2_clearWords cX2_clearWords 6 (some .int), Cond.methodLink RX2 57 yX2_change, Cond.instanceMethod yX2_change, Cond.selects RX2 yX2_change yX2_change, Cond.code yX2_change cX2_change 5 none, Cond.methodLink RX2 47 yX2_isFull, Cond.instanceMethod yX2_isFull, Cond.selects RX2 yX2_isFull yX2_isFull, Cond.code yX2_isFull cX2_isFull 2 (some .boolean), Cond.methodLink RX2 80 yJ6_bitCount_0f7a4, Cond.static yJ6_bitCount_0f7a4, Cond.initialized RJ6, Cond.code yJ6_bitCount_0f7a4 cJ6_bitCount_0f7a4 1 (some .int), Cond.constant RJ6 265 (1431655765), Cond.constant RJ6 266 (858993459), Cond.constant RJ6 267 (252645135), Cond.methodLink RX3 49 yX3_settle]
def wsX3_clear_r3 : List Cond := [Cond.instanceMethod yX3_settle, Cond.selects RX3 yX3_settle yX3_settle, Cond.initialized RX3, Cond.code yX3_settle cX3_settle 2 (some .int), Cond.methodLink RX3 169 yX0_takeBack, Cond.instanceMethod yX0_takeBack, Cond.selects RX0 yX0_takeBack yX0_takeBack, Cond.code yX0_takeBack cX0_takeBack 2 none, Cond.methodLink RX3 172 yX0_keep, Cond.instanceMethod yX0_keep, Cond.selects RX0 yX0_keep yX0_keep, Cond.code yX0_keep cX0_keep 1 none]
def wsX3_clear : List Cond := .code yX3_clear cX3_clear 2 (some .int) :: ((wsX3_clear_r1 ++ (wsX3_clear_r2 ++ wsX3_clear_r3)) ++ wsX30 ++ wsX00 ++ wsX20)
def wsX3_reserve_r1 : List Cond := [Cond.fieldLink RX3 22 "SlotMaps" "history" "LSlotMaps$History;", Cond.fieldLink RX3 10 "SlotMaps" "now" "LSlotMaps$Slots;", Cond.methodLink RX3 41 yX0_prepare, Cond.instanceMethod yX0_prepare, Cond.selects RX0 yX0_prepare yX0_prepare, Cond.initialized RX0, Cond.code yX0_prepare cX0_prepare 2 none, Cond.fieldLink RX0 11 "SlotMaps$History" "ring" "[LSlotMaps$Slots;", Cond.methodLink RX0 25 yX0_behindLatest, Cond.instanceMethod yX0_behindLatest, Cond.selects RX0 yX0_behindLatest yX0_behindLatest, Cond.code yX0_behindLatest cX0_behindLatest 1 (some .int), Cond.fieldLink RX0 18 "SlotMaps$History" "oldest" "I", Cond.fieldLink RX0 22 "SlotMaps$History" "states" "I", Cond.methodLink RX0 29 yX2_copyFrom, Cond.instanceMethod yX2_copyFrom, Cond.selects RX2 yX2_copyFrom yX2_copyFrom, Cond.initialized RX2, Cond.code yX2_copyFrom cX2_copyFrom 3 none, Cond.fieldLink RX2 11 "SlotMaps$Slots" "bits" "[[I", Cond.methodLink RX2 30 arraycopyName, Cond.native arraycopyName, Cond.static arraycopyName, Cond.initialized "java/lang/System"]
def wsX3_reserve_r2 : List Cond := [Cond.fieldLink RX2 16 "SlotMaps$Slots" "blockFirst" "[I", Cond.fieldLink RX2 20 "SlotMaps$Slots" "blockSize" "[I", Cond.fieldLink RX2 23 "SlotMaps$Slots" "summary" "I", Cond.fieldLink RX2 27 "SlotMaps$Slots" "looks" "I", Cond.methodLink RX3 63 yX2_reserveBlock, Cond.instanceMethod yX2_reserveBlock, Cond.selects RX2 yX2_reserveBlock yX2_reserveBlock, Cond.code yX2_reserveBlock cX2_reserveBlock 4 (some .int), Cond.static yX3_isBlockSize, Cond.initialized RX3, Cond.code yX3_isBlockSize cX3_isBlockSize 1 (some .boolean), Cond.methodLink RX2 88 yX2_firstUnusedBlock, Cond.instanceMethod yX2_firstUnusedBlock, Cond.selects RX2 yX2_firstUnusedBlock yX2_firstUnusedBlock, Cond.code yX2_firstUnusedBlock cX2_firstUnusedBlock 2 (some .int), Cond.methodLink RX2 97 yX2_hasBlock, Cond.instanceMethod yX2_hasBlock, Cond.selects RX2 yX2_hasBlock yX2_hasBlock, Cond.code yX2_hasBlock cX2_hasBlock 2 (some .boolean), Cond.methodLink RX2 91 yX2_placeStart, Cond.instanceMethod yX2_placeStart, Cond.selects RX2 yX2_placeStart yX2_placeStart, Cond.code yX2_placeStart cX2_placeStart 5 (some .int), Cond.static yX3_wordOf]
def wsX3_reserve_r3 : List Cond := [Cond.code yX3_wordOf cX3_wordOf 1 (some .int), Cond.static yX3_rangeBits, Cond.code yX3_rangeBits cX3_rangeBits 5 (some .int), Cond.methodLink RX3 175 Lib.Math.max.name, Cond.static Lib.Math.max.name, Cond.initialized "java/lang/Math", Cond.code Lib.Math.max.name Lib.Math.max.code 2 (some .int), Cond.methodLink RX3 180 Lib.Math.min.name, Cond.static Lib.Math.min.name, Cond.code Lib.Math.min.name Lib.Math.min.code 2 (some .int), Cond.methodLink RX2 94 yX2_blockBits, Cond.instanceMethod yX2_blockBits, Cond.selects RX2 yX2_blockBits yX2_blockBits, Cond.code yX2_blockBits cX2_blockBits 3 (some .int), Cond.methodLink RX2 57 yX2_change, Cond.instanceMethod yX2_change, Cond.selects RX2 yX2_change yX2_change, Cond.code yX2_change cX2_change 5 none, Cond.methodLink RX2 47 yX2_isFull, Cond.instanceMethod yX2_isFull, Cond.selects RX2 yX2_isFull yX2_isFull, Cond.code yX2_isFull cX2_isFull 2 (some .boolean), Cond.methodLink RX3 49 yX3_settle, Cond.instanceMethod yX3_settle]
def wsX3_reserve_r4 : List Cond := [Cond.selects RX3 yX3_settle yX3_settle, Cond.code yX3_settle cX3_settle 2 (some .int), Cond.methodLink RX3 169 yX0_takeBack, Cond.instanceMethod yX0_takeBack, Cond.selects RX0 yX0_takeBack yX0_takeBack, Cond.code yX0_takeBack cX0_takeBack 2 none, Cond.methodLink RX3 172 yX0_keep, Cond.instanceMethod yX0_keep, Cond.selects RX0 yX0_keep yX0_keep, Cond.code yX0_keep cX0_keep 1 none]
def wsX3_reserve : List Cond := .code yX3_reserve cX3_reserve 2 (some .int) :: ((wsX3_reserve_r1 ++ (wsX3_reserve_r2 ++ (wsX3_reserve_r3 ++ wsX3_reserve_r4))) ++ wsX30 ++ wsX00 ++ wsX20)
def wsX3_takeIn_r1 : List Cond := [Cond.fieldLink RX3 22 "SlotMaps" "history" "LSlotMaps$History;", Cond.fieldLink RX3 10 "SlotMaps" "now" "LSlotMaps$Slots;", Cond.methodLink RX3 41 yX0_prepare, Cond.instanceMethod yX0_prepare, Cond.selects RX0 yX0_prepare yX0_prepare, Cond.initialized RX0, Cond.code yX0_prepare cX0_prepare 2 none, Cond.fieldLink RX0 11 "SlotMaps$History" "ring" "[LSlotMaps$Slots;", Cond.methodLink RX0 25 yX0_behindLatest, Cond.instanceMethod yX0_behindLatest, Cond.selects RX0 yX0_behindLatest yX0_behindLatest, Cond.code yX0_behindLatest cX0_behindLatest 1 (some .int), Cond.fieldLink RX0 18 "SlotMaps$History" "oldest" "I", Cond.fieldLink RX0 22 "SlotMaps$History" "states" "I", Cond.methodLink RX0 29 yX2_copyFrom, Cond.instanceMethod yX2_copyFrom, Cond.selects RX2 yX2_copyFrom yX2_copyFrom, Cond.initialized RX2, Cond.code yX2_copyFrom cX2_copyFrom 3 none, Cond.fieldLink RX2 11 "SlotMaps$Slots" "bits" "[[I", Cond.methodLink RX2 30 arraycopyName, Cond.native arraycopyName, Cond.static arraycopyName, Cond.initialized "java/lang/System"]
def wsX3_takeIn_r2 : List Cond := [Cond.fieldLink RX2 16 "SlotMaps$Slots" "blockFirst" "[I", Cond.fieldLink RX2 20 "SlotMaps$Slots" "blockSize" "[I", Cond.fieldLink RX2 23 "SlotMaps$Slots" "summary" "I", Cond.fieldLink RX2 27 "SlotMaps$Slots" "looks" "I", Cond.methodLink RX3 66 yX2_takeInBlock, Cond.instanceMethod yX2_takeInBlock, Cond.selects RX2 yX2_takeInBlock yX2_takeInBlock, Cond.code yX2_takeInBlock cX2_takeInBlock 5 (some .int), Cond.methodLink RX2 97 yX2_hasBlock, Cond.instanceMethod yX2_hasBlock, Cond.selects RX2 yX2_hasBlock yX2_hasBlock, Cond.code yX2_hasBlock cX2_hasBlock 2 (some .boolean), Cond.static yX3_wordOf, Cond.initialized RX3, Cond.code yX3_wordOf cX3_wordOf 1 (some .int), Cond.methodLink RX2 94 yX2_blockBits, Cond.instanceMethod yX2_blockBits, Cond.selects RX2 yX2_blockBits yX2_blockBits, Cond.code yX2_blockBits cX2_blockBits 3 (some .int), Cond.static yX3_rangeBits, Cond.code yX3_rangeBits cX3_rangeBits 5 (some .int), Cond.methodLink RX3 175 Lib.Math.max.name, Cond.static Lib.Math.max.name, Cond.initialized "java/lang/Math"]
def wsX3_takeIn_r3 : List Cond := [Cond.code Lib.Math.max.name Lib.Math.max.code 2 (some .int), Cond.methodLink RX3 180 Lib.Math.min.name, Cond.static Lib.Math.min.name, Cond.code Lib.Math.min.name Lib.Math.min.code 2 (some .int), Cond.static yX3_lowestBit, Cond.code yX3_lowestBit cX3_lowestBit 1 (some .int), Cond.methodLink RX3 98 yJ6_bitCount_0f7a4, Cond.static yJ6_bitCount_0f7a4, Cond.initialized RJ6, Cond.code yJ6_bitCount_0f7a4 cJ6_bitCount_0f7a4 1 (some .int), Cond.constant RJ6 265 (1431655765), Cond.constant RJ6 266 (858993459), Cond.constant RJ6 267 (252645135), Cond.static yX3_bitOf, Cond.code yX3_bitOf cX3_bitOf 1 (some .int), Cond.methodLink RX2 57 yX2_change, Cond.instanceMethod yX2_change, Cond.selects RX2 yX2_change yX2_change, Cond.code yX2_change cX2_change 5 none, Cond.methodLink RX2 47 yX2_isFull, Cond.instanceMethod yX2_isFull, Cond.selects RX2 yX2_isFull yX2_isFull, Cond.code yX2_isFull cX2_isFull 2 (some .boolean), Cond.methodLink RX3 49 yX3_settle]
def wsX3_takeIn_r4 : List Cond := [Cond.instanceMethod yX3_settle, Cond.selects RX3 yX3_settle yX3_settle, Cond.code yX3_settle cX3_settle 2 (some .int), Cond.methodLink RX3 169 yX0_takeBack, Cond.instanceMethod yX0_takeBack, Cond.selects RX0 yX0_takeBack yX0_takeBack, Cond.code yX0_takeBack cX0_takeBack 2 none, Cond.methodLink RX3 172 yX0_keep, Cond.instanceMethod yX0_keep, Cond.selects RX0 yX0_keep yX0_keep, Cond.code yX0_keep cX0_keep 1 none]
def wsX3_takeIn : List Cond := .code yX3_takeIn cX3_takeIn 2 (some .int) :: ((wsX3_takeIn_r1 ++ (wsX3_takeIn_r2 ++ (wsX3_takeIn_r3 ++ wsX3_takeIn_r4))) ++ wsX30 ++ wsX00 ++ wsX20)
def wsX3_giveUp_r1 : List Cond := [Cond.fieldLink RX3 22 "SlotMaps" "history" "LSlotMaps$History;", Cond.fieldLink RX3 10 "SlotMaps" "now" "LSlotMaps$Slots;", Cond.methodLink RX3 41 yX0_prepare, Cond.instanceMethod yX0_prepare, Cond.selects RX0 yX0_prepare yX0_prepare, Cond.initialized RX0, Cond.code yX0_prepare cX0_prepare 2 none, Cond.fieldLink RX0 11 "SlotMaps$History" "ring" "[LSlotMaps$Slots;", Cond.methodLink RX0 25 yX0_behindLatest, Cond.instanceMethod yX0_behindLatest, Cond.selects RX0 yX0_behindLatest yX0_behindLatest, Cond.code yX0_behindLatest cX0_behindLatest 1 (some .int), Cond.fieldLink RX0 18 "SlotMaps$History" "oldest" "I", Cond.fieldLink RX0 22 "SlotMaps$History" "states" "I", Cond.methodLink RX0 29 yX2_copyFrom, Cond.instanceMethod yX2_copyFrom, Cond.selects RX2 yX2_copyFrom yX2_copyFrom, Cond.initialized RX2, Cond.code yX2_copyFrom cX2_copyFrom 3 none, Cond.fieldLink RX2 11 "SlotMaps$Slots" "bits" "[[I", Cond.methodLink RX2 30 arraycopyName, Cond.native arraycopyName, Cond.static arraycopyName, Cond.initialized "java/lang/System"]
def wsX3_giveUp_r2 : List Cond := [Cond.fieldLink RX2 16 "SlotMaps$Slots" "blockFirst" "[I", Cond.fieldLink RX2 20 "SlotMaps$Slots" "blockSize" "[I", Cond.fieldLink RX2 23 "SlotMaps$Slots" "summary" "I", Cond.fieldLink RX2 27 "SlotMaps$Slots" "looks" "I", Cond.methodLink RX3 69 yX2_giveUpBlock, Cond.instanceMethod yX2_giveUpBlock, Cond.selects RX2 yX2_giveUpBlock yX2_giveUpBlock, Cond.code yX2_giveUpBlock cX2_giveUpBlock 4 (some .int), Cond.methodLink RX2 97 yX2_hasBlock, Cond.instanceMethod yX2_hasBlock, Cond.selects RX2 yX2_hasBlock yX2_hasBlock, Cond.code yX2_hasBlock cX2_hasBlock 2 (some .boolean), Cond.static yX3_wordOf, Cond.initialized RX3, Cond.code yX3_wordOf cX3_wordOf 1 (some .int), Cond.methodLink RX2 94 yX2_blockBits, Cond.instanceMethod yX2_blockBits, Cond.selects RX2 yX2_blockBits yX2_blockBits, Cond.code yX2_blockBits cX2_blockBits 3 (some .int), Cond.static yX3_rangeBits, Cond.code yX3_rangeBits cX3_rangeBits 5 (some .int), Cond.methodLink RX3 175 Lib.Math.max.name, Cond.static Lib.Math.max.name, Cond.initialized "java/lang/Math"]
def wsX3_giveUp_r3 : List Cond := [Cond.code Lib.Math.max.name Lib.Math.max.code 2 (some .int), Cond.methodLink RX3 180 Lib.Math.min.name, Cond.static Lib.Math.min.name, Cond.code Lib.Math.min.name Lib.Math.min.code 2 (some .int), Cond.methodLink RX2 57 yX2_change, Cond.instanceMethod yX2_change, Cond.selects RX2 yX2_change yX2_change, Cond.code yX2_change cX2_change 5 none, Cond.methodLink RX2 47 yX2_isFull, Cond.instanceMethod yX2_isFull, Cond.selects RX2 yX2_isFull yX2_isFull, Cond.code yX2_isFull cX2_isFull 2 (some .boolean), Cond.methodLink RX2 80 yJ6_bitCount_0f7a4, Cond.static yJ6_bitCount_0f7a4, Cond.initialized RJ6, Cond.code yJ6_bitCount_0f7a4 cJ6_bitCount_0f7a4 1 (some .int), Cond.constant RJ6 265 (1431655765), Cond.constant RJ6 266 (858993459), Cond.constant RJ6 267 (252645135), Cond.methodLink RX3 49 yX3_settle, Cond.instanceMethod yX3_settle, Cond.selects RX3 yX3_settle yX3_settle, Cond.code yX3_settle cX3_settle 2 (some .int), Cond.methodLink RX3 169 yX0_takeBack]
def wsX3_giveUp_r4 : List Cond := [Cond.instanceMethod yX0_takeBack, Cond.selects RX0 yX0_takeBack yX0_takeBack, Cond.code yX0_takeBack cX0_takeBack 2 none, Cond.methodLink RX3 172 yX0_keep, Cond.instanceMethod yX0_keep, Cond.selects RX0 yX0_keep yX0_keep, Cond.code yX0_keep cX0_keep 1 none]
def wsX3_giveUp : List Cond := .code yX3_giveUp cX3_giveUp 2 (some .int) :: ((wsX3_giveUp_r1 ++ (wsX3_giveUp_r2 ++ (wsX3_giveUp_r3 ++ wsX3_giveUp_r4))) ++ wsX30 ++ wsX00 ++ wsX20)
def wsX3_damage_r1 : List Cond := [Cond.fieldLink RX3 22 "SlotMaps" "history" "LSlotMaps$History;", Cond.fieldLink RX3 10 "SlotMaps" "now" "LSlotMaps$Slots;", Cond.methodLink RX3 41 yX0_prepare, Cond.instanceMethod yX0_prepare, Cond.selects RX0 yX0_prepare yX0_prepare, Cond.initialized RX0, Cond.code yX0_prepare cX0_prepare 2 none, Cond.fieldLink RX0 11 "SlotMaps$History" "ring" "[LSlotMaps$Slots;", Cond.methodLink RX0 25 yX0_behindLatest, Cond.instanceMethod yX0_behindLatest, Cond.selects RX0 yX0_behindLatest yX0_behindLatest, Cond.code yX0_behindLatest cX0_behindLatest 1 (some .int), Cond.fieldLink RX0 18 "SlotMaps$History" "oldest" "I", Cond.fieldLink RX0 22 "SlotMaps$History" "states" "I", Cond.methodLink RX0 29 yX2_copyFrom, Cond.instanceMethod yX2_copyFrom, Cond.selects RX2 yX2_copyFrom yX2_copyFrom, Cond.initialized RX2, Cond.code yX2_copyFrom cX2_copyFrom 3 none, Cond.fieldLink RX2 11 "SlotMaps$Slots" "bits" "[[I", Cond.methodLink RX2 30 arraycopyName, Cond.native arraycopyName, Cond.static arraycopyName, Cond.initialized "java/lang/System"]
def wsX3_damage_r2 : List Cond := [Cond.fieldLink RX2 16 "SlotMaps$Slots" "blockFirst" "[I", Cond.fieldLink RX2 20 "SlotMaps$Slots" "blockSize" "[I", Cond.fieldLink RX2 23 "SlotMaps$Slots" "summary" "I", Cond.fieldLink RX2 27 "SlotMaps$Slots" "looks" "I", Cond.methodLink RX3 72 yX2_damageBit, Cond.instanceMethod yX2_damageBit, Cond.selects RX2 yX2_damageBit yX2_damageBit, Cond.code yX2_damageBit cX2_damageBit 2 (some .int), Cond.methodLink RX2 44 yX2_summaryBit, Cond.instanceMethod yX2_summaryBit, Cond.selects RX2 yX2_summaryBit yX2_summaryBit, Cond.code yX2_summaryBit cX2_summaryBit 2 (some .int), Cond.methodLink RX3 49 yX3_settle, Cond.instanceMethod yX3_settle, Cond.selects RX3 yX3_settle yX3_settle, Cond.initialized RX3, Cond.code yX3_settle cX3_settle 2 (some .int), Cond.methodLink RX3 169 yX0_takeBack, Cond.instanceMethod yX0_takeBack, Cond.selects RX0 yX0_takeBack yX0_takeBack, Cond.code yX0_takeBack cX0_takeBack 2 none, Cond.methodLink RX3 172 yX0_keep, Cond.instanceMethod yX0_keep, Cond.selects RX0 yX0_keep yX0_keep]
def wsX3_damage_r3 : List Cond := [Cond.code yX0_keep cX0_keep 1 none]
def wsX3_damage : List Cond := .code yX3_damage cX3_damage 2 (some .int) :: ((wsX3_damage_r1 ++ (wsX3_damage_r2 ++ wsX3_damage_r3)) ++ wsX30 ++ wsX00 ++ wsX20)
def wsX3_repair_r1 : List Cond := [Cond.fieldLink RX3 22 "SlotMaps" "history" "LSlotMaps$History;", Cond.fieldLink RX3 10 "SlotMaps" "now" "LSlotMaps$Slots;", Cond.methodLink RX3 41 yX0_prepare, Cond.instanceMethod yX0_prepare, Cond.selects RX0 yX0_prepare yX0_prepare, Cond.initialized RX0, Cond.code yX0_prepare cX0_prepare 2 none, Cond.fieldLink RX0 11 "SlotMaps$History" "ring" "[LSlotMaps$Slots;", Cond.methodLink RX0 25 yX0_behindLatest, Cond.instanceMethod yX0_behindLatest, Cond.selects RX0 yX0_behindLatest yX0_behindLatest, Cond.code yX0_behindLatest cX0_behindLatest 1 (some .int), Cond.fieldLink RX0 18 "SlotMaps$History" "oldest" "I", Cond.fieldLink RX0 22 "SlotMaps$History" "states" "I", Cond.methodLink RX0 29 yX2_copyFrom, Cond.instanceMethod yX2_copyFrom, Cond.selects RX2 yX2_copyFrom yX2_copyFrom, Cond.initialized RX2, Cond.code yX2_copyFrom cX2_copyFrom 3 none, Cond.fieldLink RX2 11 "SlotMaps$Slots" "bits" "[[I", Cond.methodLink RX2 30 arraycopyName, Cond.native arraycopyName, Cond.static arraycopyName, Cond.initialized "java/lang/System"]
def wsX3_repair_r2 : List Cond := [Cond.fieldLink RX2 16 "SlotMaps$Slots" "blockFirst" "[I", Cond.fieldLink RX2 20 "SlotMaps$Slots" "blockSize" "[I", Cond.fieldLink RX2 23 "SlotMaps$Slots" "summary" "I", Cond.fieldLink RX2 27 "SlotMaps$Slots" "looks" "I", Cond.methodLink RX3 75 yX2_repairBits, Cond.instanceMethod yX2_repairBits, Cond.selects RX2 yX2_repairBits yX2_repairBits, Cond.code yX2_repairBits cX2_repairBits 3 (some .int), Cond.methodLink RX2 100 yX2_rightSummary, Cond.instanceMethod yX2_rightSummary, Cond.selects RX2 yX2_rightSummary yX2_rightSummary, Cond.code yX2_rightSummary cX2_rightSummary 3 (some .int), Cond.methodLink RX2 47 yX2_isFull, Cond.instanceMethod yX2_isFull, Cond.selects RX2 yX2_isFull yX2_isFull, Cond.code yX2_isFull cX2_isFull 2 (some .boolean), Cond.methodLink RX2 80 yJ6_bitCount_0f7a4, Cond.static yJ6_bitCount_0f7a4, Cond.initialized RJ6, Cond.code yJ6_bitCount_0f7a4 cJ6_bitCount_0f7a4 1 (some .int), Cond.constant RJ6 265 (1431655765), Cond.constant RJ6 266 (858993459), Cond.constant RJ6 267 (252645135), Cond.methodLink RX3 49 yX3_settle]
def wsX3_repair_r3 : List Cond := [Cond.instanceMethod yX3_settle, Cond.selects RX3 yX3_settle yX3_settle, Cond.initialized RX3, Cond.code yX3_settle cX3_settle 2 (some .int), Cond.methodLink RX3 169 yX0_takeBack, Cond.instanceMethod yX0_takeBack, Cond.selects RX0 yX0_takeBack yX0_takeBack, Cond.code yX0_takeBack cX0_takeBack 2 none, Cond.methodLink RX3 172 yX0_keep, Cond.instanceMethod yX0_keep, Cond.selects RX0 yX0_keep yX0_keep, Cond.code yX0_keep cX0_keep 1 none]
def wsX3_repair : List Cond := .code yX3_repair cX3_repair 1 (some .int) :: ((wsX3_repair_r1 ++ (wsX3_repair_r2 ++ wsX3_repair_r3)) ++ wsX30 ++ wsX00 ++ wsX20)
def wsX3_undo_r1 : List Cond := [Cond.fieldLink RX3 22 "SlotMaps" "history" "LSlotMaps$History;", Cond.fieldLink RX3 10 "SlotMaps" "now" "LSlotMaps$Slots;", Cond.methodLink RX3 78 yX0_restoreLatest, Cond.instanceMethod yX0_restoreLatest, Cond.selects RX0 yX0_restoreLatest yX0_restoreLatest, Cond.initialized RX0, Cond.code yX0_restoreLatest cX0_restoreLatest 2 (some .int), Cond.fieldLink RX0 22 "SlotMaps$History" "states" "I", Cond.methodLink RX0 33 yX0_takeBack, Cond.instanceMethod yX0_takeBack, Cond.selects RX0 yX0_takeBack yX0_takeBack, Cond.code yX0_takeBack cX0_takeBack 2 none, Cond.fieldLink RX0 11 "SlotMaps$History" "ring" "[LSlotMaps$Slots;", Cond.methodLink RX0 25 yX0_behindLatest, Cond.instanceMethod yX0_behindLatest, Cond.selects RX0 yX0_behindLatest yX0_behindLatest, Cond.code yX0_behindLatest cX0_behindLatest 1 (some .int), Cond.fieldLink RX0 18 "SlotMaps$History" "oldest" "I", Cond.methodLink RX0 29 yX2_copyFrom, Cond.instanceMethod yX2_copyFrom, Cond.selects RX2 yX2_copyFrom yX2_copyFrom, Cond.initialized RX2, Cond.code yX2_copyFrom cX2_copyFrom 3 none, Cond.fieldLink RX2 11 "SlotMaps$Slots" "bits" "[[I"]
def wsX3_undo_r2 : List Cond := [Cond.methodLink RX2 30 arraycopyName, Cond.native arraycopyName, Cond.static arraycopyName, Cond.initialized "java/lang/System", Cond.fieldLink RX2 16 "SlotMaps$Slots" "blockFirst" "[I", Cond.fieldLink RX2 20 "SlotMaps$Slots" "blockSize" "[I", Cond.fieldLink RX2 23 "SlotMaps$Slots" "summary" "I", Cond.fieldLink RX2 27 "SlotMaps$Slots" "looks" "I"]
def wsX3_undo : List Cond := .code yX3_undo cX3_undo 1 (some .int) :: ((wsX3_undo_r1 ++ wsX3_undo_r2) ++ wsX30 ++ wsX00 ++ wsX20)
def wsX3_append : List Cond := .code yX3_append cX3_append 2 (some .int) :: ([.fieldLink RX3 37 "SlotMaps" "textLength" "I", .fieldLink RX3 33 "SlotMaps" "text" "[C"] ++ wsX30)
def wsX3_clearText : List Cond := .code yX3_clearText cX3_clearText 2 (some .int) :: ([.fieldLink RX3 37 "SlotMaps" "textLength" "I"] ++ wsX30)
def wsX3_run_r1 : List Cond := [Cond.fieldLink RX3 22 "SlotMaps" "history" "LSlotMaps$History;", Cond.fieldLink RX3 10 "SlotMaps" "now" "LSlotMaps$Slots;", Cond.fieldLink RX3 29 "SlotMaps" "program" "LSlotMaps$Program;", Cond.fieldLink RX3 33 "SlotMaps" "text" "[C", Cond.fieldLink RX3 37 "SlotMaps" "textLength" "I", Cond.methodLink RX3 41 yX0_prepare, Cond.instanceMethod yX0_prepare, Cond.selects RX0 yX0_prepare yX0_prepare, Cond.initialized RX0, Cond.code yX0_prepare cX0_prepare 2 none, Cond.fieldLink RX0 11 "SlotMaps$History" "ring" "[LSlotMaps$Slots;", Cond.methodLink RX0 25 yX0_behindLatest, Cond.instanceMethod yX0_behindLatest, Cond.selects RX0 yX0_behindLatest yX0_behindLatest, Cond.code yX0_behindLatest cX0_behindLatest 1 (some .int), Cond.fieldLink RX0 18 "SlotMaps$History" "oldest" "I", Cond.fieldLink RX0 22 "SlotMaps$History" "states" "I", Cond.methodLink RX0 29 yX2_copyFrom, Cond.instanceMethod yX2_copyFrom, Cond.selects RX2 yX2_copyFrom yX2_copyFrom, Cond.initialized RX2, Cond.code yX2_copyFrom cX2_copyFrom 3 none, Cond.fieldLink RX2 11 "SlotMaps$Slots" "bits" "[[I", Cond.methodLink RX2 30 arraycopyName]
def wsX3_run_r2 : List Cond := [Cond.native arraycopyName, Cond.static arraycopyName, Cond.initialized "java/lang/System", Cond.fieldLink RX2 16 "SlotMaps$Slots" "blockFirst" "[I", Cond.fieldLink RX2 20 "SlotMaps$Slots" "blockSize" "[I", Cond.fieldLink RX2 23 "SlotMaps$Slots" "summary" "I", Cond.fieldLink RX2 27 "SlotMaps$Slots" "looks" "I", Cond.methodLink RX3 82 yX1_execute, Cond.instanceMethod yX1_execute, Cond.selects RX1 yX1_execute yX1_execute, Cond.initialized RX1, Cond.code yX1_execute cX1_execute 7 (some .int), Cond.fieldLink RX1 11 "SlotMaps$Program" "letter" "C", Cond.fieldLink RX1 23 "SlotMaps$Program" "letterPlace" "I", Cond.methodLink RX1 15 yX1_readCharacter, Cond.instanceMethod yX1_readCharacter, Cond.selects RX1 yX1_readCharacter yX1_readCharacter, Cond.code yX1_readCharacter cX1_readCharacter 3 (some .boolean), Cond.methodLink RX1 27 yX1_readLetter, Cond.instanceMethod yX1_readLetter, Cond.selects RX1 yX1_readLetter yX1_readLetter, Cond.code yX1_readLetter cX1_readLetter 3 (some .boolean), Cond.fieldLink RX1 41 "SlotMaps$Program" "hasFrom" "Z", Cond.fieldLink RX1 45 "SlotMaps$Program" "number" "I"]
def wsX3_run_r3 : List Cond := [Cond.fieldLink RX1 48 "SlotMaps$Program" "digits" "I", Cond.methodLink RX1 30 yX1_readDigit, Cond.instanceMethod yX1_readDigit, Cond.selects RX1 yX1_readDigit yX1_readDigit, Cond.code yX1_readDigit cX1_readDigit 3 (some .boolean), Cond.methodLink RX1 34 yX1_readDash, Cond.instanceMethod yX1_readDash, Cond.selects RX1 yX1_readDash yX1_readDash, Cond.code yX1_readDash cX1_readDash 1 (some .boolean), Cond.fieldLink RX1 51 "SlotMaps$Program" "from" "I", Cond.methodLink RX1 38 yX1_mayEnd, Cond.instanceMethod yX1_mayEnd, Cond.selects RX1 yX1_mayEnd yX1_mayEnd, Cond.code yX1_mayEnd cX1_mayEnd 1 (some .boolean), Cond.methodLink RX1 19 yX1_perform, Cond.instanceMethod yX1_perform, Cond.selects RX1 yX1_perform yX1_perform, Cond.code yX1_perform cX1_perform 2 (some .int), Cond.methodLink RX1 54 yX2_takeMany, Cond.instanceMethod yX2_takeMany, Cond.selects RX2 yX2_takeMany yX2_takeMany, Cond.code yX2_takeMany cX2_takeMany 3 (some .int), Cond.methodLink RX2 61 yX2_takeOne, Cond.instanceMethod yX2_takeOne]
def wsX3_run_r4 : List Cond := [Cond.selects RX2 yX2_takeOne yX2_takeOne, Cond.code yX2_takeOne cX2_takeOne 2 (some .int), Cond.methodLink RX2 36 yX2_takeBySummaries, Cond.instanceMethod yX2_takeBySummaries, Cond.selects RX2 yX2_takeBySummaries yX2_takeBySummaries, Cond.code yX2_takeBySummaries cX2_takeBySummaries 3 (some .int), Cond.methodLink RX2 44 yX2_summaryBit, Cond.instanceMethod yX2_summaryBit, Cond.selects RX2 yX2_summaryBit yX2_summaryBit, Cond.code yX2_summaryBit cX2_summaryBit 2 (some .int), Cond.methodLink RX2 47 yX2_isFull, Cond.instanceMethod yX2_isFull, Cond.selects RX2 yX2_isFull yX2_isFull, Cond.code yX2_isFull cX2_isFull 2 (some .boolean), Cond.static yX3_lowestBit, Cond.initialized RX3, Cond.code yX3_lowestBit cX3_lowestBit 1 (some .int), Cond.methodLink RX3 98 yJ6_bitCount_0f7a4, Cond.static yJ6_bitCount_0f7a4, Cond.initialized RJ6, Cond.code yJ6_bitCount_0f7a4 cJ6_bitCount_0f7a4 1 (some .int), Cond.constant RJ6 265 (1431655765), Cond.constant RJ6 266 (858993459), Cond.constant RJ6 267 (252645135)]
def wsX3_run_r5 : List Cond := [Cond.static yX3_bitOf, Cond.code yX3_bitOf cX3_bitOf 1 (some .int), Cond.methodLink RX2 57 yX2_change, Cond.instanceMethod yX2_change, Cond.selects RX2 yX2_change yX2_change, Cond.code yX2_change cX2_change 5 none, Cond.methodLink RX2 40 yX2_clearWords, Cond.instanceMethod yX2_clearWords, Cond.selects RX2 yX2_clearWords yX2_clearWords, Cond.code yX2_clearWords cX2_clearWords 6 (some .int), Cond.methodLink RX2 80 yJ6_bitCount_0f7a4, Cond.methodLink RX1 60 yX2_giveBackRange, Cond.instanceMethod yX2_giveBackRange, Cond.selects RX2 yX2_giveBackRange yX2_giveBackRange, Cond.code yX2_giveBackRange cX2_giveBackRange 7 (some .int), Cond.static yX3_rangeBits, Cond.code yX3_rangeBits cX3_rangeBits 5 (some .int), Cond.methodLink RX3 175 Lib.Math.max.name, Cond.static Lib.Math.max.name, Cond.initialized "java/lang/Math", Cond.code Lib.Math.max.name Lib.Math.max.code 2 (some .int), Cond.methodLink RX3 180 Lib.Math.min.name, Cond.static Lib.Math.min.name, Cond.code Lib.Math.min.name Lib.Math.min.code 2 (some .int)]
def wsX3_run_r6 : List Cond := [Cond.methodLink RX2 77 yX2_ownedBits, Cond.instanceMethod yX2_ownedBits, Cond.selects RX2 yX2_ownedBits yX2_ownedBits, Cond.code yX2_ownedBits cX2_ownedBits 4 (some .int), Cond.static yX3_wordOf, Cond.code yX3_wordOf cX3_wordOf 1 (some .int), Cond.methodLink RX2 94 yX2_blockBits, Cond.instanceMethod yX2_blockBits, Cond.selects RX2 yX2_blockBits yX2_blockBits, Cond.code yX2_blockBits cX2_blockBits 3 (some .int), Cond.methodLink RX1 64 yX2_clearWords, Cond.methodLink RX1 67 yX2_reserveBlock, Cond.instanceMethod yX2_reserveBlock, Cond.selects RX2 yX2_reserveBlock yX2_reserveBlock, Cond.code yX2_reserveBlock cX2_reserveBlock 4 (some .int), Cond.static yX3_isBlockSize, Cond.code yX3_isBlockSize cX3_isBlockSize 1 (some .boolean), Cond.methodLink RX2 88 yX2_firstUnusedBlock, Cond.instanceMethod yX2_firstUnusedBlock, Cond.selects RX2 yX2_firstUnusedBlock yX2_firstUnusedBlock, Cond.code yX2_firstUnusedBlock cX2_firstUnusedBlock 2 (some .int), Cond.methodLink RX2 97 yX2_hasBlock, Cond.instanceMethod yX2_hasBlock, Cond.selects RX2 yX2_hasBlock yX2_hasBlock]
def wsX3_run_r7 : List Cond := [Cond.code yX2_hasBlock cX2_hasBlock 2 (some .boolean), Cond.methodLink RX2 91 yX2_placeStart, Cond.instanceMethod yX2_placeStart, Cond.selects RX2 yX2_placeStart yX2_placeStart, Cond.code yX2_placeStart cX2_placeStart 5 (some .int), Cond.methodLink RX1 70 yX2_takeInBlock, Cond.instanceMethod yX2_takeInBlock, Cond.selects RX2 yX2_takeInBlock yX2_takeInBlock, Cond.code yX2_takeInBlock cX2_takeInBlock 5 (some .int), Cond.methodLink RX1 73 yX2_damageBit, Cond.instanceMethod yX2_damageBit, Cond.selects RX2 yX2_damageBit yX2_damageBit, Cond.code yX2_damageBit cX2_damageBit 2 (some .int), Cond.methodLink RX1 76 yX2_repairBits, Cond.instanceMethod yX2_repairBits, Cond.selects RX2 yX2_repairBits yX2_repairBits, Cond.code yX2_repairBits cX2_repairBits 3 (some .int), Cond.methodLink RX2 100 yX2_rightSummary, Cond.instanceMethod yX2_rightSummary, Cond.selects RX2 yX2_rightSummary yX2_rightSummary, Cond.code yX2_rightSummary cX2_rightSummary 3 (some .int), Cond.methodLink RX3 49 yX3_settle, Cond.instanceMethod yX3_settle, Cond.selects RX3 yX3_settle yX3_settle]
def wsX3_run_r8 : List Cond := [Cond.code yX3_settle cX3_settle 2 (some .int), Cond.methodLink RX3 169 yX0_takeBack, Cond.instanceMethod yX0_takeBack, Cond.selects RX0 yX0_takeBack yX0_takeBack, Cond.code yX0_takeBack cX0_takeBack 2 none, Cond.methodLink RX3 172 yX0_keep, Cond.instanceMethod yX0_keep, Cond.selects RX0 yX0_keep yX0_keep, Cond.code yX0_keep cX0_keep 1 none]
def wsX3_run : List Cond := .code yX3_run cX3_run 1 (some .int) :: ((wsX3_run_r1 ++ (wsX3_run_r2 ++ (wsX3_run_r3 ++ (wsX3_run_r4 ++ (wsX3_run_r5 ++ (wsX3_run_r6 ++ (wsX3_run_r7 ++ wsX3_run_r8))))))) ++ wsX30 ++ wsX00 ++ wsX20 ++ wsX10)
def wsX3_count_r1 : List Cond := [Cond.fieldLink RX3 10 "SlotMaps" "now" "LSlotMaps$Slots;", Cond.fieldLink RX3 22 "SlotMaps" "history" "LSlotMaps$History;", Cond.fieldLink RX3 37 "SlotMaps" "textLength" "I", Cond.methodLink RX3 86 yX2_total, Cond.instanceMethod yX2_total, Cond.selects RX2 yX2_total yX2_total, Cond.initialized RX2, Cond.code yX2_total cX2_total 4 (some .int), Cond.fieldLink RX2 11 "SlotMaps$Slots" "bits" "[[I", Cond.methodLink RX2 80 yJ6_bitCount_0f7a4, Cond.static yJ6_bitCount_0f7a4, Cond.initialized RJ6, Cond.code yJ6_bitCount_0f7a4 cJ6_bitCount_0f7a4 1 (some .int), Cond.constant RJ6 265 (1431655765), Cond.constant RJ6 266 (858993459), Cond.constant RJ6 267 (252645135), Cond.methodLink RX3 89 yX2_blockTotal, Cond.instanceMethod yX2_blockTotal, Cond.selects RX2 yX2_blockTotal yX2_blockTotal, Cond.code yX2_blockTotal cX2_blockTotal 3 (some .int), Cond.methodLink RX2 97 yX2_hasBlock, Cond.instanceMethod yX2_hasBlock, Cond.selects RX2 yX2_hasBlock yX2_hasBlock, Cond.code yX2_hasBlock cX2_hasBlock 2 (some .boolean)]
def wsX3_count_r2 : List Cond := [Cond.fieldLink RX2 20 "SlotMaps$Slots" "blockSize" "[I", Cond.methodLink RX3 98 yJ6_bitCount_0f7a4, Cond.methodLink RX3 103 yX2_rightSummary, Cond.instanceMethod yX2_rightSummary, Cond.selects RX2 yX2_rightSummary yX2_rightSummary, Cond.code yX2_rightSummary cX2_rightSummary 3 (some .int), Cond.methodLink RX2 47 yX2_isFull, Cond.instanceMethod yX2_isFull, Cond.selects RX2 yX2_isFull yX2_isFull, Cond.code yX2_isFull cX2_isFull 2 (some .boolean), Cond.methodLink RX3 106 yX2_freeRuns, Cond.instanceMethod yX2_freeRuns, Cond.selects RX2 yX2_freeRuns yX2_freeRuns, Cond.code yX2_freeRuns cX2_freeRuns 5 (some .int), Cond.methodLink RX2 103 yX2_isFree, Cond.instanceMethod yX2_isFree, Cond.selects RX2 yX2_isFree yX2_isFree, Cond.code yX2_isFree cX2_isFree 2 (some .boolean), Cond.static yX3_wordOf, Cond.initialized RX3, Cond.code yX3_wordOf cX3_wordOf 1 (some .int), Cond.static yX3_bitOf, Cond.code yX3_bitOf cX3_bitOf 1 (some .int), Cond.methodLink RX3 109 yX2_longestFreeRun]
def wsX3_count_r3 : List Cond := [Cond.instanceMethod yX2_longestFreeRun, Cond.selects RX2 yX2_longestFreeRun yX2_longestFreeRun, Cond.code yX2_longestFreeRun cX2_longestFreeRun 4 (some .int), Cond.methodLink RX2 106 Lib.Math.max.name, Cond.static Lib.Math.max.name, Cond.initialized "java/lang/Math", Cond.code Lib.Math.max.name Lib.Math.max.code 2 (some .int)]
def wsX3_count : List Cond := .code yX3_count cX3_count 2 (some .int) :: ((wsX3_count_r1 ++ (wsX3_count_r2 ++ wsX3_count_r3)) ++ wsX30 ++ wsX20 ++ wsX00)
def wsX3_slot : List Cond := .code yX3_slot cX3_slot 3 (some .int) :: ([.fieldLink RX3 10 "SlotMaps" "now" "LSlotMaps$Slots;", .methodLink RX3 115 yX2_kindOf, .instanceMethod yX2_kindOf, .selects RX2 yX2_kindOf yX2_kindOf, .initialized RX2, .code yX2_kindOf cX2_kindOf 3 (some .int), .fieldLink RX2 11 "SlotMaps$Slots" "bits" "[[I", .static yX3_wordOf, .initialized RX3, .code yX3_wordOf cX3_wordOf 1 (some .int), .static yX3_bitOf, .code yX3_bitOf cX3_bitOf 1 (some .int), .methodLink RX3 118 yX2_blockOf, .instanceMethod yX2_blockOf, .selects RX2 yX2_blockOf yX2_blockOf, .code yX2_blockOf cX2_blockOf 3 (some .int), .fieldLink RX2 16 "SlotMaps$Slots" "blockFirst" "[I", .fieldLink RX2 20 "SlotMaps$Slots" "blockSize" "[I"] ++ wsX30 ++ wsX20)
def wsX3_word_r1 : List Cond := [Cond.fieldLink RX3 10 "SlotMaps" "now" "LSlotMaps$Slots;", Cond.methodLink RX3 98 yJ6_bitCount_0f7a4, Cond.static yJ6_bitCount_0f7a4, Cond.initialized RJ6, Cond.code yJ6_bitCount_0f7a4 cJ6_bitCount_0f7a4 1 (some .int), Cond.constant RJ6 265 (1431655765), Cond.constant RJ6 266 (858993459), Cond.constant RJ6 267 (252645135), Cond.methodLink RX3 125 yX2_summaryBit, Cond.instanceMethod yX2_summaryBit, Cond.selects RX2 yX2_summaryBit yX2_summaryBit, Cond.initialized RX2, Cond.code yX2_summaryBit cX2_summaryBit 2 (some .int), Cond.fieldLink RX2 23 "SlotMaps$Slots" "summary" "I", Cond.methodLink RX3 128 yX2_isFull, Cond.instanceMethod yX2_isFull, Cond.selects RX2 yX2_isFull yX2_isFull, Cond.code yX2_isFull cX2_isFull 2 (some .boolean), Cond.fieldLink RX2 11 "SlotMaps$Slots" "bits" "[[I", Cond.methodLink RX3 132 yX2_firstFree, Cond.instanceMethod yX2_firstFree, Cond.selects RX2 yX2_firstFree yX2_firstFree, Cond.code yX2_firstFree cX2_firstFree 2 (some .int), Cond.methodLink RX2 47 yX2_isFull]
def wsX3_word_r2 : List Cond := [Cond.static yX3_lowestBit, Cond.initialized RX3, Cond.code yX3_lowestBit cX3_lowestBit 1 (some .int)]
def wsX3_word : List Cond := .code yX3_word cX3_word 3 (some .int) :: ((wsX3_word_r1 ++ wsX3_word_r2) ++ wsX30 ++ wsX20)
def wsX3_block_r1 : List Cond := [Cond.fieldLink RX3 10 "SlotMaps" "now" "LSlotMaps$Slots;", Cond.methodLink RX3 135 yX2_hasBlock, Cond.instanceMethod yX2_hasBlock, Cond.selects RX2 yX2_hasBlock yX2_hasBlock, Cond.initialized RX2, Cond.code yX2_hasBlock cX2_hasBlock 2 (some .boolean), Cond.fieldLink RX2 20 "SlotMaps$Slots" "blockSize" "[I", Cond.methodLink RX3 145 yX2_totalInBlock, Cond.instanceMethod yX2_totalInBlock, Cond.selects RX2 yX2_totalInBlock yX2_totalInBlock, Cond.code yX2_totalInBlock cX2_totalInBlock 3 (some .int), Cond.fieldLink RX2 11 "SlotMaps$Slots" "bits" "[[I", Cond.fieldLink RX2 16 "SlotMaps$Slots" "blockFirst" "[I", Cond.static yX3_wordOf, Cond.initialized RX3, Cond.code yX3_wordOf cX3_wordOf 1 (some .int), Cond.methodLink RX2 94 yX2_blockBits, Cond.instanceMethod yX2_blockBits, Cond.selects RX2 yX2_blockBits yX2_blockBits, Cond.code yX2_blockBits cX2_blockBits 3 (some .int), Cond.static yX3_rangeBits, Cond.code yX3_rangeBits cX3_rangeBits 5 (some .int), Cond.methodLink RX3 175 Lib.Math.max.name, Cond.static Lib.Math.max.name]
def wsX3_block_r2 : List Cond := [Cond.initialized "java/lang/Math", Cond.code Lib.Math.max.name Lib.Math.max.code 2 (some .int), Cond.methodLink RX3 180 Lib.Math.min.name, Cond.static Lib.Math.min.name, Cond.code Lib.Math.min.name Lib.Math.min.code 2 (some .int), Cond.methodLink RX2 80 yJ6_bitCount_0f7a4, Cond.static yJ6_bitCount_0f7a4, Cond.initialized RJ6, Cond.code yJ6_bitCount_0f7a4 cJ6_bitCount_0f7a4 1 (some .int), Cond.constant RJ6 265 (1431655765), Cond.constant RJ6 266 (858993459), Cond.constant RJ6 267 (252645135)]
def wsX3_block : List Cond := .code yX3_block cX3_block 3 (some .int) :: ((wsX3_block_r1 ++ wsX3_block_r2) ++ wsX30 ++ wsX20)
def wsX3_audit : List Cond := .code yX3_audit cX3_audit 3 (some .int) :: ([.fieldLink RX3 10 "SlotMaps" "now" "LSlotMaps$Slots;", .methodLink RX3 103 yX2_rightSummary, .instanceMethod yX2_rightSummary, .selects RX2 yX2_rightSummary yX2_rightSummary, .initialized RX2, .code yX2_rightSummary cX2_rightSummary 3 (some .int), .methodLink RX2 47 yX2_isFull, .instanceMethod yX2_isFull, .selects RX2 yX2_isFull yX2_isFull, .code yX2_isFull cX2_isFull 2 (some .boolean), .fieldLink RX2 11 "SlotMaps$Slots" "bits" "[[I", .methodLink RX3 98 yJ6_bitCount_0f7a4, .static yJ6_bitCount_0f7a4, .initialized RJ6, .code yJ6_bitCount_0f7a4 cJ6_bitCount_0f7a4 1 (some .int), .constant RJ6 265 (1431655765), .constant RJ6 266 (858993459), .constant RJ6 267 (252645135), .methodLink RX3 148 yX3_lowestBit, .static yX3_lowestBit, .initialized RX3, .code yX3_lowestBit cX3_lowestBit 1 (some .int)] ++ wsX30 ++ wsX20)
def wsX3_next_r1 : List Cond := [Cond.fieldLink RX3 16 "SlotMaps" "trial" "LSlotMaps$Slots;", Cond.fieldLink RX3 10 "SlotMaps" "now" "LSlotMaps$Slots;", Cond.methodLink RX3 151 yX2_copyFrom, Cond.instanceMethod yX2_copyFrom, Cond.selects RX2 yX2_copyFrom yX2_copyFrom, Cond.initialized RX2, Cond.code yX2_copyFrom cX2_copyFrom 3 none, Cond.fieldLink RX2 11 "SlotMaps$Slots" "bits" "[[I", Cond.methodLink RX2 30 arraycopyName, Cond.native arraycopyName, Cond.static arraycopyName, Cond.initialized "java/lang/System", Cond.fieldLink RX2 16 "SlotMaps$Slots" "blockFirst" "[I", Cond.fieldLink RX2 20 "SlotMaps$Slots" "blockSize" "[I", Cond.fieldLink RX2 23 "SlotMaps$Slots" "summary" "I", Cond.fieldLink RX2 27 "SlotMaps$Slots" "looks" "I", Cond.methodLink RX3 45 yX2_takeOne, Cond.instanceMethod yX2_takeOne, Cond.selects RX2 yX2_takeOne yX2_takeOne, Cond.code yX2_takeOne cX2_takeOne 2 (some .int), Cond.methodLink RX2 36 yX2_takeBySummaries, Cond.instanceMethod yX2_takeBySummaries, Cond.selects RX2 yX2_takeBySummaries yX2_takeBySummaries, Cond.code yX2_takeBySummaries cX2_takeBySummaries 3 (some .int)]
def wsX3_next_r2 : List Cond := [Cond.methodLink RX2 44 yX2_summaryBit, Cond.instanceMethod yX2_summaryBit, Cond.selects RX2 yX2_summaryBit yX2_summaryBit, Cond.code yX2_summaryBit cX2_summaryBit 2 (some .int), Cond.methodLink RX2 47 yX2_isFull, Cond.instanceMethod yX2_isFull, Cond.selects RX2 yX2_isFull yX2_isFull, Cond.code yX2_isFull cX2_isFull 2 (some .boolean), Cond.static yX3_lowestBit, Cond.initialized RX3, Cond.code yX3_lowestBit cX3_lowestBit 1 (some .int), Cond.methodLink RX3 98 yJ6_bitCount_0f7a4, Cond.static yJ6_bitCount_0f7a4, Cond.initialized RJ6, Cond.code yJ6_bitCount_0f7a4 cJ6_bitCount_0f7a4 1 (some .int), Cond.constant RJ6 265 (1431655765), Cond.constant RJ6 266 (858993459), Cond.constant RJ6 267 (252645135), Cond.static yX3_bitOf, Cond.code yX3_bitOf cX3_bitOf 1 (some .int), Cond.methodLink RX2 57 yX2_change, Cond.instanceMethod yX2_change, Cond.selects RX2 yX2_change yX2_change, Cond.code yX2_change cX2_change 5 none]
def wsX3_next_r3 : List Cond := [Cond.methodLink RX2 40 yX2_clearWords, Cond.instanceMethod yX2_clearWords, Cond.selects RX2 yX2_clearWords yX2_clearWords, Cond.code yX2_clearWords cX2_clearWords 6 (some .int), Cond.methodLink RX2 80 yJ6_bitCount_0f7a4, Cond.methodLink RX3 86 yX2_total, Cond.instanceMethod yX2_total, Cond.selects RX2 yX2_total yX2_total, Cond.code yX2_total cX2_total 4 (some .int)]
def wsX3_next : List Cond := .code yX3_next cX3_next 3 (some .int) :: ((wsX3_next_r1 ++ (wsX3_next_r2 ++ wsX3_next_r3)) ++ wsX30 ++ wsX20)
def wsX3_runAt : List Cond := .code yX3_runAt cX3_runAt 2 (some .int) :: ([.fieldLink RX3 10 "SlotMaps" "now" "LSlotMaps$Slots;", .methodLink RX3 154 yX3_isRunLength, .static yX3_isRunLength, .initialized RX3, .code yX3_isRunLength cX3_isRunLength 1 (some .boolean), .methodLink RX3 157 yX2_runStart, .instanceMethod yX2_runStart, .selects RX2 yX2_runStart yX2_runStart, .initialized RX2, .code yX2_runStart cX2_runStart 4 (some .int), .methodLink RX2 103 yX2_isFree, .instanceMethod yX2_isFree, .selects RX2 yX2_isFree yX2_isFree, .code yX2_isFree cX2_isFree 2 (some .boolean), .fieldLink RX2 11 "SlotMaps$Slots" "bits" "[[I", .static yX3_wordOf, .code yX3_wordOf cX3_wordOf 1 (some .int), .static yX3_bitOf, .code yX3_bitOf cX3_bitOf 1 (some .int)] ++ wsX30 ++ wsX20)
def wsX3_placeFor : List Cond := .code yX3_placeFor cX3_placeFor 2 (some .int) :: ([.fieldLink RX3 10 "SlotMaps" "now" "LSlotMaps$Slots;", .methodLink RX3 160 yX3_isBlockSize, .static yX3_isBlockSize, .initialized RX3, .code yX3_isBlockSize cX3_isBlockSize 1 (some .boolean), .methodLink RX3 163 yX2_placeStart, .instanceMethod yX2_placeStart, .selects RX2 yX2_placeStart yX2_placeStart, .initialized RX2, .code yX2_placeStart cX2_placeStart 5 (some .int), .fieldLink RX2 11 "SlotMaps$Slots" "bits" "[[I", .static yX3_wordOf, .code yX3_wordOf cX3_wordOf 1 (some .int), .static yX3_rangeBits, .code yX3_rangeBits cX3_rangeBits 5 (some .int), .methodLink RX3 175 Lib.Math.max.name, .static Lib.Math.max.name, .initialized "java/lang/Math", .code Lib.Math.max.name Lib.Math.max.code 2 (some .int), .methodLink RX3 180 Lib.Math.min.name, .static Lib.Math.min.name, .code Lib.Math.min.name Lib.Math.min.code 2 (some .int)] ++ wsX30 ++ wsX20)
def wsX3_takes : List Cond := .code yX3_takes cX3_takes 1 (some .int) :: ([.fieldLink RX3 10 "SlotMaps" "now" "LSlotMaps$Slots;", .methodLink RX3 166 yX2_reachable, .instanceMethod yX2_reachable, .selects RX2 yX2_reachable yX2_reachable, .initialized RX2, .code yX2_reachable cX2_reachable 3 (some .int), .fieldLink RX2 11 "SlotMaps$Slots" "bits" "[[I", .methodLink RX2 44 yX2_summaryBit, .instanceMethod yX2_summaryBit, .selects RX2 yX2_summaryBit yX2_summaryBit, .code yX2_summaryBit cX2_summaryBit 2 (some .int), .fieldLink RX2 23 "SlotMaps$Slots" "summary" "I", .methodLink RX2 80 yJ6_bitCount_0f7a4, .static yJ6_bitCount_0f7a4, .initialized RJ6, .code yJ6_bitCount_0f7a4 cJ6_bitCount_0f7a4 1 (some .int), .constant RJ6 265 (1431655765), .constant RJ6 266 (858993459), .constant RJ6 267 (252645135)] ++ wsX30 ++ wsX20)
def wsX4_init : List Cond := .code yX4_init cX4_init 1 none :: ([.methodLink RX4 1 objectInit, .instanceMethod objectInit, .code objectInit ⟨#[0xb1]⟩ 1 none, .arrayClass .int, .fieldLink RX4 7 "SlotMapsModel" "now" "[I", .fieldLink RX4 13 "SlotMapsModel" "past" "[I", .fieldLink RX4 16 "SlotMapsModel" "before" "[I", .fieldLink RX4 19 "SlotMapsModel" "trial" "[I", .fieldLink RX4 22 "SlotMapsModel" "text" "[I"] ++ wsX40)
def wsX4_in : List Cond := .code yX4_in cX4_in 3 (some .boolean) :: ([])
def wsX4_copies : List Cond := .code yX4_copies cX4_copies 5 none :: ([])
def wsX4_notes : List Cond := .code yX4_notes cX4_notes 1 none :: ([.fieldLink RX4 7 "SlotMapsModel" "now" "[I", .fieldLink RX4 16 "SlotMapsModel" "before" "[I", .methodLink RX4 25 yX4_copies, .static yX4_copies, .initialized RX4, .code yX4_copies cX4_copies 5 none] ++ wsX40)
def wsX4_ends : List Cond := .code yX4_ends cX4_ends 3 (some .int) :: ([.fieldLink RX4 16 "SlotMapsModel" "before" "[I", .fieldLink RX4 7 "SlotMapsModel" "now" "[I", .fieldLink RX4 29 "SlotMapsModel" "pasts" "I", .fieldLink RX4 13 "SlotMapsModel" "past" "[I", .methodLink RX4 25 yX4_copies, .static yX4_copies, .initialized RX4, .code yX4_copies cX4_copies 5 none] ++ wsX40)
def wsX4_inWord : List Cond := .code yX4_inWord cX4_inWord 5 (some .int) :: ([.fieldLink RX4 7 "SlotMapsModel" "now" "[I"] ++ wsX40)
def wsX4_inAll : List Cond := .code yX4_inAll cX4_inAll 4 (some .int) :: ([.methodLink RX4 33 yX4_inWord, .instanceMethod yX4_inWord, .selects RX4 yX4_inWord yX4_inWord, .initialized RX4, .code yX4_inWord cX4_inWord 5 (some .int), .fieldLink RX4 7 "SlotMapsModel" "now" "[I"] ++ wsX40)
def wsX4_right : List Cond := .code yX4_right cX4_right 2 (some .int) :: ([.methodLink RX4 33 yX4_inWord, .instanceMethod yX4_inWord, .selects RX4 yX4_inWord yX4_inWord, .initialized RX4, .code yX4_inWord cX4_inWord 5 (some .int), .fieldLink RX4 7 "SlotMapsModel" "now" "[I"] ++ wsX40)
def wsX4_becomes : List Cond := .code yX4_becomes cX4_becomes 3 none :: ([.fieldLink RX4 7 "SlotMapsModel" "now" "[I", .methodLink RX4 37 yX4_right, .instanceMethod yX4_right, .selects RX4 yX4_right yX4_right, .initialized RX4, .code yX4_right cX4_right 2 (some .int), .methodLink RX4 33 yX4_inWord, .instanceMethod yX4_inWord, .selects RX4 yX4_inWord yX4_inWord, .code yX4_inWord cX4_inWord 5 (some .int)] ++ wsX40)
def wsX4_firstIn : List Cond := .code yX4_firstIn cX4_firstIn 3 (some .int) :: ([.fieldLink RX4 7 "SlotMapsModel" "now" "[I"] ++ wsX40)
def wsX4_goesThrough : List Cond := .code yX4_goesThrough cX4_goesThrough 3 (some .int) :: ([.fieldLink RX4 7 "SlotMapsModel" "now" "[I", .methodLink RX4 41 yX4_firstIn, .instanceMethod yX4_firstIn, .selects RX4 yX4_firstIn yX4_firstIn, .initialized RX4, .code yX4_firstIn cX4_firstIn 3 (some .int), .methodLink RX4 44 yX4_becomes, .instanceMethod yX4_becomes, .selects RX4 yX4_becomes yX4_becomes, .code yX4_becomes cX4_becomes 3 none, .methodLink RX4 37 yX4_right, .instanceMethod yX4_right, .selects RX4 yX4_right yX4_right, .code yX4_right cX4_right 2 (some .int), .methodLink RX4 33 yX4_inWord, .instanceMethod yX4_inWord, .selects RX4 yX4_inWord yX4_inWord, .code yX4_inWord cX4_inWord 5 (some .int)] ++ wsX40)
def wsX4_clears : List Cond := .code yX4_clears cX4_clears 6 (some .int) :: ([.fieldLink RX4 7 "SlotMapsModel" "now" "[I", .methodLink RX4 33 yX4_inWord, .instanceMethod yX4_inWord, .selects RX4 yX4_inWord yX4_inWord, .initialized RX4, .code yX4_inWord cX4_inWord 5 (some .int), .methodLink RX4 44 yX4_becomes, .instanceMethod yX4_becomes, .selects RX4 yX4_becomes yX4_becomes, .code yX4_becomes cX4_becomes 3 none, .methodLink RX4 37 yX4_right, .instanceMethod yX4_right, .selects RX4 yX4_right yX4_right, .code yX4_right cX4_right 2 (some .int)] ++ wsX40)
def wsX4_takes1_r1 : List Cond := [Cond.methodLink RX4 48 yX4_goesThrough, Cond.instanceMethod yX4_goesThrough, Cond.selects RX4 yX4_goesThrough yX4_goesThrough, Cond.initialized RX4, Cond.code yX4_goesThrough cX4_goesThrough 3 (some .int), Cond.fieldLink RX4 7 "SlotMapsModel" "now" "[I", Cond.methodLink RX4 41 yX4_firstIn, Cond.instanceMethod yX4_firstIn, Cond.selects RX4 yX4_firstIn yX4_firstIn, Cond.code yX4_firstIn cX4_firstIn 3 (some .int), Cond.methodLink RX4 44 yX4_becomes, Cond.instanceMethod yX4_becomes, Cond.selects RX4 yX4_becomes yX4_becomes, Cond.code yX4_becomes cX4_becomes 3 none, Cond.methodLink RX4 37 yX4_right, Cond.instanceMethod yX4_right, Cond.selects RX4 yX4_right yX4_right, Cond.code yX4_right cX4_right 2 (some .int), Cond.methodLink RX4 33 yX4_inWord, Cond.instanceMethod yX4_inWord, Cond.selects RX4 yX4_inWord yX4_inWord, Cond.code yX4_inWord cX4_inWord 5 (some .int), Cond.methodLink RX4 52 yX4_clears, Cond.instanceMethod yX4_clears]
def wsX4_takes1_r2 : List Cond := [Cond.selects RX4 yX4_clears yX4_clears, Cond.code yX4_clears cX4_clears 6 (some .int)]
def wsX4_takes1 : List Cond := .code yX4_takes1 cX4_takes1 2 (some .int) :: ((wsX4_takes1_r1 ++ wsX4_takes1_r2) ++ wsX40)
def wsX4_take_r1 : List Cond := [Cond.methodLink RX4 55 yX4_notes, Cond.instanceMethod yX4_notes, Cond.selects RX4 yX4_notes yX4_notes, Cond.initialized RX4, Cond.code yX4_notes cX4_notes 1 none, Cond.fieldLink RX4 7 "SlotMapsModel" "now" "[I", Cond.fieldLink RX4 16 "SlotMapsModel" "before" "[I", Cond.methodLink RX4 25 yX4_copies, Cond.static yX4_copies, Cond.code yX4_copies cX4_copies 5 none, Cond.methodLink RX4 58 yX4_takes1, Cond.instanceMethod yX4_takes1, Cond.selects RX4 yX4_takes1 yX4_takes1, Cond.code yX4_takes1 cX4_takes1 2 (some .int), Cond.methodLink RX4 48 yX4_goesThrough, Cond.instanceMethod yX4_goesThrough, Cond.selects RX4 yX4_goesThrough yX4_goesThrough, Cond.code yX4_goesThrough cX4_goesThrough 3 (some .int), Cond.methodLink RX4 41 yX4_firstIn, Cond.instanceMethod yX4_firstIn, Cond.selects RX4 yX4_firstIn yX4_firstIn, Cond.code yX4_firstIn cX4_firstIn 3 (some .int), Cond.methodLink RX4 44 yX4_becomes, Cond.instanceMethod yX4_becomes]
def wsX4_take_r2 : List Cond := [Cond.selects RX4 yX4_becomes yX4_becomes, Cond.code yX4_becomes cX4_becomes 3 none, Cond.methodLink RX4 37 yX4_right, Cond.instanceMethod yX4_right, Cond.selects RX4 yX4_right yX4_right, Cond.code yX4_right cX4_right 2 (some .int), Cond.methodLink RX4 33 yX4_inWord, Cond.instanceMethod yX4_inWord, Cond.selects RX4 yX4_inWord yX4_inWord, Cond.code yX4_inWord cX4_inWord 5 (some .int), Cond.methodLink RX4 52 yX4_clears, Cond.instanceMethod yX4_clears, Cond.selects RX4 yX4_clears yX4_clears, Cond.code yX4_clears cX4_clears 6 (some .int), Cond.methodLink RX4 61 yX4_ends, Cond.instanceMethod yX4_ends, Cond.selects RX4 yX4_ends yX4_ends, Cond.code yX4_ends cX4_ends 3 (some .int), Cond.fieldLink RX4 29 "SlotMapsModel" "pasts" "I", Cond.fieldLink RX4 13 "SlotMapsModel" "past" "[I"]
def wsX4_take : List Cond := .code yX4_take cX4_take 1 (some .int) :: ((wsX4_take_r1 ++ wsX4_take_r2) ++ wsX40)
def wsX4_runFrom : List Cond := .code yX4_runFrom cX4_runFrom 4 (some .int) :: ([.fieldLink RX4 7 "SlotMapsModel" "now" "[I"] ++ wsX40)
def wsX4_takeRun_r1 : List Cond := [Cond.fieldLink RX4 7 "SlotMapsModel" "now" "[I", Cond.methodLink RX4 64 yX4_in, Cond.static yX4_in, Cond.initialized RX4, Cond.code yX4_in cX4_in 3 (some .boolean), Cond.methodLink RX4 68 yX4_runFrom, Cond.instanceMethod yX4_runFrom, Cond.selects RX4 yX4_runFrom yX4_runFrom, Cond.code yX4_runFrom cX4_runFrom 4 (some .int), Cond.methodLink RX4 55 yX4_notes, Cond.instanceMethod yX4_notes, Cond.selects RX4 yX4_notes yX4_notes, Cond.code yX4_notes cX4_notes 1 none, Cond.fieldLink RX4 16 "SlotMapsModel" "before" "[I", Cond.methodLink RX4 25 yX4_copies, Cond.static yX4_copies, Cond.code yX4_copies cX4_copies 5 none, Cond.methodLink RX4 44 yX4_becomes, Cond.instanceMethod yX4_becomes, Cond.selects RX4 yX4_becomes yX4_becomes, Cond.code yX4_becomes cX4_becomes 3 none, Cond.methodLink RX4 37 yX4_right, Cond.instanceMethod yX4_right, Cond.selects RX4 yX4_right yX4_right]
def wsX4_takeRun_r2 : List Cond := [Cond.code yX4_right cX4_right 2 (some .int), Cond.methodLink RX4 33 yX4_inWord, Cond.instanceMethod yX4_inWord, Cond.selects RX4 yX4_inWord yX4_inWord, Cond.code yX4_inWord cX4_inWord 5 (some .int), Cond.methodLink RX4 61 yX4_ends, Cond.instanceMethod yX4_ends, Cond.selects RX4 yX4_ends yX4_ends, Cond.code yX4_ends cX4_ends 3 (some .int), Cond.fieldLink RX4 29 "SlotMapsModel" "pasts" "I", Cond.fieldLink RX4 13 "SlotMapsModel" "past" "[I"]
def wsX4_takeRun : List Cond := .code yX4_takeRun cX4_takeRun 4 (some .int) :: ((wsX4_takeRun_r1 ++ wsX4_takeRun_r2) ++ wsX40)
def wsX4_givesBack : List Cond := .code yX4_givesBack cX4_givesBack 5 (some .int) :: ([.fieldLink RX4 7 "SlotMapsModel" "now" "[I", .methodLink RX4 64 yX4_in, .static yX4_in, .initialized RX4, .code yX4_in cX4_in 3 (some .boolean), .methodLink RX4 44 yX4_becomes, .instanceMethod yX4_becomes, .selects RX4 yX4_becomes yX4_becomes, .code yX4_becomes cX4_becomes 3 none, .methodLink RX4 37 yX4_right, .instanceMethod yX4_right, .selects RX4 yX4_right yX4_right, .code yX4_right cX4_right 2 (some .int), .methodLink RX4 33 yX4_inWord, .instanceMethod yX4_inWord, .selects RX4 yX4_inWord yX4_inWord, .code yX4_inWord cX4_inWord 5 (some .int)] ++ wsX40)
def wsX4_giveBack_r1 : List Cond := [Cond.methodLink RX4 55 yX4_notes, Cond.instanceMethod yX4_notes, Cond.selects RX4 yX4_notes yX4_notes, Cond.initialized RX4, Cond.code yX4_notes cX4_notes 1 none, Cond.fieldLink RX4 7 "SlotMapsModel" "now" "[I", Cond.fieldLink RX4 16 "SlotMapsModel" "before" "[I", Cond.methodLink RX4 25 yX4_copies, Cond.static yX4_copies, Cond.code yX4_copies cX4_copies 5 none, Cond.methodLink RX4 71 yX4_givesBack, Cond.instanceMethod yX4_givesBack, Cond.selects RX4 yX4_givesBack yX4_givesBack, Cond.code yX4_givesBack cX4_givesBack 5 (some .int), Cond.methodLink RX4 64 yX4_in, Cond.static yX4_in, Cond.code yX4_in cX4_in 3 (some .boolean), Cond.methodLink RX4 44 yX4_becomes, Cond.instanceMethod yX4_becomes, Cond.selects RX4 yX4_becomes yX4_becomes, Cond.code yX4_becomes cX4_becomes 3 none, Cond.methodLink RX4 37 yX4_right, Cond.instanceMethod yX4_right, Cond.selects RX4 yX4_right yX4_right]
def wsX4_giveBack_r2 : List Cond := [Cond.code yX4_right cX4_right 2 (some .int), Cond.methodLink RX4 33 yX4_inWord, Cond.instanceMethod yX4_inWord, Cond.selects RX4 yX4_inWord yX4_inWord, Cond.code yX4_inWord cX4_inWord 5 (some .int), Cond.methodLink RX4 61 yX4_ends, Cond.instanceMethod yX4_ends, Cond.selects RX4 yX4_ends yX4_ends, Cond.code yX4_ends cX4_ends 3 (some .int), Cond.fieldLink RX4 29 "SlotMapsModel" "pasts" "I", Cond.fieldLink RX4 13 "SlotMapsModel" "past" "[I"]
def wsX4_giveBack : List Cond := .code yX4_giveBack cX4_giveBack 3 (some .int) :: ((wsX4_giveBack_r1 ++ wsX4_giveBack_r2) ++ wsX40)
def wsX4_clearsSome : List Cond := .code yX4_clearsSome cX4_clearsSome 2 (some .int) :: ([.methodLink RX4 64 yX4_in, .static yX4_in, .initialized RX4, .code yX4_in cX4_in 3 (some .boolean), .methodLink RX4 52 yX4_clears, .instanceMethod yX4_clears, .selects RX4 yX4_clears yX4_clears, .code yX4_clears cX4_clears 6 (some .int), .fieldLink RX4 7 "SlotMapsModel" "now" "[I", .methodLink RX4 33 yX4_inWord, .instanceMethod yX4_inWord, .selects RX4 yX4_inWord yX4_inWord, .code yX4_inWord cX4_inWord 5 (some .int), .methodLink RX4 44 yX4_becomes, .instanceMethod yX4_becomes, .selects RX4 yX4_becomes yX4_becomes, .code yX4_becomes cX4_becomes 3 none, .methodLink RX4 37 yX4_right, .instanceMethod yX4_right, .selects RX4 yX4_right yX4_right, .code yX4_right cX4_right 2 (some .int)] ++ wsX40)
def wsX4_clear_r1 : List Cond := [Cond.methodLink RX4 55 yX4_notes, Cond.instanceMethod yX4_notes, Cond.selects RX4 yX4_notes yX4_notes, Cond.initialized RX4, Cond.code yX4_notes cX4_notes 1 none, Cond.fieldLink RX4 7 "SlotMapsModel" "now" "[I", Cond.fieldLink RX4 16 "SlotMapsModel" "before" "[I", Cond.methodLink RX4 25 yX4_copies, Cond.static yX4_copies, Cond.code yX4_copies cX4_copies 5 none, Cond.methodLink RX4 74 yX4_clearsSome, Cond.instanceMethod yX4_clearsSome, Cond.selects RX4 yX4_clearsSome yX4_clearsSome, Cond.code yX4_clearsSome cX4_clearsSome 2 (some .int), Cond.methodLink RX4 64 yX4_in, Cond.static yX4_in, Cond.code yX4_in cX4_in 3 (some .boolean), Cond.methodLink RX4 52 yX4_clears, Cond.instanceMethod yX4_clears, Cond.selects RX4 yX4_clears yX4_clears, Cond.code yX4_clears cX4_clears 6 (some .int), Cond.methodLink RX4 33 yX4_inWord, Cond.instanceMethod yX4_inWord, Cond.selects RX4 yX4_inWord yX4_inWord]
def wsX4_clear_r2 : List Cond := [Cond.code yX4_inWord cX4_inWord 5 (some .int), Cond.methodLink RX4 44 yX4_becomes, Cond.instanceMethod yX4_becomes, Cond.selects RX4 yX4_becomes yX4_becomes, Cond.code yX4_becomes cX4_becomes 3 none, Cond.methodLink RX4 37 yX4_right, Cond.instanceMethod yX4_right, Cond.selects RX4 yX4_right yX4_right, Cond.code yX4_right cX4_right 2 (some .int), Cond.methodLink RX4 61 yX4_ends, Cond.instanceMethod yX4_ends, Cond.selects RX4 yX4_ends yX4_ends, Cond.code yX4_ends cX4_ends 3 (some .int), Cond.fieldLink RX4 29 "SlotMapsModel" "pasts" "I", Cond.fieldLink RX4 13 "SlotMapsModel" "past" "[I"]
def wsX4_clear : List Cond := .code yX4_clear cX4_clear 2 (some .int) :: ((wsX4_clear_r1 ++ wsX4_clear_r2) ++ wsX40)
def wsX4_isBlock : List Cond := .code yX4_isBlock cX4_isBlock 2 (some .boolean) :: ([.fieldLink RX4 7 "SlotMapsModel" "now" "[I", .methodLink RX4 64 yX4_in, .static yX4_in, .initialized RX4, .code yX4_in cX4_in 3 (some .boolean)] ++ wsX40)
def wsX4_isSize : List Cond := .code yX4_isSize cX4_isSize 1 (some .boolean) :: ([])
def wsX4_placeOf : List Cond := .code yX4_placeOf cX4_placeOf 5 (some .int) :: ([.fieldLink RX4 7 "SlotMapsModel" "now" "[I"] ++ wsX40)
def wsX4_reserves_r1 : List Cond := [Cond.fieldLink RX4 7 "SlotMapsModel" "now" "[I", Cond.methodLink RX4 77 yX4_isSize, Cond.static yX4_isSize, Cond.initialized RX4, Cond.code yX4_isSize cX4_isSize 1 (some .boolean), Cond.methodLink RX4 81 yX4_isBlock, Cond.instanceMethod yX4_isBlock, Cond.selects RX4 yX4_isBlock yX4_isBlock, Cond.code yX4_isBlock cX4_isBlock 2 (some .boolean), Cond.methodLink RX4 64 yX4_in, Cond.static yX4_in, Cond.code yX4_in cX4_in 3 (some .boolean), Cond.methodLink RX4 84 yX4_placeOf, Cond.instanceMethod yX4_placeOf, Cond.selects RX4 yX4_placeOf yX4_placeOf, Cond.code yX4_placeOf cX4_placeOf 5 (some .int), Cond.methodLink RX4 44 yX4_becomes, Cond.instanceMethod yX4_becomes, Cond.selects RX4 yX4_becomes yX4_becomes, Cond.code yX4_becomes cX4_becomes 3 none, Cond.methodLink RX4 37 yX4_right, Cond.instanceMethod yX4_right, Cond.selects RX4 yX4_right yX4_right, Cond.code yX4_right cX4_right 2 (some .int)]
def wsX4_reserves_r2 : List Cond := [Cond.methodLink RX4 33 yX4_inWord, Cond.instanceMethod yX4_inWord, Cond.selects RX4 yX4_inWord yX4_inWord, Cond.code yX4_inWord cX4_inWord 5 (some .int)]
def wsX4_reserves : List Cond := .code yX4_reserves cX4_reserves 5 (some .int) :: ((wsX4_reserves_r1 ++ wsX4_reserves_r2) ++ wsX40)
def wsX4_reserve_r1 : List Cond := [Cond.methodLink RX4 55 yX4_notes, Cond.instanceMethod yX4_notes, Cond.selects RX4 yX4_notes yX4_notes, Cond.initialized RX4, Cond.code yX4_notes cX4_notes 1 none, Cond.fieldLink RX4 7 "SlotMapsModel" "now" "[I", Cond.fieldLink RX4 16 "SlotMapsModel" "before" "[I", Cond.methodLink RX4 25 yX4_copies, Cond.static yX4_copies, Cond.code yX4_copies cX4_copies 5 none, Cond.methodLink RX4 87 yX4_reserves, Cond.instanceMethod yX4_reserves, Cond.selects RX4 yX4_reserves yX4_reserves, Cond.code yX4_reserves cX4_reserves 5 (some .int), Cond.methodLink RX4 77 yX4_isSize, Cond.static yX4_isSize, Cond.code yX4_isSize cX4_isSize 1 (some .boolean), Cond.methodLink RX4 81 yX4_isBlock, Cond.instanceMethod yX4_isBlock, Cond.selects RX4 yX4_isBlock yX4_isBlock, Cond.code yX4_isBlock cX4_isBlock 2 (some .boolean), Cond.methodLink RX4 64 yX4_in, Cond.static yX4_in, Cond.code yX4_in cX4_in 3 (some .boolean)]
def wsX4_reserve_r2 : List Cond := [Cond.methodLink RX4 84 yX4_placeOf, Cond.instanceMethod yX4_placeOf, Cond.selects RX4 yX4_placeOf yX4_placeOf, Cond.code yX4_placeOf cX4_placeOf 5 (some .int), Cond.methodLink RX4 44 yX4_becomes, Cond.instanceMethod yX4_becomes, Cond.selects RX4 yX4_becomes yX4_becomes, Cond.code yX4_becomes cX4_becomes 3 none, Cond.methodLink RX4 37 yX4_right, Cond.instanceMethod yX4_right, Cond.selects RX4 yX4_right yX4_right, Cond.code yX4_right cX4_right 2 (some .int), Cond.methodLink RX4 33 yX4_inWord, Cond.instanceMethod yX4_inWord, Cond.selects RX4 yX4_inWord yX4_inWord, Cond.code yX4_inWord cX4_inWord 5 (some .int), Cond.methodLink RX4 61 yX4_ends, Cond.instanceMethod yX4_ends, Cond.selects RX4 yX4_ends yX4_ends, Cond.code yX4_ends cX4_ends 3 (some .int), Cond.fieldLink RX4 29 "SlotMapsModel" "pasts" "I", Cond.fieldLink RX4 13 "SlotMapsModel" "past" "[I"]
def wsX4_reserve : List Cond := .code yX4_reserve cX4_reserve 2 (some .int) :: ((wsX4_reserve_r1 ++ wsX4_reserve_r2) ++ wsX40)
def wsX4_takesIn : List Cond := .code yX4_takesIn cX4_takesIn 4 (some .int) :: ([.fieldLink RX4 7 "SlotMapsModel" "now" "[I", .methodLink RX4 81 yX4_isBlock, .instanceMethod yX4_isBlock, .selects RX4 yX4_isBlock yX4_isBlock, .initialized RX4, .code yX4_isBlock cX4_isBlock 2 (some .boolean), .methodLink RX4 64 yX4_in, .static yX4_in, .code yX4_in cX4_in 3 (some .boolean), .methodLink RX4 44 yX4_becomes, .instanceMethod yX4_becomes, .selects RX4 yX4_becomes yX4_becomes, .code yX4_becomes cX4_becomes 3 none, .methodLink RX4 37 yX4_right, .instanceMethod yX4_right, .selects RX4 yX4_right yX4_right, .code yX4_right cX4_right 2 (some .int), .methodLink RX4 33 yX4_inWord, .instanceMethod yX4_inWord, .selects RX4 yX4_inWord yX4_inWord, .code yX4_inWord cX4_inWord 5 (some .int)] ++ wsX40)
def wsX4_takeIn_r1 : List Cond := [Cond.methodLink RX4 55 yX4_notes, Cond.instanceMethod yX4_notes, Cond.selects RX4 yX4_notes yX4_notes, Cond.initialized RX4, Cond.code yX4_notes cX4_notes 1 none, Cond.fieldLink RX4 7 "SlotMapsModel" "now" "[I", Cond.fieldLink RX4 16 "SlotMapsModel" "before" "[I", Cond.methodLink RX4 25 yX4_copies, Cond.static yX4_copies, Cond.code yX4_copies cX4_copies 5 none, Cond.methodLink RX4 90 yX4_takesIn, Cond.instanceMethod yX4_takesIn, Cond.selects RX4 yX4_takesIn yX4_takesIn, Cond.code yX4_takesIn cX4_takesIn 4 (some .int), Cond.methodLink RX4 81 yX4_isBlock, Cond.instanceMethod yX4_isBlock, Cond.selects RX4 yX4_isBlock yX4_isBlock, Cond.code yX4_isBlock cX4_isBlock 2 (some .boolean), Cond.methodLink RX4 64 yX4_in, Cond.static yX4_in, Cond.code yX4_in cX4_in 3 (some .boolean), Cond.methodLink RX4 44 yX4_becomes, Cond.instanceMethod yX4_becomes, Cond.selects RX4 yX4_becomes yX4_becomes]
def wsX4_takeIn_r2 : List Cond := [Cond.code yX4_becomes cX4_becomes 3 none, Cond.methodLink RX4 37 yX4_right, Cond.instanceMethod yX4_right, Cond.selects RX4 yX4_right yX4_right, Cond.code yX4_right cX4_right 2 (some .int), Cond.methodLink RX4 33 yX4_inWord, Cond.instanceMethod yX4_inWord, Cond.selects RX4 yX4_inWord yX4_inWord, Cond.code yX4_inWord cX4_inWord 5 (some .int), Cond.methodLink RX4 61 yX4_ends, Cond.instanceMethod yX4_ends, Cond.selects RX4 yX4_ends yX4_ends, Cond.code yX4_ends cX4_ends 3 (some .int), Cond.fieldLink RX4 29 "SlotMapsModel" "pasts" "I", Cond.fieldLink RX4 13 "SlotMapsModel" "past" "[I"]
def wsX4_takeIn : List Cond := .code yX4_takeIn cX4_takeIn 2 (some .int) :: ((wsX4_takeIn_r1 ++ wsX4_takeIn_r2) ++ wsX40)
def wsX4_giveUp_r1 : List Cond := [Cond.fieldLink RX4 7 "SlotMapsModel" "now" "[I", Cond.methodLink RX4 81 yX4_isBlock, Cond.instanceMethod yX4_isBlock, Cond.selects RX4 yX4_isBlock yX4_isBlock, Cond.initialized RX4, Cond.code yX4_isBlock cX4_isBlock 2 (some .boolean), Cond.methodLink RX4 64 yX4_in, Cond.static yX4_in, Cond.code yX4_in cX4_in 3 (some .boolean), Cond.methodLink RX4 55 yX4_notes, Cond.instanceMethod yX4_notes, Cond.selects RX4 yX4_notes yX4_notes, Cond.code yX4_notes cX4_notes 1 none, Cond.fieldLink RX4 16 "SlotMapsModel" "before" "[I", Cond.methodLink RX4 25 yX4_copies, Cond.static yX4_copies, Cond.code yX4_copies cX4_copies 5 none, Cond.methodLink RX4 44 yX4_becomes, Cond.instanceMethod yX4_becomes, Cond.selects RX4 yX4_becomes yX4_becomes, Cond.code yX4_becomes cX4_becomes 3 none, Cond.methodLink RX4 37 yX4_right, Cond.instanceMethod yX4_right, Cond.selects RX4 yX4_right yX4_right]
def wsX4_giveUp_r2 : List Cond := [Cond.code yX4_right cX4_right 2 (some .int), Cond.methodLink RX4 33 yX4_inWord, Cond.instanceMethod yX4_inWord, Cond.selects RX4 yX4_inWord yX4_inWord, Cond.code yX4_inWord cX4_inWord 5 (some .int), Cond.methodLink RX4 61 yX4_ends, Cond.instanceMethod yX4_ends, Cond.selects RX4 yX4_ends yX4_ends, Cond.code yX4_ends cX4_ends 3 (some .int), Cond.fieldLink RX4 29 "SlotMapsModel" "pasts" "I", Cond.fieldLink RX4 13 "SlotMapsModel" "past" "[I"]
def wsX4_giveUp : List Cond := .code yX4_giveUp cX4_giveUp 5 (some .int) :: ((wsX4_giveUp_r1 ++ wsX4_giveUp_r2) ++ wsX40)
def wsX4_isWord : List Cond := .code yX4_isWord cX4_isWord 1 (some .boolean) :: ([.methodLink RX4 64 yX4_in, .static yX4_in, .initialized RX4, .code yX4_in cX4_in 3 (some .boolean)])
def wsX4_damages : List Cond := .code yX4_damages cX4_damages 2 (some .int) :: ([.fieldLink RX4 7 "SlotMapsModel" "now" "[I", .methodLink RX4 93 yX4_isWord, .static yX4_isWord, .initialized RX4, .code yX4_isWord cX4_isWord 1 (some .boolean), .methodLink RX4 64 yX4_in, .static yX4_in, .code yX4_in cX4_in 3 (some .boolean)] ++ wsX40)
def wsX4_damage_r1 : List Cond := [Cond.methodLink RX4 55 yX4_notes, Cond.instanceMethod yX4_notes, Cond.selects RX4 yX4_notes yX4_notes, Cond.initialized RX4, Cond.code yX4_notes cX4_notes 1 none, Cond.fieldLink RX4 7 "SlotMapsModel" "now" "[I", Cond.fieldLink RX4 16 "SlotMapsModel" "before" "[I", Cond.methodLink RX4 25 yX4_copies, Cond.static yX4_copies, Cond.code yX4_copies cX4_copies 5 none, Cond.methodLink RX4 96 yX4_damages, Cond.instanceMethod yX4_damages, Cond.selects RX4 yX4_damages yX4_damages, Cond.code yX4_damages cX4_damages 2 (some .int), Cond.methodLink RX4 93 yX4_isWord, Cond.static yX4_isWord, Cond.code yX4_isWord cX4_isWord 1 (some .boolean), Cond.methodLink RX4 64 yX4_in, Cond.static yX4_in, Cond.code yX4_in cX4_in 3 (some .boolean), Cond.methodLink RX4 61 yX4_ends, Cond.instanceMethod yX4_ends, Cond.selects RX4 yX4_ends yX4_ends, Cond.code yX4_ends cX4_ends 3 (some .int)]
def wsX4_damage_r2 : List Cond := [Cond.fieldLink RX4 29 "SlotMapsModel" "pasts" "I", Cond.fieldLink RX4 13 "SlotMapsModel" "past" "[I"]
def wsX4_damage : List Cond := .code yX4_damage cX4_damage 2 (some .int) :: ((wsX4_damage_r1 ++ wsX4_damage_r2) ++ wsX40)
def wsX4_repairs : List Cond := .code yX4_repairs cX4_repairs 3 (some .int) :: ([.fieldLink RX4 7 "SlotMapsModel" "now" "[I", .methodLink RX4 37 yX4_right, .instanceMethod yX4_right, .selects RX4 yX4_right yX4_right, .initialized RX4, .code yX4_right cX4_right 2 (some .int), .methodLink RX4 33 yX4_inWord, .instanceMethod yX4_inWord, .selects RX4 yX4_inWord yX4_inWord, .code yX4_inWord cX4_inWord 5 (some .int)] ++ wsX40)
def wsX4_repair_r1 : List Cond := [Cond.methodLink RX4 55 yX4_notes, Cond.instanceMethod yX4_notes, Cond.selects RX4 yX4_notes yX4_notes, Cond.initialized RX4, Cond.code yX4_notes cX4_notes 1 none, Cond.fieldLink RX4 7 "SlotMapsModel" "now" "[I", Cond.fieldLink RX4 16 "SlotMapsModel" "before" "[I", Cond.methodLink RX4 25 yX4_copies, Cond.static yX4_copies, Cond.code yX4_copies cX4_copies 5 none, Cond.methodLink RX4 99 yX4_repairs, Cond.instanceMethod yX4_repairs, Cond.selects RX4 yX4_repairs yX4_repairs, Cond.code yX4_repairs cX4_repairs 3 (some .int), Cond.methodLink RX4 37 yX4_right, Cond.instanceMethod yX4_right, Cond.selects RX4 yX4_right yX4_right, Cond.code yX4_right cX4_right 2 (some .int), Cond.methodLink RX4 33 yX4_inWord, Cond.instanceMethod yX4_inWord, Cond.selects RX4 yX4_inWord yX4_inWord, Cond.code yX4_inWord cX4_inWord 5 (some .int), Cond.methodLink RX4 61 yX4_ends, Cond.instanceMethod yX4_ends]
def wsX4_repair_r2 : List Cond := [Cond.selects RX4 yX4_ends yX4_ends, Cond.code yX4_ends cX4_ends 3 (some .int), Cond.fieldLink RX4 29 "SlotMapsModel" "pasts" "I", Cond.fieldLink RX4 13 "SlotMapsModel" "past" "[I"]
def wsX4_repair : List Cond := .code yX4_repair cX4_repair 1 (some .int) :: ((wsX4_repair_r1 ++ wsX4_repair_r2) ++ wsX40)
def wsX4_undo : List Cond := .code yX4_undo cX4_undo 1 (some .int) :: ([.fieldLink RX4 29 "SlotMapsModel" "pasts" "I", .fieldLink RX4 13 "SlotMapsModel" "past" "[I", .fieldLink RX4 7 "SlotMapsModel" "now" "[I", .methodLink RX4 25 yX4_copies, .static yX4_copies, .initialized RX4, .code yX4_copies cX4_copies 5 none] ++ wsX40)
def wsX4_append : List Cond := .code yX4_append cX4_append 2 (some .int) :: ([.fieldLink RX4 102 "SlotMapsModel" "typed" "I", .fieldLink RX4 22 "SlotMapsModel" "text" "[I", .methodLink RX4 64 yX4_in, .static yX4_in, .initialized RX4, .code yX4_in cX4_in 3 (some .boolean)] ++ wsX40)
def wsX4_clearText : List Cond := .code yX4_clearText cX4_clearText 2 (some .int) :: ([.fieldLink RX4 102 "SlotMapsModel" "typed" "I"] ++ wsX40)
def wsX4_signAt : List Cond := .code yX4_signAt cX4_signAt 2 (some .int) :: ([.fieldLink RX4 102 "SlotMapsModel" "typed" "I", .fieldLink RX4 22 "SlotMapsModel" "text" "[I"] ++ wsX40)
def wsX4_isDigit : List Cond := .code yX4_isDigit cX4_isDigit 1 (some .boolean) :: ([.fieldLink RX4 105 "SlotMapsModel" "at" "I", .methodLink RX4 108 yX4_signAt, .instanceMethod yX4_signAt, .selects RX4 yX4_signAt yX4_signAt, .initialized RX4, .code yX4_signAt cX4_signAt 2 (some .int), .fieldLink RX4 102 "SlotMapsModel" "typed" "I", .fieldLink RX4 22 "SlotMapsModel" "text" "[I", .methodLink RX4 64 yX4_in, .static yX4_in, .code yX4_in cX4_in 3 (some .boolean)] ++ wsX40)
def wsX4_number : List Cond := .code yX4_number cX4_number 3 (some .int) :: ([.fieldLink RX4 105 "SlotMapsModel" "at" "I", .methodLink RX4 108 yX4_signAt, .instanceMethod yX4_signAt, .selects RX4 yX4_signAt yX4_signAt, .initialized RX4, .code yX4_signAt cX4_signAt 2 (some .int), .fieldLink RX4 102 "SlotMapsModel" "typed" "I", .fieldLink RX4 22 "SlotMapsModel" "text" "[I", .methodLink RX4 111 yX4_isDigit, .instanceMethod yX4_isDigit, .selects RX4 yX4_isDigit yX4_isDigit, .code yX4_isDigit cX4_isDigit 1 (some .boolean), .methodLink RX4 64 yX4_in, .static yX4_in, .code yX4_in cX4_in 3 (some .boolean)] ++ wsX40)
def wsX4_takesMany_r1 : List Cond := [Cond.methodLink RX4 64 yX4_in, Cond.static yX4_in, Cond.initialized RX4, Cond.code yX4_in cX4_in 3 (some .boolean), Cond.methodLink RX4 58 yX4_takes1, Cond.instanceMethod yX4_takes1, Cond.selects RX4 yX4_takes1 yX4_takes1, Cond.code yX4_takes1 cX4_takes1 2 (some .int), Cond.methodLink RX4 48 yX4_goesThrough, Cond.instanceMethod yX4_goesThrough, Cond.selects RX4 yX4_goesThrough yX4_goesThrough, Cond.code yX4_goesThrough cX4_goesThrough 3 (some .int), Cond.fieldLink RX4 7 "SlotMapsModel" "now" "[I", Cond.methodLink RX4 41 yX4_firstIn, Cond.instanceMethod yX4_firstIn, Cond.selects RX4 yX4_firstIn yX4_firstIn, Cond.code yX4_firstIn cX4_firstIn 3 (some .int), Cond.methodLink RX4 44 yX4_becomes, Cond.instanceMethod yX4_becomes, Cond.selects RX4 yX4_becomes yX4_becomes, Cond.code yX4_becomes cX4_becomes 3 none, Cond.methodLink RX4 37 yX4_right, Cond.instanceMethod yX4_right, Cond.selects RX4 yX4_right yX4_right]
def wsX4_takesMany_r2 : List Cond := [Cond.code yX4_right cX4_right 2 (some .int), Cond.methodLink RX4 33 yX4_inWord, Cond.instanceMethod yX4_inWord, Cond.selects RX4 yX4_inWord yX4_inWord, Cond.code yX4_inWord cX4_inWord 5 (some .int), Cond.methodLink RX4 52 yX4_clears, Cond.instanceMethod yX4_clears, Cond.selects RX4 yX4_clears yX4_clears, Cond.code yX4_clears cX4_clears 6 (some .int)]
def wsX4_takesMany : List Cond := .code yX4_takesMany cX4_takesMany 4 (some .int) :: ((wsX4_takesMany_r1 ++ wsX4_takesMany_r2) ++ wsX40)
def wsX4_does_r1 : List Cond := [Cond.methodLink RX4 115 yX4_takesMany, Cond.instanceMethod yX4_takesMany, Cond.selects RX4 yX4_takesMany yX4_takesMany, Cond.initialized RX4, Cond.code yX4_takesMany cX4_takesMany 4 (some .int), Cond.methodLink RX4 64 yX4_in, Cond.static yX4_in, Cond.code yX4_in cX4_in 3 (some .boolean), Cond.methodLink RX4 58 yX4_takes1, Cond.instanceMethod yX4_takes1, Cond.selects RX4 yX4_takes1 yX4_takes1, Cond.code yX4_takes1 cX4_takes1 2 (some .int), Cond.methodLink RX4 48 yX4_goesThrough, Cond.instanceMethod yX4_goesThrough, Cond.selects RX4 yX4_goesThrough yX4_goesThrough, Cond.code yX4_goesThrough cX4_goesThrough 3 (some .int), Cond.fieldLink RX4 7 "SlotMapsModel" "now" "[I", Cond.methodLink RX4 41 yX4_firstIn, Cond.instanceMethod yX4_firstIn, Cond.selects RX4 yX4_firstIn yX4_firstIn, Cond.code yX4_firstIn cX4_firstIn 3 (some .int), Cond.methodLink RX4 44 yX4_becomes, Cond.instanceMethod yX4_becomes, Cond.selects RX4 yX4_becomes yX4_becomes]
def wsX4_does_r2 : List Cond := [Cond.code yX4_becomes cX4_becomes 3 none, Cond.methodLink RX4 37 yX4_right, Cond.instanceMethod yX4_right, Cond.selects RX4 yX4_right yX4_right, Cond.code yX4_right cX4_right 2 (some .int), Cond.methodLink RX4 33 yX4_inWord, Cond.instanceMethod yX4_inWord, Cond.selects RX4 yX4_inWord yX4_inWord, Cond.code yX4_inWord cX4_inWord 5 (some .int), Cond.methodLink RX4 52 yX4_clears, Cond.instanceMethod yX4_clears, Cond.selects RX4 yX4_clears yX4_clears, Cond.code yX4_clears cX4_clears 6 (some .int), Cond.methodLink RX4 71 yX4_givesBack, Cond.instanceMethod yX4_givesBack, Cond.selects RX4 yX4_givesBack yX4_givesBack, Cond.code yX4_givesBack cX4_givesBack 5 (some .int), Cond.methodLink RX4 74 yX4_clearsSome, Cond.instanceMethod yX4_clearsSome, Cond.selects RX4 yX4_clearsSome yX4_clearsSome, Cond.code yX4_clearsSome cX4_clearsSome 2 (some .int), Cond.methodLink RX4 87 yX4_reserves, Cond.instanceMethod yX4_reserves, Cond.selects RX4 yX4_reserves yX4_reserves]
def wsX4_does_r3 : List Cond := [Cond.code yX4_reserves cX4_reserves 5 (some .int), Cond.methodLink RX4 77 yX4_isSize, Cond.static yX4_isSize, Cond.code yX4_isSize cX4_isSize 1 (some .boolean), Cond.methodLink RX4 81 yX4_isBlock, Cond.instanceMethod yX4_isBlock, Cond.selects RX4 yX4_isBlock yX4_isBlock, Cond.code yX4_isBlock cX4_isBlock 2 (some .boolean), Cond.methodLink RX4 84 yX4_placeOf, Cond.instanceMethod yX4_placeOf, Cond.selects RX4 yX4_placeOf yX4_placeOf, Cond.code yX4_placeOf cX4_placeOf 5 (some .int), Cond.methodLink RX4 90 yX4_takesIn, Cond.instanceMethod yX4_takesIn, Cond.selects RX4 yX4_takesIn yX4_takesIn, Cond.code yX4_takesIn cX4_takesIn 4 (some .int), Cond.methodLink RX4 96 yX4_damages, Cond.instanceMethod yX4_damages, Cond.selects RX4 yX4_damages yX4_damages, Cond.code yX4_damages cX4_damages 2 (some .int), Cond.methodLink RX4 93 yX4_isWord, Cond.static yX4_isWord, Cond.code yX4_isWord cX4_isWord 1 (some .boolean), Cond.methodLink RX4 99 yX4_repairs]
def wsX4_does_r4 : List Cond := [Cond.instanceMethod yX4_repairs, Cond.selects RX4 yX4_repairs yX4_repairs, Cond.code yX4_repairs cX4_repairs 3 (some .int)]
def wsX4_does : List Cond := .code yX4_does cX4_does 4 (some .int) :: ((wsX4_does_r1 ++ (wsX4_does_r2 ++ (wsX4_does_r3 ++ wsX4_does_r4))) ++ wsX40)
def wsX4_isLetter : List Cond := .code yX4_isLetter cX4_isLetter 1 (some .boolean) :: ([])
def wsX4_runsOne_r1 : List Cond := [Cond.fieldLink RX4 105 "SlotMapsModel" "at" "I", Cond.methodLink RX4 108 yX4_signAt, Cond.instanceMethod yX4_signAt, Cond.selects RX4 yX4_signAt yX4_signAt, Cond.initialized RX4, Cond.code yX4_signAt cX4_signAt 2 (some .int), Cond.fieldLink RX4 102 "SlotMapsModel" "typed" "I", Cond.fieldLink RX4 22 "SlotMapsModel" "text" "[I", Cond.methodLink RX4 118 yX4_isLetter, Cond.static yX4_isLetter, Cond.code yX4_isLetter cX4_isLetter 1 (some .boolean), Cond.methodLink RX4 111 yX4_isDigit, Cond.instanceMethod yX4_isDigit, Cond.selects RX4 yX4_isDigit yX4_isDigit, Cond.code yX4_isDigit cX4_isDigit 1 (some .boolean), Cond.methodLink RX4 64 yX4_in, Cond.static yX4_in, Cond.code yX4_in cX4_in 3 (some .boolean), Cond.methodLink RX4 121 yX4_number, Cond.instanceMethod yX4_number, Cond.selects RX4 yX4_number yX4_number, Cond.code yX4_number cX4_number 3 (some .int), Cond.methodLink RX4 124 yX4_does, Cond.instanceMethod yX4_does]
def wsX4_runsOne_r2 : List Cond := [Cond.selects RX4 yX4_does yX4_does, Cond.code yX4_does cX4_does 4 (some .int), Cond.methodLink RX4 115 yX4_takesMany, Cond.instanceMethod yX4_takesMany, Cond.selects RX4 yX4_takesMany yX4_takesMany, Cond.code yX4_takesMany cX4_takesMany 4 (some .int), Cond.methodLink RX4 58 yX4_takes1, Cond.instanceMethod yX4_takes1, Cond.selects RX4 yX4_takes1 yX4_takes1, Cond.code yX4_takes1 cX4_takes1 2 (some .int), Cond.methodLink RX4 48 yX4_goesThrough, Cond.instanceMethod yX4_goesThrough, Cond.selects RX4 yX4_goesThrough yX4_goesThrough, Cond.code yX4_goesThrough cX4_goesThrough 3 (some .int), Cond.fieldLink RX4 7 "SlotMapsModel" "now" "[I", Cond.methodLink RX4 41 yX4_firstIn, Cond.instanceMethod yX4_firstIn, Cond.selects RX4 yX4_firstIn yX4_firstIn, Cond.code yX4_firstIn cX4_firstIn 3 (some .int), Cond.methodLink RX4 44 yX4_becomes, Cond.instanceMethod yX4_becomes, Cond.selects RX4 yX4_becomes yX4_becomes, Cond.code yX4_becomes cX4_becomes 3 none, Cond.methodLink RX4 37 yX4_right]
def wsX4_runsOne_r3 : List Cond := [Cond.instanceMethod yX4_right, Cond.selects RX4 yX4_right yX4_right, Cond.code yX4_right cX4_right 2 (some .int), Cond.methodLink RX4 33 yX4_inWord, Cond.instanceMethod yX4_inWord, Cond.selects RX4 yX4_inWord yX4_inWord, Cond.code yX4_inWord cX4_inWord 5 (some .int), Cond.methodLink RX4 52 yX4_clears, Cond.instanceMethod yX4_clears, Cond.selects RX4 yX4_clears yX4_clears, Cond.code yX4_clears cX4_clears 6 (some .int), Cond.methodLink RX4 71 yX4_givesBack, Cond.instanceMethod yX4_givesBack, Cond.selects RX4 yX4_givesBack yX4_givesBack, Cond.code yX4_givesBack cX4_givesBack 5 (some .int), Cond.methodLink RX4 74 yX4_clearsSome, Cond.instanceMethod yX4_clearsSome, Cond.selects RX4 yX4_clearsSome yX4_clearsSome, Cond.code yX4_clearsSome cX4_clearsSome 2 (some .int), Cond.methodLink RX4 87 yX4_reserves, Cond.instanceMethod yX4_reserves, Cond.selects RX4 yX4_reserves yX4_reserves, Cond.code yX4_reserves cX4_reserves 5 (some .int), Cond.methodLink RX4 77 yX4_isSize]
def wsX4_runsOne_r4 : List Cond := [Cond.static yX4_isSize, Cond.code yX4_isSize cX4_isSize 1 (some .boolean), Cond.methodLink RX4 81 yX4_isBlock, Cond.instanceMethod yX4_isBlock, Cond.selects RX4 yX4_isBlock yX4_isBlock, Cond.code yX4_isBlock cX4_isBlock 2 (some .boolean), Cond.methodLink RX4 84 yX4_placeOf, Cond.instanceMethod yX4_placeOf, Cond.selects RX4 yX4_placeOf yX4_placeOf, Cond.code yX4_placeOf cX4_placeOf 5 (some .int), Cond.methodLink RX4 90 yX4_takesIn, Cond.instanceMethod yX4_takesIn, Cond.selects RX4 yX4_takesIn yX4_takesIn, Cond.code yX4_takesIn cX4_takesIn 4 (some .int), Cond.methodLink RX4 96 yX4_damages, Cond.instanceMethod yX4_damages, Cond.selects RX4 yX4_damages yX4_damages, Cond.code yX4_damages cX4_damages 2 (some .int), Cond.methodLink RX4 93 yX4_isWord, Cond.static yX4_isWord, Cond.code yX4_isWord cX4_isWord 1 (some .boolean), Cond.methodLink RX4 99 yX4_repairs, Cond.instanceMethod yX4_repairs, Cond.selects RX4 yX4_repairs yX4_repairs]
def wsX4_runsOne_r5 : List Cond := [Cond.code yX4_repairs cX4_repairs 3 (some .int)]
def wsX4_runsOne : List Cond := .code yX4_runsOne cX4_runsOne 6 (some .boolean) :: ((wsX4_runsOne_r1 ++ (wsX4_runsOne_r2 ++ (wsX4_runsOne_r3 ++ (wsX4_runsOne_r4 ++ wsX4_runsOne_r5)))) ++ wsX40)
def wsX4_run_r1 : List Cond := [Cond.fieldLink RX4 105 "SlotMapsModel" "at" "I", Cond.fieldLink RX4 102 "SlotMapsModel" "typed" "I", Cond.methodLink RX4 55 yX4_notes, Cond.instanceMethod yX4_notes, Cond.selects RX4 yX4_notes yX4_notes, Cond.initialized RX4, Cond.code yX4_notes cX4_notes 1 none, Cond.fieldLink RX4 7 "SlotMapsModel" "now" "[I", Cond.fieldLink RX4 16 "SlotMapsModel" "before" "[I", Cond.methodLink RX4 25 yX4_copies, Cond.static yX4_copies, Cond.code yX4_copies cX4_copies 5 none, Cond.methodLink RX4 128 yX4_runsOne, Cond.instanceMethod yX4_runsOne, Cond.selects RX4 yX4_runsOne yX4_runsOne, Cond.code yX4_runsOne cX4_runsOne 6 (some .boolean), Cond.methodLink RX4 108 yX4_signAt, Cond.instanceMethod yX4_signAt, Cond.selects RX4 yX4_signAt yX4_signAt, Cond.code yX4_signAt cX4_signAt 2 (some .int), Cond.fieldLink RX4 22 "SlotMapsModel" "text" "[I", Cond.methodLink RX4 118 yX4_isLetter, Cond.static yX4_isLetter, Cond.code yX4_isLetter cX4_isLetter 1 (some .boolean)]
def wsX4_run_r2 : List Cond := [Cond.methodLink RX4 111 yX4_isDigit, Cond.instanceMethod yX4_isDigit, Cond.selects RX4 yX4_isDigit yX4_isDigit, Cond.code yX4_isDigit cX4_isDigit 1 (some .boolean), Cond.methodLink RX4 64 yX4_in, Cond.static yX4_in, Cond.code yX4_in cX4_in 3 (some .boolean), Cond.methodLink RX4 121 yX4_number, Cond.instanceMethod yX4_number, Cond.selects RX4 yX4_number yX4_number, Cond.code yX4_number cX4_number 3 (some .int), Cond.methodLink RX4 124 yX4_does, Cond.instanceMethod yX4_does, Cond.selects RX4 yX4_does yX4_does, Cond.code yX4_does cX4_does 4 (some .int), Cond.methodLink RX4 115 yX4_takesMany, Cond.instanceMethod yX4_takesMany, Cond.selects RX4 yX4_takesMany yX4_takesMany, Cond.code yX4_takesMany cX4_takesMany 4 (some .int), Cond.methodLink RX4 58 yX4_takes1, Cond.instanceMethod yX4_takes1, Cond.selects RX4 yX4_takes1 yX4_takes1, Cond.code yX4_takes1 cX4_takes1 2 (some .int), Cond.methodLink RX4 48 yX4_goesThrough]
def wsX4_run_r3 : List Cond := [Cond.instanceMethod yX4_goesThrough, Cond.selects RX4 yX4_goesThrough yX4_goesThrough, Cond.code yX4_goesThrough cX4_goesThrough 3 (some .int), Cond.methodLink RX4 41 yX4_firstIn, Cond.instanceMethod yX4_firstIn, Cond.selects RX4 yX4_firstIn yX4_firstIn, Cond.code yX4_firstIn cX4_firstIn 3 (some .int), Cond.methodLink RX4 44 yX4_becomes, Cond.instanceMethod yX4_becomes, Cond.selects RX4 yX4_becomes yX4_becomes, Cond.code yX4_becomes cX4_becomes 3 none, Cond.methodLink RX4 37 yX4_right, Cond.instanceMethod yX4_right, Cond.selects RX4 yX4_right yX4_right, Cond.code yX4_right cX4_right 2 (some .int), Cond.methodLink RX4 33 yX4_inWord, Cond.instanceMethod yX4_inWord, Cond.selects RX4 yX4_inWord yX4_inWord, Cond.code yX4_inWord cX4_inWord 5 (some .int), Cond.methodLink RX4 52 yX4_clears, Cond.instanceMethod yX4_clears, Cond.selects RX4 yX4_clears yX4_clears, Cond.code yX4_clears cX4_clears 6 (some .int), Cond.methodLink RX4 71 yX4_givesBack]
def wsX4_run_r4 : List Cond := [Cond.instanceMethod yX4_givesBack, Cond.selects RX4 yX4_givesBack yX4_givesBack, Cond.code yX4_givesBack cX4_givesBack 5 (some .int), Cond.methodLink RX4 74 yX4_clearsSome, Cond.instanceMethod yX4_clearsSome, Cond.selects RX4 yX4_clearsSome yX4_clearsSome, Cond.code yX4_clearsSome cX4_clearsSome 2 (some .int), Cond.methodLink RX4 87 yX4_reserves, Cond.instanceMethod yX4_reserves, Cond.selects RX4 yX4_reserves yX4_reserves, Cond.code yX4_reserves cX4_reserves 5 (some .int), Cond.methodLink RX4 77 yX4_isSize, Cond.static yX4_isSize, Cond.code yX4_isSize cX4_isSize 1 (some .boolean), Cond.methodLink RX4 81 yX4_isBlock, Cond.instanceMethod yX4_isBlock, Cond.selects RX4 yX4_isBlock yX4_isBlock, Cond.code yX4_isBlock cX4_isBlock 2 (some .boolean), Cond.methodLink RX4 84 yX4_placeOf, Cond.instanceMethod yX4_placeOf, Cond.selects RX4 yX4_placeOf yX4_placeOf, Cond.code yX4_placeOf cX4_placeOf 5 (some .int), Cond.methodLink RX4 90 yX4_takesIn, Cond.instanceMethod yX4_takesIn]
def wsX4_run_r5 : List Cond := [Cond.selects RX4 yX4_takesIn yX4_takesIn, Cond.code yX4_takesIn cX4_takesIn 4 (some .int), Cond.methodLink RX4 96 yX4_damages, Cond.instanceMethod yX4_damages, Cond.selects RX4 yX4_damages yX4_damages, Cond.code yX4_damages cX4_damages 2 (some .int), Cond.methodLink RX4 93 yX4_isWord, Cond.static yX4_isWord, Cond.code yX4_isWord cX4_isWord 1 (some .boolean), Cond.methodLink RX4 99 yX4_repairs, Cond.instanceMethod yX4_repairs, Cond.selects RX4 yX4_repairs yX4_repairs, Cond.code yX4_repairs cX4_repairs 3 (some .int), Cond.methodLink RX4 61 yX4_ends, Cond.instanceMethod yX4_ends, Cond.selects RX4 yX4_ends yX4_ends, Cond.code yX4_ends cX4_ends 3 (some .int), Cond.fieldLink RX4 29 "SlotMapsModel" "pasts" "I", Cond.fieldLink RX4 13 "SlotMapsModel" "past" "[I"]
def wsX4_run : List Cond := .code yX4_run cX4_run 2 (some .int) :: ((wsX4_run_r1 ++ (wsX4_run_r2 ++ (wsX4_run_r3 ++ (wsX4_run_r4 ++ wsX4_run_r5)))) ++ wsX40)
def wsX4_bits : List Cond := .code yX4_bits cX4_bits 3 (some .int) :: ([.fieldLink RX4 7 "SlotMapsModel" "now" "[I"] ++ wsX40)
def wsX4_full : List Cond := .code yX4_full cX4_full 3 (some .int) :: ([.methodLink RX4 37 yX4_right, .instanceMethod yX4_right, .selects RX4 yX4_right yX4_right, .initialized RX4, .code yX4_right cX4_right 2 (some .int), .methodLink RX4 33 yX4_inWord, .instanceMethod yX4_inWord, .selects RX4 yX4_inWord yX4_inWord, .code yX4_inWord cX4_inWord 5 (some .int), .fieldLink RX4 7 "SlotMapsModel" "now" "[I"] ++ wsX40)
def wsX4_runs : List Cond := .code yX4_runs cX4_runs 6 (some .int) :: ([.fieldLink RX4 7 "SlotMapsModel" "now" "[I"] ++ wsX40)
def wsX4_blocks : List Cond := .code yX4_blocks cX4_blocks 3 (some .int) :: ([.methodLink RX4 81 yX4_isBlock, .instanceMethod yX4_isBlock, .selects RX4 yX4_isBlock yX4_isBlock, .initialized RX4, .code yX4_isBlock cX4_isBlock 2 (some .boolean), .fieldLink RX4 7 "SlotMapsModel" "now" "[I", .methodLink RX4 64 yX4_in, .static yX4_in, .code yX4_in cX4_in 3 (some .boolean)] ++ wsX40)
def wsX4_count_r1 : List Cond := [Cond.fieldLink RX4 7 "SlotMapsModel" "now" "[I", Cond.fieldLink RX4 29 "SlotMapsModel" "pasts" "I", Cond.fieldLink RX4 102 "SlotMapsModel" "typed" "I", Cond.methodLink RX4 131 yX4_inAll, Cond.instanceMethod yX4_inAll, Cond.selects RX4 yX4_inAll yX4_inAll, Cond.initialized RX4, Cond.code yX4_inAll cX4_inAll 4 (some .int), Cond.methodLink RX4 33 yX4_inWord, Cond.instanceMethod yX4_inWord, Cond.selects RX4 yX4_inWord yX4_inWord, Cond.code yX4_inWord cX4_inWord 5 (some .int), Cond.methodLink RX4 134 yX4_blocks, Cond.instanceMethod yX4_blocks, Cond.selects RX4 yX4_blocks yX4_blocks, Cond.code yX4_blocks cX4_blocks 3 (some .int), Cond.methodLink RX4 81 yX4_isBlock, Cond.instanceMethod yX4_isBlock, Cond.selects RX4 yX4_isBlock yX4_isBlock, Cond.code yX4_isBlock cX4_isBlock 2 (some .boolean), Cond.methodLink RX4 64 yX4_in, Cond.static yX4_in, Cond.code yX4_in cX4_in 3 (some .boolean), Cond.methodLink RX4 137 yX4_bits]
def wsX4_count_r2 : List Cond := [Cond.instanceMethod yX4_bits, Cond.selects RX4 yX4_bits yX4_bits, Cond.code yX4_bits cX4_bits 3 (some .int), Cond.methodLink RX4 140 yX4_full, Cond.instanceMethod yX4_full, Cond.selects RX4 yX4_full yX4_full, Cond.code yX4_full cX4_full 3 (some .int), Cond.methodLink RX4 37 yX4_right, Cond.instanceMethod yX4_right, Cond.selects RX4 yX4_right yX4_right, Cond.code yX4_right cX4_right 2 (some .int), Cond.methodLink RX4 143 yX4_runs, Cond.instanceMethod yX4_runs, Cond.selects RX4 yX4_runs yX4_runs, Cond.code yX4_runs cX4_runs 6 (some .int)]
def wsX4_count : List Cond := .code yX4_count cX4_count 2 (some .int) :: ((wsX4_count_r1 ++ wsX4_count_r2) ++ wsX40)
def wsX4_slot : List Cond := .code yX4_slot cX4_slot 3 (some .int) :: ([.fieldLink RX4 7 "SlotMapsModel" "now" "[I", .methodLink RX4 64 yX4_in, .static yX4_in, .initialized RX4, .code yX4_in cX4_in 3 (some .boolean)] ++ wsX40)
def wsX4_word : List Cond := .code yX4_word cX4_word 3 (some .int) :: ([.fieldLink RX4 7 "SlotMapsModel" "now" "[I", .methodLink RX4 93 yX4_isWord, .static yX4_isWord, .initialized RX4, .code yX4_isWord cX4_isWord 1 (some .boolean), .methodLink RX4 64 yX4_in, .static yX4_in, .code yX4_in cX4_in 3 (some .boolean), .methodLink RX4 33 yX4_inWord, .instanceMethod yX4_inWord, .selects RX4 yX4_inWord yX4_inWord, .code yX4_inWord cX4_inWord 5 (some .int), .methodLink RX4 37 yX4_right, .instanceMethod yX4_right, .selects RX4 yX4_right yX4_right, .code yX4_right cX4_right 2 (some .int), .methodLink RX4 41 yX4_firstIn, .instanceMethod yX4_firstIn, .selects RX4 yX4_firstIn yX4_firstIn, .code yX4_firstIn cX4_firstIn 3 (some .int)] ++ wsX40)
def wsX4_block : List Cond := .code yX4_block cX4_block 7 (some .int) :: ([.fieldLink RX4 7 "SlotMapsModel" "now" "[I", .methodLink RX4 64 yX4_in, .static yX4_in, .initialized RX4, .code yX4_in cX4_in 3 (some .boolean), .methodLink RX4 81 yX4_isBlock, .instanceMethod yX4_isBlock, .selects RX4 yX4_isBlock yX4_isBlock, .code yX4_isBlock cX4_isBlock 2 (some .boolean)] ++ wsX40)
def wsX4_audit : List Cond := .code yX4_audit cX4_audit 7 (some .int) :: ([.fieldLink RX4 7 "SlotMapsModel" "now" "[I", .methodLink RX4 64 yX4_in, .static yX4_in, .initialized RX4, .code yX4_in cX4_in 3 (some .boolean), .methodLink RX4 37 yX4_right, .instanceMethod yX4_right, .selects RX4 yX4_right yX4_right, .code yX4_right cX4_right 2 (some .int), .methodLink RX4 33 yX4_inWord, .instanceMethod yX4_inWord, .selects RX4 yX4_inWord yX4_inWord, .code yX4_inWord cX4_inWord 5 (some .int)] ++ wsX40)
def wsX4_next_r1 : List Cond := [Cond.fieldLink RX4 7 "SlotMapsModel" "now" "[I", Cond.fieldLink RX4 19 "SlotMapsModel" "trial" "[I", Cond.methodLink RX4 64 yX4_in, Cond.static yX4_in, Cond.initialized RX4, Cond.code yX4_in cX4_in 3 (some .boolean), Cond.methodLink RX4 25 yX4_copies, Cond.static yX4_copies, Cond.code yX4_copies cX4_copies 5 none, Cond.methodLink RX4 131 yX4_inAll, Cond.instanceMethod yX4_inAll, Cond.selects RX4 yX4_inAll yX4_inAll, Cond.code yX4_inAll cX4_inAll 4 (some .int), Cond.methodLink RX4 33 yX4_inWord, Cond.instanceMethod yX4_inWord, Cond.selects RX4 yX4_inWord yX4_inWord, Cond.code yX4_inWord cX4_inWord 5 (some .int), Cond.methodLink RX4 58 yX4_takes1, Cond.instanceMethod yX4_takes1, Cond.selects RX4 yX4_takes1 yX4_takes1, Cond.code yX4_takes1 cX4_takes1 2 (some .int), Cond.methodLink RX4 48 yX4_goesThrough, Cond.instanceMethod yX4_goesThrough, Cond.selects RX4 yX4_goesThrough yX4_goesThrough]
def wsX4_next_r2 : List Cond := [Cond.code yX4_goesThrough cX4_goesThrough 3 (some .int), Cond.methodLink RX4 41 yX4_firstIn, Cond.instanceMethod yX4_firstIn, Cond.selects RX4 yX4_firstIn yX4_firstIn, Cond.code yX4_firstIn cX4_firstIn 3 (some .int), Cond.methodLink RX4 44 yX4_becomes, Cond.instanceMethod yX4_becomes, Cond.selects RX4 yX4_becomes yX4_becomes, Cond.code yX4_becomes cX4_becomes 3 none, Cond.methodLink RX4 37 yX4_right, Cond.instanceMethod yX4_right, Cond.selects RX4 yX4_right yX4_right, Cond.code yX4_right cX4_right 2 (some .int), Cond.methodLink RX4 52 yX4_clears, Cond.instanceMethod yX4_clears, Cond.selects RX4 yX4_clears yX4_clears, Cond.code yX4_clears cX4_clears 6 (some .int)]
def wsX4_next : List Cond := .code yX4_next cX4_next 6 (some .int) :: ((wsX4_next_r1 ++ wsX4_next_r2) ++ wsX40)
def wsX4_runAt : List Cond := .code yX4_runAt cX4_runAt 2 (some .int) :: ([.methodLink RX4 64 yX4_in, .static yX4_in, .initialized RX4, .code yX4_in cX4_in 3 (some .boolean), .methodLink RX4 68 yX4_runFrom, .instanceMethod yX4_runFrom, .selects RX4 yX4_runFrom yX4_runFrom, .code yX4_runFrom cX4_runFrom 4 (some .int), .fieldLink RX4 7 "SlotMapsModel" "now" "[I"] ++ wsX40)
def wsX4_placeFor : List Cond := .code yX4_placeFor cX4_placeFor 2 (some .int) :: ([.methodLink RX4 77 yX4_isSize, .static yX4_isSize, .initialized RX4, .code yX4_isSize cX4_isSize 1 (some .boolean), .methodLink RX4 84 yX4_placeOf, .instanceMethod yX4_placeOf, .selects RX4 yX4_placeOf yX4_placeOf, .code yX4_placeOf cX4_placeOf 5 (some .int), .fieldLink RX4 7 "SlotMapsModel" "now" "[I"] ++ wsX40)
def wsX4_takes_r1 : List Cond := [Cond.fieldLink RX4 7 "SlotMapsModel" "now" "[I", Cond.fieldLink RX4 19 "SlotMapsModel" "trial" "[I", Cond.methodLink RX4 25 yX4_copies, Cond.static yX4_copies, Cond.initialized RX4, Cond.code yX4_copies cX4_copies 5 none, Cond.methodLink RX4 58 yX4_takes1, Cond.instanceMethod yX4_takes1, Cond.selects RX4 yX4_takes1 yX4_takes1, Cond.code yX4_takes1 cX4_takes1 2 (some .int), Cond.methodLink RX4 48 yX4_goesThrough, Cond.instanceMethod yX4_goesThrough, Cond.selects RX4 yX4_goesThrough yX4_goesThrough, Cond.code yX4_goesThrough cX4_goesThrough 3 (some .int), Cond.methodLink RX4 41 yX4_firstIn, Cond.instanceMethod yX4_firstIn, Cond.selects RX4 yX4_firstIn yX4_firstIn, Cond.code yX4_firstIn cX4_firstIn 3 (some .int), Cond.methodLink RX4 44 yX4_becomes, Cond.instanceMethod yX4_becomes, Cond.selects RX4 yX4_becomes yX4_becomes, Cond.code yX4_becomes cX4_becomes 3 none, Cond.methodLink RX4 37 yX4_right, Cond.instanceMethod yX4_right]
def wsX4_takes_r2 : List Cond := [Cond.selects RX4 yX4_right yX4_right, Cond.code yX4_right cX4_right 2 (some .int), Cond.methodLink RX4 33 yX4_inWord, Cond.instanceMethod yX4_inWord, Cond.selects RX4 yX4_inWord yX4_inWord, Cond.code yX4_inWord cX4_inWord 5 (some .int), Cond.methodLink RX4 52 yX4_clears, Cond.instanceMethod yX4_clears, Cond.selects RX4 yX4_clears yX4_clears, Cond.code yX4_clears cX4_clears 6 (some .int)]
def wsX4_takes : List Cond := .code yX4_takes cX4_takes 2 (some .int) :: ((wsX4_takes_r1 ++ wsX4_takes_r2) ++ wsX40)
def wsJ9_max_7cf53 : List Cond := .code yJ9_max_7cf53 cJ9_max_7cf53 2 (some .int) :: ([])
def wsJ9_min_7cf53 : List Cond := .code yJ9_min_7cf53 cJ9_min_7cf53 2 (some .int) :: ([])
def wsL_law_r1 : List Cond := [Cond.classLink RL 7 RX3, Cond.instantiable RX3 6, Cond.initialized RX3, Cond.classLink RL 10 RX4, Cond.instantiable RX4 8, Cond.initialized RX4, Cond.methodLink RL 9 yX3_init, Cond.instanceMethod yX3_init, Cond.code yX3_init cX3_init 1 none, Cond.methodLink RX3 1 objectInit, Cond.instanceMethod objectInit, Cond.code objectInit ⟨#[0xb1]⟩ 1 none, Cond.classLink RX3 7 RX2, Cond.instantiable RX2 5, Cond.initialized RX2, Cond.fieldLink RX3 10 "SlotMaps" "now" "LSlotMaps$Slots;", Cond.fieldLink RX3 16 "SlotMaps" "trial" "LSlotMaps$Slots;", Cond.classLink RX3 19 RX0, Cond.instantiable RX0 3, Cond.initialized RX0, Cond.fieldLink RX3 22 "SlotMaps" "history" "LSlotMaps$History;", Cond.classLink RX3 26 RX1, Cond.instantiable RX1 6, Cond.initialized RX1]
def wsL_law_r2 : List Cond := [Cond.fieldLink RX3 29 "SlotMaps" "program" "LSlotMaps$Program;", Cond.arrayClass .char, Cond.fieldLink RX3 33 "SlotMaps" "text" "[C", Cond.fieldLink RX3 37 "SlotMaps" "textLength" "I", Cond.methodLink RX3 9 yX2_init, Cond.instanceMethod yX2_init, Cond.code yX2_init cX2_init 2 none, Cond.methodLink RX2 3 objectInit, Cond.classLink RX2 9 "[[I", Cond.arrayClass .int, Cond.fieldLink RX2 11 "SlotMaps$Slots" "bits" "[[I", Cond.fieldLink RX2 16 "SlotMaps$Slots" "blockFirst" "[I", Cond.fieldLink RX2 20 "SlotMaps$Slots" "blockSize" "[I", Cond.fieldLink RX2 23 "SlotMaps$Slots" "summary" "I", Cond.fieldLink RX2 27 "SlotMaps$Slots" "looks" "I", Cond.methodLink RX3 21 yX0_init, Cond.instanceMethod yX0_init, Cond.code yX0_init cX0_init 2 none, Cond.methodLink RX0 3 objectInit, Cond.classLink RX0 9 RX2, Cond.fieldLink RX0 11 "SlotMaps$History" "ring" "[LSlotMaps$Slots;", Cond.fieldLink RX0 18 "SlotMaps$History" "oldest" "I", Cond.fieldLink RX0 22 "SlotMaps$History" "states" "I", Cond.methodLink RX0 17 yX2_init]
def wsL_law_r3 : List Cond := [Cond.methodLink RX3 28 yX1_init, Cond.instanceMethod yX1_init, Cond.code yX1_init cX1_init 1 none, Cond.methodLink RX1 3 objectInit, Cond.fieldLink RX1 11 "SlotMaps$Program" "letter" "C", Cond.methodLink RL 12 yX4_init, Cond.instanceMethod yX4_init, Cond.code yX4_init cX4_init 1 none, Cond.methodLink RX4 1 objectInit, Cond.fieldLink RX4 7 "SlotMapsModel" "now" "[I", Cond.fieldLink RX4 13 "SlotMapsModel" "past" "[I", Cond.fieldLink RX4 16 "SlotMapsModel" "before" "[I", Cond.fieldLink RX4 19 "SlotMapsModel" "trial" "[I", Cond.fieldLink RX4 22 "SlotMapsModel" "text" "[I", Cond.methodLink RL 13 yX3_take, Cond.instanceMethod yX3_take, Cond.selects RX3 yX3_take yX3_take, Cond.code yX3_take cX3_take 1 (some .int), Cond.methodLink RX3 41 yX0_prepare, Cond.instanceMethod yX0_prepare, Cond.selects RX0 yX0_prepare yX0_prepare, Cond.code yX0_prepare cX0_prepare 2 none, Cond.methodLink RX0 25 yX0_behindLatest, Cond.instanceMethod yX0_behindLatest]
def wsL_law_r4 : List Cond := [Cond.selects RX0 yX0_behindLatest yX0_behindLatest, Cond.code yX0_behindLatest cX0_behindLatest 1 (some .int), Cond.methodLink RX0 29 yX2_copyFrom, Cond.instanceMethod yX2_copyFrom, Cond.selects RX2 yX2_copyFrom yX2_copyFrom, Cond.code yX2_copyFrom cX2_copyFrom 3 none, Cond.methodLink RX2 30 arraycopyName, Cond.native arraycopyName, Cond.static arraycopyName, Cond.initialized "java/lang/System", Cond.methodLink RX3 45 yX2_takeOne, Cond.instanceMethod yX2_takeOne, Cond.selects RX2 yX2_takeOne yX2_takeOne, Cond.code yX2_takeOne cX2_takeOne 2 (some .int), Cond.methodLink RX2 36 yX2_takeBySummaries, Cond.instanceMethod yX2_takeBySummaries, Cond.selects RX2 yX2_takeBySummaries yX2_takeBySummaries, Cond.code yX2_takeBySummaries cX2_takeBySummaries 3 (some .int), Cond.methodLink RX2 44 yX2_summaryBit, Cond.instanceMethod yX2_summaryBit, Cond.selects RX2 yX2_summaryBit yX2_summaryBit, Cond.code yX2_summaryBit cX2_summaryBit 2 (some .int), Cond.methodLink RX2 47 yX2_isFull, Cond.instanceMethod yX2_isFull]
def wsL_law_r5 : List Cond := [Cond.selects RX2 yX2_isFull yX2_isFull, Cond.code yX2_isFull cX2_isFull 2 (some .boolean), Cond.static yX3_lowestBit, Cond.code yX3_lowestBit cX3_lowestBit 1 (some .int), Cond.methodLink RX3 98 yJ6_bitCount_0f7a4, Cond.static yJ6_bitCount_0f7a4, Cond.initialized RJ6, Cond.code yJ6_bitCount_0f7a4 cJ6_bitCount_0f7a4 1 (some .int), Cond.constant RJ6 265 (1431655765), Cond.constant RJ6 266 (858993459), Cond.constant RJ6 267 (252645135), Cond.static yX3_bitOf, Cond.code yX3_bitOf cX3_bitOf 1 (some .int), Cond.methodLink RX2 57 yX2_change, Cond.instanceMethod yX2_change, Cond.selects RX2 yX2_change yX2_change, Cond.code yX2_change cX2_change 5 none, Cond.methodLink RX2 40 yX2_clearWords, Cond.instanceMethod yX2_clearWords, Cond.selects RX2 yX2_clearWords yX2_clearWords, Cond.code yX2_clearWords cX2_clearWords 6 (some .int), Cond.methodLink RX2 80 yJ6_bitCount_0f7a4, Cond.methodLink RX3 49 yX3_settle, Cond.instanceMethod yX3_settle]
def wsL_law_r6 : List Cond := [Cond.selects RX3 yX3_settle yX3_settle, Cond.code yX3_settle cX3_settle 2 (some .int), Cond.methodLink RX3 169 yX0_takeBack, Cond.instanceMethod yX0_takeBack, Cond.selects RX0 yX0_takeBack yX0_takeBack, Cond.code yX0_takeBack cX0_takeBack 2 none, Cond.methodLink RX3 172 yX0_keep, Cond.instanceMethod yX0_keep, Cond.selects RX0 yX0_keep yX0_keep, Cond.code yX0_keep cX0_keep 1 none, Cond.methodLink RL 17 yX4_take, Cond.instanceMethod yX4_take, Cond.selects RX4 yX4_take yX4_take, Cond.code yX4_take cX4_take 1 (some .int), Cond.methodLink RX4 55 yX4_notes, Cond.instanceMethod yX4_notes, Cond.selects RX4 yX4_notes yX4_notes, Cond.code yX4_notes cX4_notes 1 none, Cond.methodLink RX4 25 yX4_copies, Cond.static yX4_copies, Cond.code yX4_copies cX4_copies 5 none, Cond.methodLink RX4 58 yX4_takes1, Cond.instanceMethod yX4_takes1, Cond.selects RX4 yX4_takes1 yX4_takes1]
def wsL_law_r7 : List Cond := [Cond.code yX4_takes1 cX4_takes1 2 (some .int), Cond.methodLink RX4 48 yX4_goesThrough, Cond.instanceMethod yX4_goesThrough, Cond.selects RX4 yX4_goesThrough yX4_goesThrough, Cond.code yX4_goesThrough cX4_goesThrough 3 (some .int), Cond.methodLink RX4 41 yX4_firstIn, Cond.instanceMethod yX4_firstIn, Cond.selects RX4 yX4_firstIn yX4_firstIn, Cond.code yX4_firstIn cX4_firstIn 3 (some .int), Cond.methodLink RX4 44 yX4_becomes, Cond.instanceMethod yX4_becomes, Cond.selects RX4 yX4_becomes yX4_becomes, Cond.code yX4_becomes cX4_becomes 3 none, Cond.methodLink RX4 37 yX4_right, Cond.instanceMethod yX4_right, Cond.selects RX4 yX4_right yX4_right, Cond.code yX4_right cX4_right 2 (some .int), Cond.methodLink RX4 33 yX4_inWord, Cond.instanceMethod yX4_inWord, Cond.selects RX4 yX4_inWord yX4_inWord, Cond.code yX4_inWord cX4_inWord 5 (some .int), Cond.methodLink RX4 52 yX4_clears, Cond.instanceMethod yX4_clears, Cond.selects RX4 yX4_clears yX4_clears]
def wsL_law_r8 : List Cond := [Cond.code yX4_clears cX4_clears 6 (some .int), Cond.methodLink RX4 61 yX4_ends, Cond.instanceMethod yX4_ends, Cond.selects RX4 yX4_ends yX4_ends, Cond.code yX4_ends cX4_ends 3 (some .int), Cond.fieldLink RX4 29 "SlotMapsModel" "pasts" "I", Cond.methodLink RL 18 yX3_takeRun, Cond.instanceMethod yX3_takeRun, Cond.selects RX3 yX3_takeRun yX3_takeRun, Cond.code yX3_takeRun cX3_takeRun 2 (some .int), Cond.methodLink RX3 53 yX2_takeSideBySide, Cond.instanceMethod yX2_takeSideBySide, Cond.selects RX2 yX2_takeSideBySide yX2_takeSideBySide, Cond.code yX2_takeSideBySide cX2_takeSideBySide 5 (some .int), Cond.static yX3_isRunLength, Cond.code yX3_isRunLength cX3_isRunLength 1 (some .boolean), Cond.methodLink RX2 67 yX2_runStart, Cond.instanceMethod yX2_runStart, Cond.selects RX2 yX2_runStart yX2_runStart, Cond.code yX2_runStart cX2_runStart 4 (some .int), Cond.methodLink RX2 103 yX2_isFree, Cond.instanceMethod yX2_isFree, Cond.selects RX2 yX2_isFree yX2_isFree, Cond.code yX2_isFree cX2_isFree 2 (some .boolean)]
def wsL_law_r9 : List Cond := [Cond.static yX3_wordOf, Cond.code yX3_wordOf cX3_wordOf 1 (some .int), Cond.static yX3_rangeBits, Cond.code yX3_rangeBits cX3_rangeBits 5 (some .int), Cond.methodLink RX3 175 Lib.Math.max.name, Cond.static Lib.Math.max.name, Cond.initialized "java/lang/Math", Cond.code Lib.Math.max.name Lib.Math.max.code 2 (some .int), Cond.methodLink RX3 180 Lib.Math.min.name, Cond.static Lib.Math.min.name, Cond.code Lib.Math.min.name Lib.Math.min.code 2 (some .int), Cond.methodLink RL 22 yX4_takeRun, Cond.instanceMethod yX4_takeRun, Cond.selects RX4 yX4_takeRun yX4_takeRun, Cond.code yX4_takeRun cX4_takeRun 4 (some .int), Cond.methodLink RX4 64 yX4_in, Cond.static yX4_in, Cond.code yX4_in cX4_in 3 (some .boolean), Cond.methodLink RX4 68 yX4_runFrom, Cond.instanceMethod yX4_runFrom, Cond.selects RX4 yX4_runFrom yX4_runFrom, Cond.code yX4_runFrom cX4_runFrom 4 (some .int), Cond.methodLink RL 23 yX3_giveBack, Cond.instanceMethod yX3_giveBack]
def wsL_law_r10 : List Cond := [Cond.selects RX3 yX3_giveBack yX3_giveBack, Cond.code yX3_giveBack cX3_giveBack 3 (some .int), Cond.methodLink RX3 56 yX2_giveBackRange, Cond.instanceMethod yX2_giveBackRange, Cond.selects RX2 yX2_giveBackRange yX2_giveBackRange, Cond.code yX2_giveBackRange cX2_giveBackRange 7 (some .int), Cond.methodLink RX2 77 yX2_ownedBits, Cond.instanceMethod yX2_ownedBits, Cond.selects RX2 yX2_ownedBits yX2_ownedBits, Cond.code yX2_ownedBits cX2_ownedBits 4 (some .int), Cond.methodLink RX2 94 yX2_blockBits, Cond.instanceMethod yX2_blockBits, Cond.selects RX2 yX2_blockBits yX2_blockBits, Cond.code yX2_blockBits cX2_blockBits 3 (some .int), Cond.methodLink RL 27 yX4_giveBack, Cond.instanceMethod yX4_giveBack, Cond.selects RX4 yX4_giveBack yX4_giveBack, Cond.code yX4_giveBack cX4_giveBack 3 (some .int), Cond.methodLink RX4 71 yX4_givesBack, Cond.instanceMethod yX4_givesBack, Cond.selects RX4 yX4_givesBack yX4_givesBack, Cond.code yX4_givesBack cX4_givesBack 5 (some .int), Cond.methodLink RL 28 yX3_clear, Cond.instanceMethod yX3_clear]
def wsL_law_r11 : List Cond := [Cond.selects RX3 yX3_clear yX3_clear, Cond.code yX3_clear cX3_clear 2 (some .int), Cond.methodLink RX3 60 yX2_clearWords, Cond.methodLink RL 31 yX4_clear, Cond.instanceMethod yX4_clear, Cond.selects RX4 yX4_clear yX4_clear, Cond.code yX4_clear cX4_clear 2 (some .int), Cond.methodLink RX4 74 yX4_clearsSome, Cond.instanceMethod yX4_clearsSome, Cond.selects RX4 yX4_clearsSome yX4_clearsSome, Cond.code yX4_clearsSome cX4_clearsSome 2 (some .int), Cond.methodLink RL 32 yX3_reserve, Cond.instanceMethod yX3_reserve, Cond.selects RX3 yX3_reserve yX3_reserve, Cond.code yX3_reserve cX3_reserve 2 (some .int), Cond.methodLink RX3 63 yX2_reserveBlock, Cond.instanceMethod yX2_reserveBlock, Cond.selects RX2 yX2_reserveBlock yX2_reserveBlock, Cond.code yX2_reserveBlock cX2_reserveBlock 4 (some .int), Cond.static yX3_isBlockSize, Cond.code yX3_isBlockSize cX3_isBlockSize 1 (some .boolean), Cond.methodLink RX2 88 yX2_firstUnusedBlock, Cond.instanceMethod yX2_firstUnusedBlock, Cond.selects RX2 yX2_firstUnusedBlock yX2_firstUnusedBlock]
def wsL_law_r12 : List Cond := [Cond.code yX2_firstUnusedBlock cX2_firstUnusedBlock 2 (some .int), Cond.methodLink RX2 97 yX2_hasBlock, Cond.instanceMethod yX2_hasBlock, Cond.selects RX2 yX2_hasBlock yX2_hasBlock, Cond.code yX2_hasBlock cX2_hasBlock 2 (some .boolean), Cond.methodLink RX2 91 yX2_placeStart, Cond.instanceMethod yX2_placeStart, Cond.selects RX2 yX2_placeStart yX2_placeStart, Cond.code yX2_placeStart cX2_placeStart 5 (some .int), Cond.methodLink RL 35 yX4_reserve, Cond.instanceMethod yX4_reserve, Cond.selects RX4 yX4_reserve yX4_reserve, Cond.code yX4_reserve cX4_reserve 2 (some .int), Cond.methodLink RX4 87 yX4_reserves, Cond.instanceMethod yX4_reserves, Cond.selects RX4 yX4_reserves yX4_reserves, Cond.code yX4_reserves cX4_reserves 5 (some .int), Cond.methodLink RX4 77 yX4_isSize, Cond.static yX4_isSize, Cond.code yX4_isSize cX4_isSize 1 (some .boolean), Cond.methodLink RX4 81 yX4_isBlock, Cond.instanceMethod yX4_isBlock, Cond.selects RX4 yX4_isBlock yX4_isBlock, Cond.code yX4_isBlock cX4_isBlock 2 (some .boolean)]
def wsL_law_r13 : List Cond := [Cond.methodLink RX4 84 yX4_placeOf, Cond.instanceMethod yX4_placeOf, Cond.selects RX4 yX4_placeOf yX4_placeOf, Cond.code yX4_placeOf cX4_placeOf 5 (some .int), Cond.methodLink RL 36 yX3_takeIn, Cond.instanceMethod yX3_takeIn, Cond.selects RX3 yX3_takeIn yX3_takeIn, Cond.code yX3_takeIn cX3_takeIn 2 (some .int), Cond.methodLink RX3 66 yX2_takeInBlock, Cond.instanceMethod yX2_takeInBlock, Cond.selects RX2 yX2_takeInBlock yX2_takeInBlock, Cond.code yX2_takeInBlock cX2_takeInBlock 5 (some .int), Cond.methodLink RL 39 yX4_takeIn, Cond.instanceMethod yX4_takeIn, Cond.selects RX4 yX4_takeIn yX4_takeIn, Cond.code yX4_takeIn cX4_takeIn 2 (some .int), Cond.methodLink RX4 90 yX4_takesIn, Cond.instanceMethod yX4_takesIn, Cond.selects RX4 yX4_takesIn yX4_takesIn, Cond.code yX4_takesIn cX4_takesIn 4 (some .int), Cond.methodLink RL 40 yX3_giveUp, Cond.instanceMethod yX3_giveUp, Cond.selects RX3 yX3_giveUp yX3_giveUp, Cond.code yX3_giveUp cX3_giveUp 2 (some .int)]
def wsL_law_r14 : List Cond := [Cond.methodLink RX3 69 yX2_giveUpBlock, Cond.instanceMethod yX2_giveUpBlock, Cond.selects RX2 yX2_giveUpBlock yX2_giveUpBlock, Cond.code yX2_giveUpBlock cX2_giveUpBlock 4 (some .int), Cond.methodLink RL 43 yX4_giveUp, Cond.instanceMethod yX4_giveUp, Cond.selects RX4 yX4_giveUp yX4_giveUp, Cond.code yX4_giveUp cX4_giveUp 5 (some .int), Cond.methodLink RL 44 yX3_damage, Cond.instanceMethod yX3_damage, Cond.selects RX3 yX3_damage yX3_damage, Cond.code yX3_damage cX3_damage 2 (some .int), Cond.methodLink RX3 72 yX2_damageBit, Cond.instanceMethod yX2_damageBit, Cond.selects RX2 yX2_damageBit yX2_damageBit, Cond.code yX2_damageBit cX2_damageBit 2 (some .int), Cond.methodLink RL 47 yX4_damage, Cond.instanceMethod yX4_damage, Cond.selects RX4 yX4_damage yX4_damage, Cond.code yX4_damage cX4_damage 2 (some .int), Cond.methodLink RX4 96 yX4_damages, Cond.instanceMethod yX4_damages, Cond.selects RX4 yX4_damages yX4_damages, Cond.code yX4_damages cX4_damages 2 (some .int)]
def wsL_law_r15 : List Cond := [Cond.methodLink RX4 93 yX4_isWord, Cond.static yX4_isWord, Cond.code yX4_isWord cX4_isWord 1 (some .boolean), Cond.methodLink RL 48 yX3_repair, Cond.instanceMethod yX3_repair, Cond.selects RX3 yX3_repair yX3_repair, Cond.code yX3_repair cX3_repair 1 (some .int), Cond.methodLink RX3 75 yX2_repairBits, Cond.instanceMethod yX2_repairBits, Cond.selects RX2 yX2_repairBits yX2_repairBits, Cond.code yX2_repairBits cX2_repairBits 3 (some .int), Cond.methodLink RX2 100 yX2_rightSummary, Cond.instanceMethod yX2_rightSummary, Cond.selects RX2 yX2_rightSummary yX2_rightSummary, Cond.code yX2_rightSummary cX2_rightSummary 3 (some .int), Cond.methodLink RL 51 yX4_repair, Cond.instanceMethod yX4_repair, Cond.selects RX4 yX4_repair yX4_repair, Cond.code yX4_repair cX4_repair 1 (some .int), Cond.methodLink RX4 99 yX4_repairs, Cond.instanceMethod yX4_repairs, Cond.selects RX4 yX4_repairs yX4_repairs, Cond.code yX4_repairs cX4_repairs 3 (some .int), Cond.methodLink RL 52 yX3_undo]
def wsL_law_r16 : List Cond := [Cond.instanceMethod yX3_undo, Cond.selects RX3 yX3_undo yX3_undo, Cond.code yX3_undo cX3_undo 1 (some .int), Cond.methodLink RX3 78 yX0_restoreLatest, Cond.instanceMethod yX0_restoreLatest, Cond.selects RX0 yX0_restoreLatest yX0_restoreLatest, Cond.code yX0_restoreLatest cX0_restoreLatest 2 (some .int), Cond.methodLink RX0 33 yX0_takeBack, Cond.methodLink RL 55 yX4_undo, Cond.instanceMethod yX4_undo, Cond.selects RX4 yX4_undo yX4_undo, Cond.code yX4_undo cX4_undo 1 (some .int), Cond.methodLink RL 56 yX3_append, Cond.instanceMethod yX3_append, Cond.selects RX3 yX3_append yX3_append, Cond.code yX3_append cX3_append 2 (some .int), Cond.methodLink RL 59 yX4_append, Cond.instanceMethod yX4_append, Cond.selects RX4 yX4_append yX4_append, Cond.code yX4_append cX4_append 2 (some .int), Cond.fieldLink RX4 102 "SlotMapsModel" "typed" "I", Cond.methodLink RL 60 yX3_clearText, Cond.instanceMethod yX3_clearText, Cond.selects RX3 yX3_clearText yX3_clearText]
def wsL_law_r17 : List Cond := [Cond.code yX3_clearText cX3_clearText 2 (some .int), Cond.methodLink RL 63 yX4_clearText, Cond.instanceMethod yX4_clearText, Cond.selects RX4 yX4_clearText yX4_clearText, Cond.code yX4_clearText cX4_clearText 2 (some .int), Cond.methodLink RL 64 yX3_run, Cond.instanceMethod yX3_run, Cond.selects RX3 yX3_run yX3_run, Cond.code yX3_run cX3_run 1 (some .int), Cond.methodLink RX3 82 yX1_execute, Cond.instanceMethod yX1_execute, Cond.selects RX1 yX1_execute yX1_execute, Cond.code yX1_execute cX1_execute 7 (some .int), Cond.fieldLink RX1 23 "SlotMaps$Program" "letterPlace" "I", Cond.methodLink RX1 15 yX1_readCharacter, Cond.instanceMethod yX1_readCharacter, Cond.selects RX1 yX1_readCharacter yX1_readCharacter, Cond.code yX1_readCharacter cX1_readCharacter 3 (some .boolean), Cond.methodLink RX1 27 yX1_readLetter, Cond.instanceMethod yX1_readLetter, Cond.selects RX1 yX1_readLetter yX1_readLetter, Cond.code yX1_readLetter cX1_readLetter 3 (some .boolean), Cond.fieldLink RX1 41 "SlotMaps$Program" "hasFrom" "Z", Cond.fieldLink RX1 45 "SlotMaps$Program" "number" "I"]
def wsL_law_r18 : List Cond := [Cond.fieldLink RX1 48 "SlotMaps$Program" "digits" "I", Cond.methodLink RX1 30 yX1_readDigit, Cond.instanceMethod yX1_readDigit, Cond.selects RX1 yX1_readDigit yX1_readDigit, Cond.code yX1_readDigit cX1_readDigit 3 (some .boolean), Cond.methodLink RX1 34 yX1_readDash, Cond.instanceMethod yX1_readDash, Cond.selects RX1 yX1_readDash yX1_readDash, Cond.code yX1_readDash cX1_readDash 1 (some .boolean), Cond.fieldLink RX1 51 "SlotMaps$Program" "from" "I", Cond.methodLink RX1 38 yX1_mayEnd, Cond.instanceMethod yX1_mayEnd, Cond.selects RX1 yX1_mayEnd yX1_mayEnd, Cond.code yX1_mayEnd cX1_mayEnd 1 (some .boolean), Cond.methodLink RX1 19 yX1_perform, Cond.instanceMethod yX1_perform, Cond.selects RX1 yX1_perform yX1_perform, Cond.code yX1_perform cX1_perform 2 (some .int), Cond.methodLink RX1 54 yX2_takeMany, Cond.instanceMethod yX2_takeMany, Cond.selects RX2 yX2_takeMany yX2_takeMany, Cond.code yX2_takeMany cX2_takeMany 3 (some .int), Cond.methodLink RX2 61 yX2_takeOne, Cond.methodLink RX1 60 yX2_giveBackRange]
def wsL_law_r19 : List Cond := [Cond.methodLink RX1 64 yX2_clearWords, Cond.methodLink RX1 67 yX2_reserveBlock, Cond.methodLink RX1 70 yX2_takeInBlock, Cond.methodLink RX1 73 yX2_damageBit, Cond.methodLink RX1 76 yX2_repairBits, Cond.methodLink RL 67 yX4_run, Cond.instanceMethod yX4_run, Cond.selects RX4 yX4_run yX4_run, Cond.code yX4_run cX4_run 2 (some .int), Cond.fieldLink RX4 105 "SlotMapsModel" "at" "I", Cond.methodLink RX4 128 yX4_runsOne, Cond.instanceMethod yX4_runsOne, Cond.selects RX4 yX4_runsOne yX4_runsOne, Cond.code yX4_runsOne cX4_runsOne 6 (some .boolean), Cond.methodLink RX4 108 yX4_signAt, Cond.instanceMethod yX4_signAt, Cond.selects RX4 yX4_signAt yX4_signAt, Cond.code yX4_signAt cX4_signAt 2 (some .int), Cond.methodLink RX4 118 yX4_isLetter, Cond.static yX4_isLetter, Cond.code yX4_isLetter cX4_isLetter 1 (some .boolean), Cond.methodLink RX4 111 yX4_isDigit, Cond.instanceMethod yX4_isDigit, Cond.selects RX4 yX4_isDigit yX4_isDigit]
def wsL_law_r20 : List Cond := [Cond.code yX4_isDigit cX4_isDigit 1 (some .boolean), Cond.methodLink RX4 121 yX4_number, Cond.instanceMethod yX4_number, Cond.selects RX4 yX4_number yX4_number, Cond.code yX4_number cX4_number 3 (some .int), Cond.methodLink RX4 124 yX4_does, Cond.instanceMethod yX4_does, Cond.selects RX4 yX4_does yX4_does, Cond.code yX4_does cX4_does 4 (some .int), Cond.methodLink RX4 115 yX4_takesMany, Cond.instanceMethod yX4_takesMany, Cond.selects RX4 yX4_takesMany yX4_takesMany, Cond.code yX4_takesMany cX4_takesMany 4 (some .int), Cond.methodLink RL 68 yX3_count, Cond.instanceMethod yX3_count, Cond.selects RX3 yX3_count yX3_count, Cond.code yX3_count cX3_count 2 (some .int), Cond.methodLink RX3 86 yX2_total, Cond.instanceMethod yX2_total, Cond.selects RX2 yX2_total yX2_total, Cond.code yX2_total cX2_total 4 (some .int), Cond.methodLink RX3 89 yX2_blockTotal, Cond.instanceMethod yX2_blockTotal, Cond.selects RX2 yX2_blockTotal yX2_blockTotal]
def wsL_law_r21 : List Cond := [Cond.code yX2_blockTotal cX2_blockTotal 3 (some .int), Cond.methodLink RX3 103 yX2_rightSummary, Cond.methodLink RX3 106 yX2_freeRuns, Cond.instanceMethod yX2_freeRuns, Cond.selects RX2 yX2_freeRuns yX2_freeRuns, Cond.code yX2_freeRuns cX2_freeRuns 5 (some .int), Cond.methodLink RX3 109 yX2_longestFreeRun, Cond.instanceMethod yX2_longestFreeRun, Cond.selects RX2 yX2_longestFreeRun yX2_longestFreeRun, Cond.code yX2_longestFreeRun cX2_longestFreeRun 4 (some .int), Cond.methodLink RX2 106 Lib.Math.max.name, Cond.methodLink RL 71 yX4_count, Cond.instanceMethod yX4_count, Cond.selects RX4 yX4_count yX4_count, Cond.code yX4_count cX4_count 2 (some .int), Cond.methodLink RX4 131 yX4_inAll, Cond.instanceMethod yX4_inAll, Cond.selects RX4 yX4_inAll yX4_inAll, Cond.code yX4_inAll cX4_inAll 4 (some .int), Cond.methodLink RX4 134 yX4_blocks, Cond.instanceMethod yX4_blocks, Cond.selects RX4 yX4_blocks yX4_blocks, Cond.code yX4_blocks cX4_blocks 3 (some .int), Cond.methodLink RX4 137 yX4_bits]
def wsL_law_r22 : List Cond := [Cond.instanceMethod yX4_bits, Cond.selects RX4 yX4_bits yX4_bits, Cond.code yX4_bits cX4_bits 3 (some .int), Cond.methodLink RX4 140 yX4_full, Cond.instanceMethod yX4_full, Cond.selects RX4 yX4_full yX4_full, Cond.code yX4_full cX4_full 3 (some .int), Cond.methodLink RX4 143 yX4_runs, Cond.instanceMethod yX4_runs, Cond.selects RX4 yX4_runs yX4_runs, Cond.code yX4_runs cX4_runs 6 (some .int), Cond.methodLink RL 72 yX3_slot, Cond.instanceMethod yX3_slot, Cond.selects RX3 yX3_slot yX3_slot, Cond.code yX3_slot cX3_slot 3 (some .int), Cond.methodLink RX3 115 yX2_kindOf, Cond.instanceMethod yX2_kindOf, Cond.selects RX2 yX2_kindOf yX2_kindOf, Cond.code yX2_kindOf cX2_kindOf 3 (some .int), Cond.methodLink RX3 118 yX2_blockOf, Cond.instanceMethod yX2_blockOf, Cond.selects RX2 yX2_blockOf yX2_blockOf, Cond.code yX2_blockOf cX2_blockOf 3 (some .int), Cond.methodLink RL 75 yX4_slot]
def wsL_law_r23 : List Cond := [Cond.instanceMethod yX4_slot, Cond.selects RX4 yX4_slot yX4_slot, Cond.code yX4_slot cX4_slot 3 (some .int), Cond.methodLink RL 76 yX3_word, Cond.instanceMethod yX3_word, Cond.selects RX3 yX3_word yX3_word, Cond.code yX3_word cX3_word 3 (some .int), Cond.methodLink RX3 125 yX2_summaryBit, Cond.methodLink RX3 128 yX2_isFull, Cond.methodLink RX3 132 yX2_firstFree, Cond.instanceMethod yX2_firstFree, Cond.selects RX2 yX2_firstFree yX2_firstFree, Cond.code yX2_firstFree cX2_firstFree 2 (some .int), Cond.methodLink RL 79 yX4_word, Cond.instanceMethod yX4_word, Cond.selects RX4 yX4_word yX4_word, Cond.code yX4_word cX4_word 3 (some .int), Cond.methodLink RL 80 yX3_block, Cond.instanceMethod yX3_block, Cond.selects RX3 yX3_block yX3_block, Cond.code yX3_block cX3_block 3 (some .int), Cond.methodLink RX3 135 yX2_hasBlock, Cond.methodLink RX3 145 yX2_totalInBlock, Cond.instanceMethod yX2_totalInBlock]
def wsL_law_r24 : List Cond := [Cond.selects RX2 yX2_totalInBlock yX2_totalInBlock, Cond.code yX2_totalInBlock cX2_totalInBlock 3 (some .int), Cond.methodLink RL 83 yX4_block, Cond.instanceMethod yX4_block, Cond.selects RX4 yX4_block yX4_block, Cond.code yX4_block cX4_block 7 (some .int), Cond.methodLink RL 84 yX3_audit, Cond.instanceMethod yX3_audit, Cond.selects RX3 yX3_audit yX3_audit, Cond.code yX3_audit cX3_audit 3 (some .int), Cond.methodLink RX3 148 yX3_lowestBit, Cond.methodLink RL 87 yX4_audit, Cond.instanceMethod yX4_audit, Cond.selects RX4 yX4_audit yX4_audit, Cond.code yX4_audit cX4_audit 7 (some .int), Cond.methodLink RL 88 yX3_next, Cond.instanceMethod yX3_next, Cond.selects RX3 yX3_next yX3_next, Cond.code yX3_next cX3_next 3 (some .int), Cond.methodLink RX3 151 yX2_copyFrom, Cond.methodLink RL 91 yX4_next, Cond.instanceMethod yX4_next, Cond.selects RX4 yX4_next yX4_next, Cond.code yX4_next cX4_next 6 (some .int)]
def wsL_law_r25 : List Cond := [Cond.methodLink RL 92 yX3_runAt, Cond.instanceMethod yX3_runAt, Cond.selects RX3 yX3_runAt yX3_runAt, Cond.code yX3_runAt cX3_runAt 2 (some .int), Cond.methodLink RX3 154 yX3_isRunLength, Cond.methodLink RX3 157 yX2_runStart, Cond.methodLink RL 95 yX4_runAt, Cond.instanceMethod yX4_runAt, Cond.selects RX4 yX4_runAt yX4_runAt, Cond.code yX4_runAt cX4_runAt 2 (some .int), Cond.methodLink RL 96 yX3_placeFor, Cond.instanceMethod yX3_placeFor, Cond.selects RX3 yX3_placeFor yX3_placeFor, Cond.code yX3_placeFor cX3_placeFor 2 (some .int), Cond.methodLink RX3 160 yX3_isBlockSize, Cond.methodLink RX3 163 yX2_placeStart, Cond.methodLink RL 99 yX4_placeFor, Cond.instanceMethod yX4_placeFor, Cond.selects RX4 yX4_placeFor yX4_placeFor, Cond.code yX4_placeFor cX4_placeFor 2 (some .int), Cond.methodLink RL 100 yX3_takes, Cond.instanceMethod yX3_takes, Cond.selects RX3 yX3_takes yX3_takes, Cond.code yX3_takes cX3_takes 1 (some .int)]
def wsL_law_r26 : List Cond := [Cond.methodLink RX3 166 yX2_reachable, Cond.instanceMethod yX2_reachable, Cond.selects RX2 yX2_reachable yX2_reachable, Cond.code yX2_reachable cX2_reachable 3 (some .int), Cond.methodLink RL 103 yX4_takes, Cond.instanceMethod yX4_takes, Cond.selects RX4 yX4_takes yX4_takes, Cond.code yX4_takes cX4_takes 2 (some .int)]
def wsL_law : List Cond := (wsL_law_r1 ++ (wsL_law_r2 ++ (wsL_law_r3 ++ (wsL_law_r4 ++ (wsL_law_r5 ++ (wsL_law_r6 ++ (wsL_law_r7 ++ (wsL_law_r8 ++ (wsL_law_r9 ++ (wsL_law_r10 ++ (wsL_law_r11 ++ (wsL_law_r12 ++ (wsL_law_r13 ++ (wsL_law_r14 ++ (wsL_law_r15 ++ (wsL_law_r16 ++ (wsL_law_r17 ++ (wsL_law_r18 ++ (wsL_law_r19 ++ (wsL_law_r20 ++ (wsL_law_r21 ++ (wsL_law_r22 ++ (wsL_law_r23 ++ (wsL_law_r24 ++ (wsL_law_r25 ++ wsL_law_r26))))))))))))))))))))))))) ++ wsX30 ++ wsX40 ++ wsX20 ++ wsX00 ++ wsX10 ++ ([] : List Cond)
set_option maxRecDepth 20000 in
theorem wsL_law_in : ∀ w ∈ wsL_law, w ∈ lw_tbl := fun w h => (goodIn_p wsL_law [56, 59, 64, 94, 114, 481, 158, 162, 166, 170, 177, 181, 185, 189, 192, 195, 201, 205, 209, 214, 218, 222, 511, 515, 518, 522, 526, 530, 534, 538, 542, 546, 550, 226, 230, 233, 237, 241, 244, 247, 250, 253, 554, 557, 561, 257, 261, 265, 269, 565, 569, 273, 573, 577, 278, 282, 285, 289, 293, 297, 581, 585, 588, 592, 596, 301, 305, 600, 604, 309, 313, 608, 317, 321, 612, 616, 619, 325, 329, 333, 623, 627, 337, 341, 631, 346, 635, 350, 639, 354, 358, 362, 366, 370, 374, 378, 382, 386, 643, 647, 651, 654, 658, 662, 666, 670, 397, 401, 405, 410, 414, 674, 678, 682, 686, 690, 694, 419, 423, 427, 698, 431, 437, 702, 441, 446, 706, 450, 710, 455, 714, 460, 718, 466, 722, 472, 476, 726] (by decide +kernel) (by decide +kernel) w h).1
theorem inlX0 : ∀ w ∈ wsX00, w ∈ wsL_law := fun _ h => List.mem_append_left _ (List.mem_append_left _ (List.mem_append_right _ h))
theorem inX0 : ∀ w ∈ wsX00, w ∈ lw_tbl := fun w h => wsL_law_in w (inlX0 w h)
theorem inlX1 : ∀ w ∈ wsX10, w ∈ wsL_law := fun _ h => List.mem_append_left _ (List.mem_append_right _ h)
theorem inX1 : ∀ w ∈ wsX10, w ∈ lw_tbl := fun w h => wsL_law_in w (inlX1 w h)
theorem inlX2 : ∀ w ∈ wsX20, w ∈ wsL_law := fun _ h => List.mem_append_left _ (List.mem_append_left _ (List.mem_append_left _ (List.mem_append_right _ h)))
theorem inX2 : ∀ w ∈ wsX20, w ∈ lw_tbl := fun w h => wsL_law_in w (inlX2 w h)
theorem inlX3 : ∀ w ∈ wsX30, w ∈ wsL_law := fun _ h => List.mem_append_left _ (List.mem_append_left _ (List.mem_append_left _ (List.mem_append_left _ (List.mem_append_left _ (List.mem_append_right _ h)))))
theorem inX3 : ∀ w ∈ wsX30, w ∈ lw_tbl := fun w h => wsL_law_in w (inlX3 w h)
theorem inlX4 : ∀ w ∈ wsX40, w ∈ wsL_law := fun _ h => List.mem_append_left _ (List.mem_append_left _ (List.mem_append_left _ (List.mem_append_left _ (List.mem_append_right _ h))))
theorem inX4 : ∀ w ∈ wsX40, w ∈ lw_tbl := fun w h => wsL_law_in w (inlX4 w h)
theorem inJ6 : ∀ w ∈ wsJ60, w ∈ lw_tbl := by decide +kernel
theorem inJ9 : ∀ w ∈ wsJ90, w ∈ lw_tbl := by decide +kernel
theorem inJ10 : ∀ w ∈ wsJ100, w ∈ lw_tbl := by decide +kernel
set_option maxRecDepth 20000 in
theorem ggX0_init_X2_init : GoodIn wsX0_init wsX2_init := goodIn_r _ [12, 13, 2, 3, 14, 15, 16, 17, 18, 19, 20, 24, 25, 26, 27, 28] (by decide +kernel) (by decide +kernel)
set_option maxRecDepth 20000 in
theorem gX0_init_X2_init : GoodIn wsX0_init (wsX2_init) := ggX0_init_X2_init
theorem dX0_init_0 : decode cX0_init 0 = .ok (.aload_n 0, 1) := by decide +kernel
theorem dX0_init_1 : decode cX0_init 1 = .ok (.invokespecial 3, 3) := by decide +kernel
theorem dX0_init_4 : decode cX0_init 4 = .ok (.aload_n 0, 1) := by decide +kernel
theorem dX0_init_5 : decode cX0_init 5 = .ok (.bipush 6, 2) := by decide +kernel
theorem dX0_init_7 : decode cX0_init 7 = .ok (.anewarray 9, 3) := by decide +kernel
theorem dX0_init_10 : decode cX0_init 10 = .ok (.putfield 11, 3) := by decide +kernel
theorem dX0_init_13 : decode cX0_init 13 = .ok (.iconst 0, 1) := by decide +kernel
theorem dX0_init_14 : decode cX0_init 14 = .ok (.istore_n 1, 1) := by decide +kernel
theorem dX0_init_15 : decode cX0_init 15 = .ok (.iload_n 1, 1) := by decide +kernel
theorem dX0_init_16 : decode cX0_init 16 = .ok (.iconst 5, 1) := by decide +kernel
theorem dX0_init_17 : decode cX0_init 17 = .ok (.if_icmp .gt 22, 3) := by decide +kernel
theorem dX0_init_20 : decode cX0_init 20 = .ok (.aload_n 0, 1) := by decide +kernel
theorem dX0_init_21 : decode cX0_init 21 = .ok (.getfield 11, 3) := by decide +kernel
theorem dX0_init_24 : decode cX0_init 24 = .ok (.iload_n 1, 1) := by decide +kernel
theorem dX0_init_25 : decode cX0_init 25 = .ok (.new 9, 3) := by decide +kernel
theorem dX0_init_28 : decode cX0_init 28 = .ok (.dup, 1) := by decide +kernel
theorem dX0_init_29 : decode cX0_init 29 = .ok (.invokespecial 17, 3) := by decide +kernel
theorem dX0_init_32 : decode cX0_init 32 = .ok (.aastore, 1) := by decide +kernel
theorem dX0_init_33 : decode cX0_init 33 = .ok (.iinc 1 1, 3) := by decide +kernel
theorem dX0_init_36 : decode cX0_init 36 = .ok (.goto (-21), 3) := by decide +kernel
theorem dX0_init_39 : decode cX0_init 39 = .ok (.aload_n 0, 1) := by decide +kernel
theorem dX0_init_40 : decode cX0_init 40 = .ok (.iconst 0, 1) := by decide +kernel
theorem dX0_init_41 : decode cX0_init 41 = .ok (.putfield 18, 3) := by decide +kernel
theorem dX0_init_44 : decode cX0_init 44 = .ok (.aload_n 0, 1) := by decide +kernel
theorem dX0_init_45 : decode cX0_init 45 = .ok (.iconst 0, 1) := by decide +kernel
theorem dX0_init_46 : decode cX0_init 46 = .ok (.putfield 22, 3) := by decide +kernel
theorem dX0_init_49 : decode cX0_init 49 = .ok (.return_, 1) := by decide +kernel
set_option maxRecDepth 20000 in
theorem ggX0_prepare_X0_behindLatest : GoodIn wsX0_prepare wsX0_behindLatest := goodIn_r _ [6, 7, 8, 23, 24, 25] (by decide +kernel) (by decide +kernel)
set_option maxRecDepth 20000 in
theorem gX0_prepare_X0_behindLatest : GoodIn wsX0_prepare (wsV RX0 25 RX0 yX0_behindLatest wsX0_behindLatest) := goodIn_app (goodIn_of _ (by decide +kernel)) ggX0_prepare_X0_behindLatest
set_option maxRecDepth 20000 in
theorem ggX0_prepare_X2_copyFrom : GoodIn wsX0_prepare wsX2_copyFrom := goodIn_r _ [13, 14, 15, 16, 17, 18, 19, 20, 21, 22, 26, 27, 28, 29, 30] (by decide +kernel) (by decide +kernel)
set_option maxRecDepth 20000 in
theorem gX0_prepare_X2_copyFrom : GoodIn wsX0_prepare (wsV RX0 29 RX2 yX2_copyFrom wsX2_copyFrom) := goodIn_app (goodIn_of _ (by decide +kernel)) ggX0_prepare_X2_copyFrom
theorem dX0_prepare_0 : decode cX0_prepare 0 = .ok (.aload_n 0, 1) := by decide +kernel
theorem dX0_prepare_1 : decode cX0_prepare 1 = .ok (.getfield 11, 3) := by decide +kernel
theorem dX0_prepare_4 : decode cX0_prepare 4 = .ok (.aload_n 0, 1) := by decide +kernel
theorem dX0_prepare_5 : decode cX0_prepare 5 = .ok (.invokevirtual 25, 3) := by decide +kernel
theorem dX0_prepare_8 : decode cX0_prepare 8 = .ok (.aaload, 1) := by decide +kernel
theorem dX0_prepare_9 : decode cX0_prepare 9 = .ok (.aload_n 1, 1) := by decide +kernel
theorem dX0_prepare_10 : decode cX0_prepare 10 = .ok (.invokevirtual 29, 3) := by decide +kernel
theorem dX0_prepare_13 : decode cX0_prepare 13 = .ok (.return_, 1) := by decide +kernel
set_option maxRecDepth 20000 in
theorem ggX0_takeBack_X0_behindLatest : GoodIn wsX0_takeBack wsX0_behindLatest := goodIn_r _ [6, 7, 8, 23, 24, 25] (by decide +kernel) (by decide +kernel)
set_option maxRecDepth 20000 in
theorem gX0_takeBack_X0_behindLatest : GoodIn wsX0_takeBack (wsV RX0 25 RX0 yX0_behindLatest wsX0_behindLatest) := goodIn_app (goodIn_of _ (by decide +kernel)) ggX0_takeBack_X0_behindLatest
set_option maxRecDepth 20000 in
theorem ggX0_takeBack_X2_copyFrom : GoodIn wsX0_takeBack wsX2_copyFrom := goodIn_r _ [13, 14, 15, 16, 17, 18, 19, 20, 21, 22, 26, 27, 28, 29, 30] (by decide +kernel) (by decide +kernel)
set_option maxRecDepth 20000 in
theorem gX0_takeBack_X2_copyFrom : GoodIn wsX0_takeBack (wsV RX0 29 RX2 yX2_copyFrom wsX2_copyFrom) := goodIn_app (goodIn_of _ (by decide +kernel)) ggX0_takeBack_X2_copyFrom
theorem dX0_takeBack_0 : decode cX0_takeBack 0 = .ok (.aload_n 1, 1) := by decide +kernel
theorem dX0_takeBack_1 : decode cX0_takeBack 1 = .ok (.aload_n 0, 1) := by decide +kernel
theorem dX0_takeBack_2 : decode cX0_takeBack 2 = .ok (.getfield 11, 3) := by decide +kernel
theorem dX0_takeBack_5 : decode cX0_takeBack 5 = .ok (.aload_n 0, 1) := by decide +kernel
theorem dX0_takeBack_6 : decode cX0_takeBack 6 = .ok (.invokevirtual 25, 3) := by decide +kernel
theorem dX0_takeBack_9 : decode cX0_takeBack 9 = .ok (.aaload, 1) := by decide +kernel
theorem dX0_takeBack_10 : decode cX0_takeBack 10 = .ok (.invokevirtual 29, 3) := by decide +kernel
theorem dX0_takeBack_13 : decode cX0_takeBack 13 = .ok (.return_, 1) := by decide +kernel
theorem dX0_keep_0 : decode cX0_keep 0 = .ok (.aload_n 0, 1) := by decide +kernel
theorem dX0_keep_1 : decode cX0_keep 1 = .ok (.getfield 22, 3) := by decide +kernel
theorem dX0_keep_4 : decode cX0_keep 4 = .ok (.iconst 5, 1) := by decide +kernel
theorem dX0_keep_5 : decode cX0_keep 5 = .ok (.if_icmp .ge 16, 3) := by decide +kernel
theorem dX0_keep_8 : decode cX0_keep 8 = .ok (.aload_n 0, 1) := by decide +kernel
theorem dX0_keep_9 : decode cX0_keep 9 = .ok (.dup, 1) := by decide +kernel
theorem dX0_keep_10 : decode cX0_keep 10 = .ok (.getfield 22, 3) := by decide +kernel
theorem dX0_keep_13 : decode cX0_keep 13 = .ok (.iconst 1, 1) := by decide +kernel
theorem dX0_keep_14 : decode cX0_keep 14 = .ok (.iadd, 1) := by decide +kernel
theorem dX0_keep_15 : decode cX0_keep 15 = .ok (.putfield 22, 3) := by decide +kernel
theorem dX0_keep_18 : decode cX0_keep 18 = .ok (.goto 16, 3) := by decide +kernel
theorem dX0_keep_21 : decode cX0_keep 21 = .ok (.aload_n 0, 1) := by decide +kernel
theorem dX0_keep_22 : decode cX0_keep 22 = .ok (.aload_n 0, 1) := by decide +kernel
theorem dX0_keep_23 : decode cX0_keep 23 = .ok (.getfield 18, 3) := by decide +kernel
theorem dX0_keep_26 : decode cX0_keep 26 = .ok (.iconst 1, 1) := by decide +kernel
theorem dX0_keep_27 : decode cX0_keep 27 = .ok (.iadd, 1) := by decide +kernel
theorem dX0_keep_28 : decode cX0_keep 28 = .ok (.bipush 6, 2) := by decide +kernel
theorem dX0_keep_30 : decode cX0_keep 30 = .ok (.irem, 1) := by decide +kernel
theorem dX0_keep_31 : decode cX0_keep 31 = .ok (.putfield 18, 3) := by decide +kernel
theorem dX0_keep_34 : decode cX0_keep 34 = .ok (.return_, 1) := by decide +kernel
set_option maxRecDepth 20000 in
theorem ggX0_restoreLatest_X0_takeBack : GoodIn wsX0_restoreLatest wsX0_takeBack := goodIn_r _ [6, 7, 8, 9, 10, 5, 11, 12, 1, 13, 14, 15, 16, 17, 18, 19, 20, 21, 22, 23, 24, 25, 26, 27, 28, 29, 30, 31, 32, 33, 34] (by decide +kernel) (by decide +kernel)
set_option maxRecDepth 20000 in
theorem gX0_restoreLatest_X0_takeBack : GoodIn wsX0_restoreLatest (wsV RX0 33 RX0 yX0_takeBack wsX0_takeBack) := goodIn_app (goodIn_of _ (by decide +kernel)) ggX0_restoreLatest_X0_takeBack
theorem dX0_restoreLatest_0 : decode cX0_restoreLatest 0 = .ok (.aload_n 0, 1) := by decide +kernel
theorem dX0_restoreLatest_1 : decode cX0_restoreLatest 1 = .ok (.getfield 22, 3) := by decide +kernel
theorem dX0_restoreLatest_4 : decode cX0_restoreLatest 4 = .ok (.ifCond .ne 6, 3) := by decide +kernel
theorem dX0_restoreLatest_7 : decode cX0_restoreLatest 7 = .ok (.bipush (-2), 2) := by decide +kernel
theorem dX0_restoreLatest_9 : decode cX0_restoreLatest 9 = .ok (.ireturn, 1) := by decide +kernel
theorem dX0_restoreLatest_10 : decode cX0_restoreLatest 10 = .ok (.aload_n 0, 1) := by decide +kernel
theorem dX0_restoreLatest_11 : decode cX0_restoreLatest 11 = .ok (.dup, 1) := by decide +kernel
theorem dX0_restoreLatest_12 : decode cX0_restoreLatest 12 = .ok (.getfield 22, 3) := by decide +kernel
theorem dX0_restoreLatest_15 : decode cX0_restoreLatest 15 = .ok (.iconst 1, 1) := by decide +kernel
theorem dX0_restoreLatest_16 : decode cX0_restoreLatest 16 = .ok (.isub, 1) := by decide +kernel
theorem dX0_restoreLatest_17 : decode cX0_restoreLatest 17 = .ok (.putfield 22, 3) := by decide +kernel
theorem dX0_restoreLatest_20 : decode cX0_restoreLatest 20 = .ok (.aload_n 0, 1) := by decide +kernel
theorem dX0_restoreLatest_21 : decode cX0_restoreLatest 21 = .ok (.aload_n 1, 1) := by decide +kernel
theorem dX0_restoreLatest_22 : decode cX0_restoreLatest 22 = .ok (.invokevirtual 33, 3) := by decide +kernel
theorem dX0_restoreLatest_25 : decode cX0_restoreLatest 25 = .ok (.aload_n 0, 1) := by decide +kernel
theorem dX0_restoreLatest_26 : decode cX0_restoreLatest 26 = .ok (.getfield 22, 3) := by decide +kernel
theorem dX0_restoreLatest_29 : decode cX0_restoreLatest 29 = .ok (.ireturn, 1) := by decide +kernel
theorem dX0_behindLatest_0 : decode cX0_behindLatest 0 = .ok (.aload_n 0, 1) := by decide +kernel
theorem dX0_behindLatest_1 : decode cX0_behindLatest 1 = .ok (.getfield 18, 3) := by decide +kernel
theorem dX0_behindLatest_4 : decode cX0_behindLatest 4 = .ok (.aload_n 0, 1) := by decide +kernel
theorem dX0_behindLatest_5 : decode cX0_behindLatest 5 = .ok (.getfield 22, 3) := by decide +kernel
theorem dX0_behindLatest_8 : decode cX0_behindLatest 8 = .ok (.iadd, 1) := by decide +kernel
theorem dX0_behindLatest_9 : decode cX0_behindLatest 9 = .ok (.bipush 6, 2) := by decide +kernel
theorem dX0_behindLatest_11 : decode cX0_behindLatest 11 = .ok (.irem, 1) := by decide +kernel
theorem dX0_behindLatest_12 : decode cX0_behindLatest 12 = .ok (.ireturn, 1) := by decide +kernel
theorem dX1_init_0 : decode cX1_init 0 = .ok (.aload_n 0, 1) := by decide +kernel
theorem dX1_init_1 : decode cX1_init 1 = .ok (.invokespecial 3, 3) := by decide +kernel
theorem dX1_init_4 : decode cX1_init 4 = .ok (.aload_n 0, 1) := by decide +kernel
theorem dX1_init_5 : decode cX1_init 5 = .ok (.iconst 0, 1) := by decide +kernel
theorem dX1_init_6 : decode cX1_init 6 = .ok (.putfield 11, 3) := by decide +kernel
theorem dX1_init_9 : decode cX1_init 9 = .ok (.return_, 1) := by decide +kernel
set_option maxRecDepth 20000 in
theorem ggX1_execute_X1_readCharacter : GoodIn wsX1_execute wsX1_readCharacter := goodIn_r _ [7, 1, 8, 9, 10, 6, 11, 2, 12, 13, 14, 15, 16, 17, 18, 19, 20, 21, 22, 23, 24, 25, 26, 27, 137, 138, 139, 140, 141, 142] (by decide +kernel) (by decide +kernel)
set_option maxRecDepth 20000 in
theorem gX1_execute_X1_readCharacter : GoodIn wsX1_execute (wsV RX1 15 RX1 yX1_readCharacter wsX1_readCharacter) := goodIn_app (goodIn_of _ (by decide +kernel)) ggX1_execute_X1_readCharacter
set_option maxRecDepth 20000 in
theorem ggX1_execute_X1_perform : GoodIn wsX1_execute wsX1_perform := goodIn_r _ [31, 1, 14, 13, 12, 23, 32, 33, 34, 35, 36, 37, 38, 39, 40, 41, 42, 43, 44, 45, 46, 47, 48, 49, 50, 51, 52, 53, 54, 55, 56, 57, 58, 59, 60, 61, 62, 63, 64, 65, 66, 67, 68, 69, 70, 71, 72, 73, 74, 75, 76, 77, 78, 79, 80, 81, 82, 83, 84, 85, 86, 87, 88, 89, 90, 91, 92, 93, 94, 95, 96, 97, 98, 99, 100, 101, 102, 103, 104, 105, 106, 107, 108, 109, 110, 111, 112, 113, 114, 115, 116, 117, 118, 119, 120, 121, 122, 123, 124, 125, 126, 127, 128, 129, 130, 131, 132, 133, 134, 135, 136, 137, 138, 139, 140, 141, 142, 143, 144, 145, 146, 147] (by decide +kernel) (by decide +kernel)
set_option maxRecDepth 20000 in
theorem gX1_execute_X1_perform : GoodIn wsX1_execute (wsV RX1 19 RX1 yX1_perform wsX1_perform) := goodIn_app (goodIn_of _ (by decide +kernel)) ggX1_execute_X1_perform
theorem dX1_execute_0 : decode cX1_execute 0 = .ok (.iconst 0, 1) := by decide +kernel
theorem dX1_execute_1 : decode cX1_execute 1 = .ok (.istore 4, 2) := by decide +kernel
theorem dX1_execute_3 : decode cX1_execute 3 = .ok (.aload_n 0, 1) := by decide +kernel
theorem dX1_execute_4 : decode cX1_execute 4 = .ok (.iconst 0, 1) := by decide +kernel
theorem dX1_execute_5 : decode cX1_execute 5 = .ok (.putfield 11, 3) := by decide +kernel
theorem dX1_execute_8 : decode cX1_execute 8 = .ok (.iconst 0, 1) := by decide +kernel
theorem dX1_execute_9 : decode cX1_execute 9 = .ok (.istore 5, 2) := by decide +kernel
theorem dX1_execute_11 : decode cX1_execute 11 = .ok (.iload 5, 2) := by decide +kernel
theorem dX1_execute_13 : decode cX1_execute 13 = .ok (.iload_n 2, 1) := by decide +kernel
theorem dX1_execute_14 : decode cX1_execute 14 = .ok (.if_icmp .ge 65, 3) := by decide +kernel
theorem dX1_execute_17 : decode cX1_execute 17 = .ok (.aload_n 1, 1) := by decide +kernel
theorem dX1_execute_18 : decode cX1_execute 18 = .ok (.iload 5, 2) := by decide +kernel
theorem dX1_execute_20 : decode cX1_execute 20 = .ok (.caload, 1) := by decide +kernel
theorem dX1_execute_21 : decode cX1_execute 21 = .ok (.istore 6, 2) := by decide +kernel
theorem dX1_execute_23 : decode cX1_execute 23 = .ok (.aload_n 0, 1) := by decide +kernel
theorem dX1_execute_24 : decode cX1_execute 24 = .ok (.iload 6, 2) := by decide +kernel
theorem dX1_execute_26 : decode cX1_execute 26 = .ok (.iload 5, 2) := by decide +kernel
theorem dX1_execute_28 : decode cX1_execute 28 = .ok (.invokevirtual 15, 3) := by decide +kernel
theorem dX1_execute_31 : decode cX1_execute 31 = .ok (.ifCond .ne 10, 3) := by decide +kernel
theorem dX1_execute_34 : decode cX1_execute 34 = .ok (.sipush (-1000), 3) := by decide +kernel
theorem dX1_execute_37 : decode cX1_execute 37 = .ok (.iload 5, 2) := by decide +kernel
theorem dX1_execute_39 : decode cX1_execute 39 = .ok (.isub, 1) := by decide +kernel
theorem dX1_execute_40 : decode cX1_execute 40 = .ok (.ireturn, 1) := by decide +kernel
theorem dX1_execute_41 : decode cX1_execute 41 = .ok (.iload 6, 2) := by decide +kernel
theorem dX1_execute_43 : decode cX1_execute 43 = .ok (.bipush 59, 2) := by decide +kernel
theorem dX1_execute_45 : decode cX1_execute 45 = .ok (.if_icmp .ne 28, 3) := by decide +kernel
theorem dX1_execute_48 : decode cX1_execute 48 = .ok (.aload_n 0, 1) := by decide +kernel
theorem dX1_execute_49 : decode cX1_execute 49 = .ok (.aload_n 3, 1) := by decide +kernel
theorem dX1_execute_50 : decode cX1_execute 50 = .ok (.invokevirtual 19, 3) := by decide +kernel
theorem dX1_execute_53 : decode cX1_execute 53 = .ok (.ifCond .ge 12, 3) := by decide +kernel
theorem dX1_execute_56 : decode cX1_execute 56 = .ok (.sipush (-1000), 3) := by decide +kernel
theorem dX1_execute_59 : decode cX1_execute 59 = .ok (.aload_n 0, 1) := by decide +kernel
theorem dX1_execute_60 : decode cX1_execute 60 = .ok (.getfield 23, 3) := by decide +kernel
theorem dX1_execute_63 : decode cX1_execute 63 = .ok (.isub, 1) := by decide +kernel
theorem dX1_execute_64 : decode cX1_execute 64 = .ok (.ireturn, 1) := by decide +kernel
theorem dX1_execute_65 : decode cX1_execute 65 = .ok (.iinc 4 1, 3) := by decide +kernel
theorem dX1_execute_68 : decode cX1_execute 68 = .ok (.aload_n 0, 1) := by decide +kernel
theorem dX1_execute_69 : decode cX1_execute 69 = .ok (.iconst 0, 1) := by decide +kernel
theorem dX1_execute_70 : decode cX1_execute 70 = .ok (.putfield 11, 3) := by decide +kernel
theorem dX1_execute_73 : decode cX1_execute 73 = .ok (.iinc 5 1, 3) := by decide +kernel
theorem dX1_execute_76 : decode cX1_execute 76 = .ok (.goto (-65), 3) := by decide +kernel
theorem dX1_execute_79 : decode cX1_execute 79 = .ok (.aload_n 0, 1) := by decide +kernel
theorem dX1_execute_80 : decode cX1_execute 80 = .ok (.getfield 11, 3) := by decide +kernel
theorem dX1_execute_83 : decode cX1_execute 83 = .ok (.ifCond .ne 8, 3) := by decide +kernel
theorem dX1_execute_86 : decode cX1_execute 86 = .ok (.iload 4, 2) := by decide +kernel
theorem dX1_execute_88 : decode cX1_execute 88 = .ok (.goto 8, 3) := by decide +kernel
theorem dX1_execute_91 : decode cX1_execute 91 = .ok (.sipush (-1000), 3) := by decide +kernel
theorem dX1_execute_94 : decode cX1_execute 94 = .ok (.iload_n 2, 1) := by decide +kernel
theorem dX1_execute_95 : decode cX1_execute 95 = .ok (.isub, 1) := by decide +kernel
theorem dX1_execute_96 : decode cX1_execute 96 = .ok (.ireturn, 1) := by decide +kernel
set_option maxRecDepth 20000 in
theorem ggX1_readCharacter_X1_readLetter : GoodIn wsX1_readCharacter wsX1_readLetter := goodIn_r _ [6, 1, 7, 8, 9, 10, 24, 25, 26, 27, 28, 29] (by decide +kernel) (by decide +kernel)
set_option maxRecDepth 20000 in
theorem gX1_readCharacter_X1_readLetter : GoodIn wsX1_readCharacter (wsV RX1 27 RX1 yX1_readLetter wsX1_readLetter) := goodIn_app (goodIn_of _ (by decide +kernel)) ggX1_readCharacter_X1_readLetter
set_option maxRecDepth 20000 in
theorem ggX1_readCharacter_X1_readDigit : GoodIn wsX1_readCharacter wsX1_readDigit := goodIn_r _ [14, 10, 9, 1, 24, 25, 26, 27, 28, 29] (by decide +kernel) (by decide +kernel)
set_option maxRecDepth 20000 in
theorem gX1_readCharacter_X1_readDigit : GoodIn wsX1_readCharacter (wsV RX1 30 RX1 yX1_readDigit wsX1_readDigit) := goodIn_app (goodIn_of _ (by decide +kernel)) ggX1_readCharacter_X1_readDigit
set_option maxRecDepth 20000 in
theorem ggX1_readCharacter_X1_readDash : GoodIn wsX1_readCharacter wsX1_readDash := goodIn_r _ [18, 1, 8, 10, 9, 19, 24, 25, 26, 27, 28, 29] (by decide +kernel) (by decide +kernel)
set_option maxRecDepth 20000 in
theorem gX1_readCharacter_X1_readDash : GoodIn wsX1_readCharacter (wsV RX1 34 RX1 yX1_readDash wsX1_readDash) := goodIn_app (goodIn_of _ (by decide +kernel)) ggX1_readCharacter_X1_readDash
set_option maxRecDepth 20000 in
theorem ggX1_readCharacter_X1_mayEnd : GoodIn wsX1_readCharacter wsX1_mayEnd := goodIn_r _ [23, 10, 1, 24, 25, 26, 27, 28, 29] (by decide +kernel) (by decide +kernel)
set_option maxRecDepth 20000 in
theorem gX1_readCharacter_X1_mayEnd : GoodIn wsX1_readCharacter (wsV RX1 38 RX1 yX1_mayEnd wsX1_mayEnd) := goodIn_app (goodIn_of _ (by decide +kernel)) ggX1_readCharacter_X1_mayEnd
theorem dX1_readCharacter_0 : decode cX1_readCharacter 0 = .ok (.aload_n 0, 1) := by decide +kernel
theorem dX1_readCharacter_1 : decode cX1_readCharacter 1 = .ok (.getfield 11, 3) := by decide +kernel
theorem dX1_readCharacter_4 : decode cX1_readCharacter 4 = .ok (.ifCond .ne 10, 3) := by decide +kernel
theorem dX1_readCharacter_7 : decode cX1_readCharacter 7 = .ok (.aload_n 0, 1) := by decide +kernel
theorem dX1_readCharacter_8 : decode cX1_readCharacter 8 = .ok (.iload_n 1, 1) := by decide +kernel
theorem dX1_readCharacter_9 : decode cX1_readCharacter 9 = .ok (.iload_n 2, 1) := by decide +kernel
theorem dX1_readCharacter_10 : decode cX1_readCharacter 10 = .ok (.invokevirtual 27, 3) := by decide +kernel
theorem dX1_readCharacter_13 : decode cX1_readCharacter 13 = .ok (.ireturn, 1) := by decide +kernel
theorem dX1_readCharacter_14 : decode cX1_readCharacter 14 = .ok (.iload_n 1, 1) := by decide +kernel
theorem dX1_readCharacter_15 : decode cX1_readCharacter 15 = .ok (.bipush 48, 2) := by decide +kernel
theorem dX1_readCharacter_17 : decode cX1_readCharacter 17 = .ok (.if_icmp .lt 18, 3) := by decide +kernel
theorem dX1_readCharacter_20 : decode cX1_readCharacter 20 = .ok (.iload_n 1, 1) := by decide +kernel
theorem dX1_readCharacter_21 : decode cX1_readCharacter 21 = .ok (.bipush 57, 2) := by decide +kernel
theorem dX1_readCharacter_23 : decode cX1_readCharacter 23 = .ok (.if_icmp .gt 12, 3) := by decide +kernel
theorem dX1_readCharacter_26 : decode cX1_readCharacter 26 = .ok (.aload_n 0, 1) := by decide +kernel
theorem dX1_readCharacter_27 : decode cX1_readCharacter 27 = .ok (.iload_n 1, 1) := by decide +kernel
theorem dX1_readCharacter_28 : decode cX1_readCharacter 28 = .ok (.bipush 48, 2) := by decide +kernel
theorem dX1_readCharacter_30 : decode cX1_readCharacter 30 = .ok (.isub, 1) := by decide +kernel
theorem dX1_readCharacter_31 : decode cX1_readCharacter 31 = .ok (.invokevirtual 30, 3) := by decide +kernel
theorem dX1_readCharacter_34 : decode cX1_readCharacter 34 = .ok (.ireturn, 1) := by decide +kernel
theorem dX1_readCharacter_35 : decode cX1_readCharacter 35 = .ok (.iload_n 1, 1) := by decide +kernel
theorem dX1_readCharacter_36 : decode cX1_readCharacter 36 = .ok (.bipush 45, 2) := by decide +kernel
theorem dX1_readCharacter_38 : decode cX1_readCharacter 38 = .ok (.if_icmp .ne 8, 3) := by decide +kernel
theorem dX1_readCharacter_41 : decode cX1_readCharacter 41 = .ok (.aload_n 0, 1) := by decide +kernel
theorem dX1_readCharacter_42 : decode cX1_readCharacter 42 = .ok (.invokevirtual 34, 3) := by decide +kernel
theorem dX1_readCharacter_45 : decode cX1_readCharacter 45 = .ok (.ireturn, 1) := by decide +kernel
theorem dX1_readCharacter_46 : decode cX1_readCharacter 46 = .ok (.iload_n 1, 1) := by decide +kernel
theorem dX1_readCharacter_47 : decode cX1_readCharacter 47 = .ok (.bipush 59, 2) := by decide +kernel
theorem dX1_readCharacter_49 : decode cX1_readCharacter 49 = .ok (.if_icmp .ne 14, 3) := by decide +kernel
theorem dX1_readCharacter_52 : decode cX1_readCharacter 52 = .ok (.aload_n 0, 1) := by decide +kernel
theorem dX1_readCharacter_53 : decode cX1_readCharacter 53 = .ok (.invokevirtual 38, 3) := by decide +kernel
theorem dX1_readCharacter_56 : decode cX1_readCharacter 56 = .ok (.ifCond .eq 7, 3) := by decide +kernel
theorem dX1_readCharacter_59 : decode cX1_readCharacter 59 = .ok (.iconst 1, 1) := by decide +kernel
theorem dX1_readCharacter_60 : decode cX1_readCharacter 60 = .ok (.goto 4, 3) := by decide +kernel
theorem dX1_readCharacter_63 : decode cX1_readCharacter 63 = .ok (.iconst 0, 1) := by decide +kernel
theorem dX1_readCharacter_64 : decode cX1_readCharacter 64 = .ok (.ireturn, 1) := by decide +kernel
theorem dX1_readLetter_0 : decode cX1_readLetter 0 = .ok (.iload_n 1, 1) := by decide +kernel
theorem dX1_readLetter_1 : decode cX1_readLetter 1 = .ok (.tableswitch 122 97 116 #[95, 95, 95, 95, 122, 95, 122, 122, 122, 122, 122, 122, 122, 122, 122, 122, 122, 95, 122, 95], 95) := by decide +kernel
theorem dX1_readLetter_96 : decode cX1_readLetter 96 = .ok (.aload_n 0, 1) := by decide +kernel
theorem dX1_readLetter_97 : decode cX1_readLetter 97 = .ok (.iload_n 1, 1) := by decide +kernel
theorem dX1_readLetter_98 : decode cX1_readLetter 98 = .ok (.putfield 11, 3) := by decide +kernel
theorem dX1_readLetter_101 : decode cX1_readLetter 101 = .ok (.aload_n 0, 1) := by decide +kernel
theorem dX1_readLetter_102 : decode cX1_readLetter 102 = .ok (.iload_n 2, 1) := by decide +kernel
theorem dX1_readLetter_103 : decode cX1_readLetter 103 = .ok (.putfield 23, 3) := by decide +kernel
theorem dX1_readLetter_106 : decode cX1_readLetter 106 = .ok (.aload_n 0, 1) := by decide +kernel
theorem dX1_readLetter_107 : decode cX1_readLetter 107 = .ok (.iconst 0, 1) := by decide +kernel
theorem dX1_readLetter_108 : decode cX1_readLetter 108 = .ok (.putfield 41, 3) := by decide +kernel
theorem dX1_readLetter_111 : decode cX1_readLetter 111 = .ok (.aload_n 0, 1) := by decide +kernel
theorem dX1_readLetter_112 : decode cX1_readLetter 112 = .ok (.iconst 0, 1) := by decide +kernel
theorem dX1_readLetter_113 : decode cX1_readLetter 113 = .ok (.putfield 45, 3) := by decide +kernel
theorem dX1_readLetter_116 : decode cX1_readLetter 116 = .ok (.aload_n 0, 1) := by decide +kernel
theorem dX1_readLetter_117 : decode cX1_readLetter 117 = .ok (.iconst 0, 1) := by decide +kernel
theorem dX1_readLetter_118 : decode cX1_readLetter 118 = .ok (.putfield 48, 3) := by decide +kernel
theorem dX1_readLetter_121 : decode cX1_readLetter 121 = .ok (.iconst 1, 1) := by decide +kernel
theorem dX1_readLetter_122 : decode cX1_readLetter 122 = .ok (.ireturn, 1) := by decide +kernel
theorem dX1_readLetter_123 : decode cX1_readLetter 123 = .ok (.iconst 0, 1) := by decide +kernel
theorem dX1_readLetter_124 : decode cX1_readLetter 124 = .ok (.ireturn, 1) := by decide +kernel
theorem dX1_readDigit_0 : decode cX1_readDigit 0 = .ok (.aload_n 0, 1) := by decide +kernel
theorem dX1_readDigit_1 : decode cX1_readDigit 1 = .ok (.getfield 48, 3) := by decide +kernel
theorem dX1_readDigit_4 : decode cX1_readDigit 4 = .ok (.iconst 1, 1) := by decide +kernel
theorem dX1_readDigit_5 : decode cX1_readDigit 5 = .ok (.if_icmp .ne 14, 3) := by decide +kernel
theorem dX1_readDigit_8 : decode cX1_readDigit 8 = .ok (.aload_n 0, 1) := by decide +kernel
theorem dX1_readDigit_9 : decode cX1_readDigit 9 = .ok (.getfield 45, 3) := by decide +kernel
theorem dX1_readDigit_12 : decode cX1_readDigit 12 = .ok (.ifCond .ne 7, 3) := by decide +kernel
theorem dX1_readDigit_15 : decode cX1_readDigit 15 = .ok (.iconst 1, 1) := by decide +kernel
theorem dX1_readDigit_16 : decode cX1_readDigit 16 = .ok (.goto 4, 3) := by decide +kernel
theorem dX1_readDigit_19 : decode cX1_readDigit 19 = .ok (.iconst 0, 1) := by decide +kernel
theorem dX1_readDigit_20 : decode cX1_readDigit 20 = .ok (.istore_n 2, 1) := by decide +kernel
theorem dX1_readDigit_21 : decode cX1_readDigit 21 = .ok (.aload_n 0, 1) := by decide +kernel
theorem dX1_readDigit_22 : decode cX1_readDigit 22 = .ok (.getfield 11, 3) := by decide +kernel
theorem dX1_readDigit_25 : decode cX1_readDigit 25 = .ok (.bipush 97, 2) := by decide +kernel
theorem dX1_readDigit_27 : decode cX1_readDigit 27 = .ok (.if_icmp .eq 15, 3) := by decide +kernel
theorem dX1_readDigit_30 : decode cX1_readDigit 30 = .ok (.aload_n 0, 1) := by decide +kernel
theorem dX1_readDigit_31 : decode cX1_readDigit 31 = .ok (.getfield 48, 3) := by decide +kernel
theorem dX1_readDigit_34 : decode cX1_readDigit 34 = .ok (.iconst 3, 1) := by decide +kernel
theorem dX1_readDigit_35 : decode cX1_readDigit 35 = .ok (.if_icmp .eq 7, 3) := by decide +kernel
theorem dX1_readDigit_38 : decode cX1_readDigit 38 = .ok (.iload_n 2, 1) := by decide +kernel
theorem dX1_readDigit_39 : decode cX1_readDigit 39 = .ok (.ifCond .eq 5, 3) := by decide +kernel
theorem dX1_readDigit_42 : decode cX1_readDigit 42 = .ok (.iconst 0, 1) := by decide +kernel
theorem dX1_readDigit_43 : decode cX1_readDigit 43 = .ok (.ireturn, 1) := by decide +kernel
theorem dX1_readDigit_44 : decode cX1_readDigit 44 = .ok (.aload_n 0, 1) := by decide +kernel
theorem dX1_readDigit_45 : decode cX1_readDigit 45 = .ok (.aload_n 0, 1) := by decide +kernel
theorem dX1_readDigit_46 : decode cX1_readDigit 46 = .ok (.getfield 45, 3) := by decide +kernel
theorem dX1_readDigit_49 : decode cX1_readDigit 49 = .ok (.bipush 10, 2) := by decide +kernel
theorem dX1_readDigit_51 : decode cX1_readDigit 51 = .ok (.imul, 1) := by decide +kernel
theorem dX1_readDigit_52 : decode cX1_readDigit 52 = .ok (.iload_n 1, 1) := by decide +kernel
theorem dX1_readDigit_53 : decode cX1_readDigit 53 = .ok (.iadd, 1) := by decide +kernel
theorem dX1_readDigit_54 : decode cX1_readDigit 54 = .ok (.putfield 45, 3) := by decide +kernel
theorem dX1_readDigit_57 : decode cX1_readDigit 57 = .ok (.aload_n 0, 1) := by decide +kernel
theorem dX1_readDigit_58 : decode cX1_readDigit 58 = .ok (.dup, 1) := by decide +kernel
theorem dX1_readDigit_59 : decode cX1_readDigit 59 = .ok (.getfield 48, 3) := by decide +kernel
theorem dX1_readDigit_62 : decode cX1_readDigit 62 = .ok (.iconst 1, 1) := by decide +kernel
theorem dX1_readDigit_63 : decode cX1_readDigit 63 = .ok (.iadd, 1) := by decide +kernel
theorem dX1_readDigit_64 : decode cX1_readDigit 64 = .ok (.putfield 48, 3) := by decide +kernel
theorem dX1_readDigit_67 : decode cX1_readDigit 67 = .ok (.iconst 1, 1) := by decide +kernel
theorem dX1_readDigit_68 : decode cX1_readDigit 68 = .ok (.ireturn, 1) := by decide +kernel
theorem dX1_readDash_0 : decode cX1_readDash 0 = .ok (.aload_n 0, 1) := by decide +kernel
theorem dX1_readDash_1 : decode cX1_readDash 1 = .ok (.getfield 11, 3) := by decide +kernel
theorem dX1_readDash_4 : decode cX1_readDash 4 = .ok (.bipush 102, 2) := by decide +kernel
theorem dX1_readDash_6 : decode cX1_readDash 6 = .ok (.if_icmp .ne 17, 3) := by decide +kernel
theorem dX1_readDash_9 : decode cX1_readDash 9 = .ok (.aload_n 0, 1) := by decide +kernel
theorem dX1_readDash_10 : decode cX1_readDash 10 = .ok (.getfield 41, 3) := by decide +kernel
theorem dX1_readDash_13 : decode cX1_readDash 13 = .ok (.ifCond .ne 10, 3) := by decide +kernel
theorem dX1_readDash_16 : decode cX1_readDash 16 = .ok (.aload_n 0, 1) := by decide +kernel
theorem dX1_readDash_17 : decode cX1_readDash 17 = .ok (.getfield 48, 3) := by decide +kernel
theorem dX1_readDash_20 : decode cX1_readDash 20 = .ok (.ifCond .ne 5, 3) := by decide +kernel
theorem dX1_readDash_23 : decode cX1_readDash 23 = .ok (.iconst 0, 1) := by decide +kernel
theorem dX1_readDash_24 : decode cX1_readDash 24 = .ok (.ireturn, 1) := by decide +kernel
theorem dX1_readDash_25 : decode cX1_readDash 25 = .ok (.aload_n 0, 1) := by decide +kernel
theorem dX1_readDash_26 : decode cX1_readDash 26 = .ok (.iconst 1, 1) := by decide +kernel
theorem dX1_readDash_27 : decode cX1_readDash 27 = .ok (.putfield 41, 3) := by decide +kernel
theorem dX1_readDash_30 : decode cX1_readDash 30 = .ok (.aload_n 0, 1) := by decide +kernel
theorem dX1_readDash_31 : decode cX1_readDash 31 = .ok (.aload_n 0, 1) := by decide +kernel
theorem dX1_readDash_32 : decode cX1_readDash 32 = .ok (.getfield 45, 3) := by decide +kernel
theorem dX1_readDash_35 : decode cX1_readDash 35 = .ok (.putfield 51, 3) := by decide +kernel
theorem dX1_readDash_38 : decode cX1_readDash 38 = .ok (.aload_n 0, 1) := by decide +kernel
theorem dX1_readDash_39 : decode cX1_readDash 39 = .ok (.iconst 0, 1) := by decide +kernel
theorem dX1_readDash_40 : decode cX1_readDash 40 = .ok (.putfield 45, 3) := by decide +kernel
theorem dX1_readDash_43 : decode cX1_readDash 43 = .ok (.aload_n 0, 1) := by decide +kernel
theorem dX1_readDash_44 : decode cX1_readDash 44 = .ok (.iconst 0, 1) := by decide +kernel
theorem dX1_readDash_45 : decode cX1_readDash 45 = .ok (.putfield 48, 3) := by decide +kernel
theorem dX1_readDash_48 : decode cX1_readDash 48 = .ok (.iconst 1, 1) := by decide +kernel
theorem dX1_readDash_49 : decode cX1_readDash 49 = .ok (.ireturn, 1) := by decide +kernel
theorem dX1_mayEnd_0 : decode cX1_mayEnd 0 = .ok (.aload_n 0, 1) := by decide +kernel
theorem dX1_mayEnd_1 : decode cX1_mayEnd 1 = .ok (.getfield 48, 3) := by decide +kernel
theorem dX1_mayEnd_4 : decode cX1_mayEnd 4 = .ok (.ifCond .gt 21, 3) := by decide +kernel
theorem dX1_mayEnd_7 : decode cX1_mayEnd 7 = .ok (.aload_n 0, 1) := by decide +kernel
theorem dX1_mayEnd_8 : decode cX1_mayEnd 8 = .ok (.getfield 11, 3) := by decide +kernel
theorem dX1_mayEnd_11 : decode cX1_mayEnd 11 = .ok (.bipush 116, 2) := by decide +kernel
theorem dX1_mayEnd_13 : decode cX1_mayEnd 13 = .ok (.if_icmp .eq 12, 3) := by decide +kernel
theorem dX1_mayEnd_16 : decode cX1_mayEnd 16 = .ok (.aload_n 0, 1) := by decide +kernel
theorem dX1_mayEnd_17 : decode cX1_mayEnd 17 = .ok (.getfield 11, 3) := by decide +kernel
theorem dX1_mayEnd_20 : decode cX1_mayEnd 20 = .ok (.bipush 97, 2) := by decide +kernel
theorem dX1_mayEnd_22 : decode cX1_mayEnd 22 = .ok (.if_icmp .ne 7, 3) := by decide +kernel
theorem dX1_mayEnd_25 : decode cX1_mayEnd 25 = .ok (.iconst 1, 1) := by decide +kernel
theorem dX1_mayEnd_26 : decode cX1_mayEnd 26 = .ok (.goto 4, 3) := by decide +kernel
theorem dX1_mayEnd_29 : decode cX1_mayEnd 29 = .ok (.iconst 0, 1) := by decide +kernel
theorem dX1_mayEnd_30 : decode cX1_mayEnd 30 = .ok (.ireturn, 1) := by decide +kernel
set_option maxRecDepth 20000 in
theorem ggX1_perform_X2_takeMany : GoodIn wsX1_perform wsX2_takeMany := goodIn_r _ [10, 11, 12, 13, 9, 14, 15, 16, 17, 18, 19, 20, 21, 22, 23, 24, 25, 26, 27, 28, 29, 30, 31, 32, 33, 34, 35, 36, 37, 38, 39, 40, 41, 42, 43, 44, 45, 46, 47, 48, 49, 50, 117, 118, 119, 120, 121] (by decide +kernel) (by decide +kernel)
set_option maxRecDepth 20000 in
theorem gX1_perform_X2_takeMany : GoodIn wsX1_perform (wsV RX1 54 RX2 yX2_takeMany wsX2_takeMany) := goodIn_app (goodIn_of _ (by decide +kernel)) ggX1_perform_X2_takeMany
set_option maxRecDepth 20000 in
theorem ggX1_perform_X2_giveBackRange : GoodIn wsX1_perform wsX2_giveBackRange := goodIn_r _ [54, 20, 55, 31, 56, 57, 58, 59, 60, 61, 62, 63, 64, 65, 66, 9, 67, 68, 69, 70, 71, 72, 73, 74, 75, 42, 43, 44, 45, 21, 26, 27, 28, 29, 50, 34, 35, 36, 37, 38, 39, 117, 118, 119, 120, 121] (by decide +kernel) (by decide +kernel)
set_option maxRecDepth 20000 in
theorem gX1_perform_X2_giveBackRange : GoodIn wsX1_perform (wsV RX1 60 RX2 yX2_giveBackRange wsX2_giveBackRange) := goodIn_app (goodIn_of _ (by decide +kernel)) ggX1_perform_X2_giveBackRange
set_option maxRecDepth 20000 in
theorem ggX1_perform_X2_clearWords : GoodIn wsX1_perform wsX2_clearWords := goodIn_r _ [49, 20, 42, 43, 44, 9, 45, 21, 26, 27, 28, 29, 50, 34, 35, 36, 37, 38, 39, 117, 118, 119, 120, 121] (by decide +kernel) (by decide +kernel)
set_option maxRecDepth 20000 in
theorem gX1_perform_X2_clearWords : GoodIn wsX1_perform (wsV RX1 64 RX2 yX2_clearWords wsX2_clearWords) := goodIn_app (goodIn_of _ (by decide +kernel)) ggX1_perform_X2_clearWords
set_option maxRecDepth 20000 in
theorem ggX1_perform_X2_reserveBlock : GoodIn wsX1_perform wsX2_reserveBlock := goodIn_r _ [80, 68, 75, 81, 31, 82, 83, 84, 85, 9, 86, 87, 88, 89, 90, 91, 92, 93, 94, 20, 69, 70, 55, 56, 57, 58, 59, 60, 61, 62, 63, 71, 72, 73, 74, 42, 43, 44, 45, 21, 26, 27, 28, 29, 117, 118, 119, 120, 121] (by decide +kernel) (by decide +kernel)
set_option maxRecDepth 20000 in
theorem gX1_perform_X2_reserveBlock : GoodIn wsX1_perform (wsV RX1 67 RX2 yX2_reserveBlock wsX2_reserveBlock) := goodIn_app (goodIn_of _ (by decide +kernel)) ggX1_perform_X2_reserveBlock
set_option maxRecDepth 20000 in
theorem ggX1_perform_X2_takeInBlock : GoodIn wsX1_perform wsX2_takeInBlock := goodIn_r _ [98, 68, 20, 87, 88, 89, 9, 90, 75, 69, 31, 70, 71, 72, 73, 74, 55, 56, 57, 58, 59, 60, 61, 62, 63, 30, 32, 33, 34, 35, 36, 37, 38, 39, 40, 41, 42, 43, 44, 45, 21, 26, 27, 28, 29, 117, 118, 119, 120, 121] (by decide +kernel) (by decide +kernel)
set_option maxRecDepth 20000 in
theorem gX1_perform_X2_takeInBlock : GoodIn wsX1_perform (wsV RX1 70 RX2 yX2_takeInBlock wsX2_takeInBlock) := goodIn_app (goodIn_of _ (by decide +kernel)) ggX1_perform_X2_takeInBlock
set_option maxRecDepth 20000 in
theorem ggX1_perform_X2_damageBit : GoodIn wsX1_perform wsX2_damageBit := goodIn_r _ [102, 21, 22, 23, 24, 9, 25, 117, 118, 119, 120, 121] (by decide +kernel) (by decide +kernel)
set_option maxRecDepth 20000 in
theorem gX1_perform_X2_damageBit : GoodIn wsX1_perform (wsV RX1 73 RX2 yX2_damageBit wsX2_damageBit) := goodIn_app (goodIn_of _ (by decide +kernel)) ggX1_perform_X2_damageBit
set_option maxRecDepth 20000 in
theorem ggX1_perform_X2_repairBits : GoodIn wsX1_perform wsX2_repairBits := goodIn_r _ [106, 21, 107, 108, 109, 9, 110, 26, 27, 28, 29, 20, 50, 34, 35, 36, 37, 38, 39, 117, 118, 119, 120, 121] (by decide +kernel) (by decide +kernel)
set_option maxRecDepth 20000 in
theorem gX1_perform_X2_repairBits : GoodIn wsX1_perform (wsV RX1 76 RX2 yX2_repairBits wsX2_repairBits) := goodIn_app (goodIn_of _ (by decide +kernel)) ggX1_perform_X2_repairBits
theorem dX1_perform_0 : decode cX1_perform 0 = .ok (.aload_n 0, 1) := by decide +kernel
theorem dX1_perform_1 : decode cX1_perform 1 = .ok (.getfield 11, 3) := by decide +kernel
theorem dX1_perform_4 : decode cX1_perform 4 = .ok (.tableswitch 175 98 116 #[157, 139, 166, 175, 112, 175, 175, 175, 175, 175, 175, 175, 175, 175, 175, 175, 148, 175, 92], 92) := by decide +kernel
theorem dX1_perform_96 : decode cX1_perform 96 = .ok (.aload_n 1, 1) := by decide +kernel
theorem dX1_perform_97 : decode cX1_perform 97 = .ok (.aload_n 0, 1) := by decide +kernel
theorem dX1_perform_98 : decode cX1_perform 98 = .ok (.getfield 48, 3) := by decide +kernel
theorem dX1_perform_101 : decode cX1_perform 101 = .ok (.ifCond .ne 7, 3) := by decide +kernel
theorem dX1_perform_104 : decode cX1_perform 104 = .ok (.iconst 1, 1) := by decide +kernel
theorem dX1_perform_105 : decode cX1_perform 105 = .ok (.goto 7, 3) := by decide +kernel
theorem dX1_perform_108 : decode cX1_perform 108 = .ok (.aload_n 0, 1) := by decide +kernel
theorem dX1_perform_109 : decode cX1_perform 109 = .ok (.getfield 45, 3) := by decide +kernel
theorem dX1_perform_112 : decode cX1_perform 112 = .ok (.invokevirtual 54, 3) := by decide +kernel
theorem dX1_perform_115 : decode cX1_perform 115 = .ok (.ireturn, 1) := by decide +kernel
theorem dX1_perform_116 : decode cX1_perform 116 = .ok (.aload_n 1, 1) := by decide +kernel
theorem dX1_perform_117 : decode cX1_perform 117 = .ok (.aload_n 0, 1) := by decide +kernel
theorem dX1_perform_118 : decode cX1_perform 118 = .ok (.getfield 41, 3) := by decide +kernel
theorem dX1_perform_121 : decode cX1_perform 121 = .ok (.ifCond .eq 10, 3) := by decide +kernel
theorem dX1_perform_124 : decode cX1_perform 124 = .ok (.aload_n 0, 1) := by decide +kernel
theorem dX1_perform_125 : decode cX1_perform 125 = .ok (.getfield 51, 3) := by decide +kernel
theorem dX1_perform_128 : decode cX1_perform 128 = .ok (.goto 7, 3) := by decide +kernel
theorem dX1_perform_131 : decode cX1_perform 131 = .ok (.aload_n 0, 1) := by decide +kernel
theorem dX1_perform_132 : decode cX1_perform 132 = .ok (.getfield 45, 3) := by decide +kernel
theorem dX1_perform_135 : decode cX1_perform 135 = .ok (.aload_n 0, 1) := by decide +kernel
theorem dX1_perform_136 : decode cX1_perform 136 = .ok (.getfield 45, 3) := by decide +kernel
theorem dX1_perform_139 : decode cX1_perform 139 = .ok (.invokevirtual 60, 3) := by decide +kernel
theorem dX1_perform_142 : decode cX1_perform 142 = .ok (.ireturn, 1) := by decide +kernel
theorem dX1_perform_143 : decode cX1_perform 143 = .ok (.aload_n 1, 1) := by decide +kernel
theorem dX1_perform_144 : decode cX1_perform 144 = .ok (.aload_n 0, 1) := by decide +kernel
theorem dX1_perform_145 : decode cX1_perform 145 = .ok (.getfield 45, 3) := by decide +kernel
theorem dX1_perform_148 : decode cX1_perform 148 = .ok (.invokevirtual 64, 3) := by decide +kernel
theorem dX1_perform_151 : decode cX1_perform 151 = .ok (.ireturn, 1) := by decide +kernel
theorem dX1_perform_152 : decode cX1_perform 152 = .ok (.aload_n 1, 1) := by decide +kernel
theorem dX1_perform_153 : decode cX1_perform 153 = .ok (.aload_n 0, 1) := by decide +kernel
theorem dX1_perform_154 : decode cX1_perform 154 = .ok (.getfield 45, 3) := by decide +kernel
theorem dX1_perform_157 : decode cX1_perform 157 = .ok (.invokevirtual 67, 3) := by decide +kernel
theorem dX1_perform_160 : decode cX1_perform 160 = .ok (.ireturn, 1) := by decide +kernel
theorem dX1_perform_161 : decode cX1_perform 161 = .ok (.aload_n 1, 1) := by decide +kernel
theorem dX1_perform_162 : decode cX1_perform 162 = .ok (.aload_n 0, 1) := by decide +kernel
theorem dX1_perform_163 : decode cX1_perform 163 = .ok (.getfield 45, 3) := by decide +kernel
theorem dX1_perform_166 : decode cX1_perform 166 = .ok (.invokevirtual 70, 3) := by decide +kernel
theorem dX1_perform_169 : decode cX1_perform 169 = .ok (.ireturn, 1) := by decide +kernel
theorem dX1_perform_170 : decode cX1_perform 170 = .ok (.aload_n 1, 1) := by decide +kernel
theorem dX1_perform_171 : decode cX1_perform 171 = .ok (.aload_n 0, 1) := by decide +kernel
theorem dX1_perform_172 : decode cX1_perform 172 = .ok (.getfield 45, 3) := by decide +kernel
theorem dX1_perform_175 : decode cX1_perform 175 = .ok (.invokevirtual 73, 3) := by decide +kernel
theorem dX1_perform_178 : decode cX1_perform 178 = .ok (.ireturn, 1) := by decide +kernel
theorem dX1_perform_179 : decode cX1_perform 179 = .ok (.aload_n 1, 1) := by decide +kernel
theorem dX1_perform_180 : decode cX1_perform 180 = .ok (.invokevirtual 76, 3) := by decide +kernel
theorem dX1_perform_183 : decode cX1_perform 183 = .ok (.ireturn, 1) := by decide +kernel
theorem dX2_init_0 : decode cX2_init 0 = .ok (.aload_n 0, 1) := by decide +kernel
theorem dX2_init_1 : decode cX2_init 1 = .ok (.invokespecial 3, 3) := by decide +kernel
theorem dX2_init_4 : decode cX2_init 4 = .ok (.aload_n 0, 1) := by decide +kernel
theorem dX2_init_5 : decode cX2_init 5 = .ok (.iconst 4, 1) := by decide +kernel
theorem dX2_init_6 : decode cX2_init 6 = .ok (.bipush 10, 2) := by decide +kernel
theorem dX2_init_8 : decode cX2_init 8 = .ok (.multianewarray 9 2, 4) := by decide +kernel
theorem dX2_init_12 : decode cX2_init 12 = .ok (.putfield 11, 3) := by decide +kernel
theorem dX2_init_15 : decode cX2_init 15 = .ok (.aload_n 0, 1) := by decide +kernel
theorem dX2_init_16 : decode cX2_init 16 = .ok (.bipush 8, 2) := by decide +kernel
theorem dX2_init_18 : decode cX2_init 18 = .ok (.newarray .int, 2) := by decide +kernel
theorem dX2_init_20 : decode cX2_init 20 = .ok (.putfield 16, 3) := by decide +kernel
theorem dX2_init_23 : decode cX2_init 23 = .ok (.aload_n 0, 1) := by decide +kernel
theorem dX2_init_24 : decode cX2_init 24 = .ok (.bipush 8, 2) := by decide +kernel
theorem dX2_init_26 : decode cX2_init 26 = .ok (.newarray .int, 2) := by decide +kernel
theorem dX2_init_28 : decode cX2_init 28 = .ok (.putfield 20, 3) := by decide +kernel
theorem dX2_init_31 : decode cX2_init 31 = .ok (.aload_n 0, 1) := by decide +kernel
theorem dX2_init_32 : decode cX2_init 32 = .ok (.iconst 0, 1) := by decide +kernel
theorem dX2_init_33 : decode cX2_init 33 = .ok (.putfield 23, 3) := by decide +kernel
theorem dX2_init_36 : decode cX2_init 36 = .ok (.aload_n 0, 1) := by decide +kernel
theorem dX2_init_37 : decode cX2_init 37 = .ok (.iconst 0, 1) := by decide +kernel
theorem dX2_init_38 : decode cX2_init 38 = .ok (.putfield 27, 3) := by decide +kernel
theorem dX2_init_41 : decode cX2_init 41 = .ok (.iconst 0, 1) := by decide +kernel
theorem dX2_init_42 : decode cX2_init 42 = .ok (.istore_n 1, 1) := by decide +kernel
theorem dX2_init_43 : decode cX2_init 43 = .ok (.iload_n 1, 1) := by decide +kernel
theorem dX2_init_44 : decode cX2_init 44 = .ok (.bipush 10, 2) := by decide +kernel
theorem dX2_init_46 : decode cX2_init 46 = .ok (.if_icmp .ge 18, 3) := by decide +kernel
theorem dX2_init_49 : decode cX2_init 49 = .ok (.aload_n 0, 1) := by decide +kernel
theorem dX2_init_50 : decode cX2_init 50 = .ok (.getfield 11, 3) := by decide +kernel
theorem dX2_init_53 : decode cX2_init 53 = .ok (.iconst 0, 1) := by decide +kernel
theorem dX2_init_54 : decode cX2_init 54 = .ok (.aaload, 1) := by decide +kernel
theorem dX2_init_55 : decode cX2_init 55 = .ok (.iload_n 1, 1) := by decide +kernel
theorem dX2_init_56 : decode cX2_init 56 = .ok (.iconst (-1), 1) := by decide +kernel
theorem dX2_init_57 : decode cX2_init 57 = .ok (.iastore, 1) := by decide +kernel
theorem dX2_init_58 : decode cX2_init 58 = .ok (.iinc 1 1, 3) := by decide +kernel
theorem dX2_init_61 : decode cX2_init 61 = .ok (.goto (-18), 3) := by decide +kernel
theorem dX2_init_64 : decode cX2_init 64 = .ok (.return_, 1) := by decide +kernel
theorem dX2_copyFrom_0 : decode cX2_copyFrom 0 = .ok (.iconst 0, 1) := by decide +kernel
theorem dX2_copyFrom_1 : decode cX2_copyFrom 1 = .ok (.istore_n 2, 1) := by decide +kernel
theorem dX2_copyFrom_2 : decode cX2_copyFrom 2 = .ok (.iload_n 2, 1) := by decide +kernel
theorem dX2_copyFrom_3 : decode cX2_copyFrom 3 = .ok (.iconst 4, 1) := by decide +kernel
theorem dX2_copyFrom_4 : decode cX2_copyFrom 4 = .ok (.if_icmp .ge 28, 3) := by decide +kernel
theorem dX2_copyFrom_7 : decode cX2_copyFrom 7 = .ok (.aload_n 1, 1) := by decide +kernel
theorem dX2_copyFrom_8 : decode cX2_copyFrom 8 = .ok (.getfield 11, 3) := by decide +kernel
theorem dX2_copyFrom_11 : decode cX2_copyFrom 11 = .ok (.iload_n 2, 1) := by decide +kernel
theorem dX2_copyFrom_12 : decode cX2_copyFrom 12 = .ok (.aaload, 1) := by decide +kernel
theorem dX2_copyFrom_13 : decode cX2_copyFrom 13 = .ok (.iconst 0, 1) := by decide +kernel
theorem dX2_copyFrom_14 : decode cX2_copyFrom 14 = .ok (.aload_n 0, 1) := by decide +kernel
theorem dX2_copyFrom_15 : decode cX2_copyFrom 15 = .ok (.getfield 11, 3) := by decide +kernel
theorem dX2_copyFrom_18 : decode cX2_copyFrom 18 = .ok (.iload_n 2, 1) := by decide +kernel
theorem dX2_copyFrom_19 : decode cX2_copyFrom 19 = .ok (.aaload, 1) := by decide +kernel
theorem dX2_copyFrom_20 : decode cX2_copyFrom 20 = .ok (.iconst 0, 1) := by decide +kernel
theorem dX2_copyFrom_21 : decode cX2_copyFrom 21 = .ok (.bipush 10, 2) := by decide +kernel
theorem dX2_copyFrom_23 : decode cX2_copyFrom 23 = .ok (.invokestatic 30, 3) := by decide +kernel
theorem dX2_copyFrom_26 : decode cX2_copyFrom 26 = .ok (.iinc 2 1, 3) := by decide +kernel
theorem dX2_copyFrom_29 : decode cX2_copyFrom 29 = .ok (.goto (-27), 3) := by decide +kernel
theorem dX2_copyFrom_32 : decode cX2_copyFrom 32 = .ok (.aload_n 1, 1) := by decide +kernel
theorem dX2_copyFrom_33 : decode cX2_copyFrom 33 = .ok (.getfield 16, 3) := by decide +kernel
theorem dX2_copyFrom_36 : decode cX2_copyFrom 36 = .ok (.iconst 0, 1) := by decide +kernel
theorem dX2_copyFrom_37 : decode cX2_copyFrom 37 = .ok (.aload_n 0, 1) := by decide +kernel
theorem dX2_copyFrom_38 : decode cX2_copyFrom 38 = .ok (.getfield 16, 3) := by decide +kernel
theorem dX2_copyFrom_41 : decode cX2_copyFrom 41 = .ok (.iconst 0, 1) := by decide +kernel
theorem dX2_copyFrom_42 : decode cX2_copyFrom 42 = .ok (.bipush 8, 2) := by decide +kernel
theorem dX2_copyFrom_44 : decode cX2_copyFrom 44 = .ok (.invokestatic 30, 3) := by decide +kernel
theorem dX2_copyFrom_47 : decode cX2_copyFrom 47 = .ok (.aload_n 1, 1) := by decide +kernel
theorem dX2_copyFrom_48 : decode cX2_copyFrom 48 = .ok (.getfield 20, 3) := by decide +kernel
theorem dX2_copyFrom_51 : decode cX2_copyFrom 51 = .ok (.iconst 0, 1) := by decide +kernel
theorem dX2_copyFrom_52 : decode cX2_copyFrom 52 = .ok (.aload_n 0, 1) := by decide +kernel
theorem dX2_copyFrom_53 : decode cX2_copyFrom 53 = .ok (.getfield 20, 3) := by decide +kernel
theorem dX2_copyFrom_56 : decode cX2_copyFrom 56 = .ok (.iconst 0, 1) := by decide +kernel
theorem dX2_copyFrom_57 : decode cX2_copyFrom 57 = .ok (.bipush 8, 2) := by decide +kernel
theorem dX2_copyFrom_59 : decode cX2_copyFrom 59 = .ok (.invokestatic 30, 3) := by decide +kernel
theorem dX2_copyFrom_62 : decode cX2_copyFrom 62 = .ok (.aload_n 0, 1) := by decide +kernel
theorem dX2_copyFrom_63 : decode cX2_copyFrom 63 = .ok (.aload_n 1, 1) := by decide +kernel
theorem dX2_copyFrom_64 : decode cX2_copyFrom 64 = .ok (.getfield 23, 3) := by decide +kernel
theorem dX2_copyFrom_67 : decode cX2_copyFrom 67 = .ok (.putfield 23, 3) := by decide +kernel
theorem dX2_copyFrom_70 : decode cX2_copyFrom 70 = .ok (.aload_n 0, 1) := by decide +kernel
theorem dX2_copyFrom_71 : decode cX2_copyFrom 71 = .ok (.aload_n 1, 1) := by decide +kernel
theorem dX2_copyFrom_72 : decode cX2_copyFrom 72 = .ok (.getfield 27, 3) := by decide +kernel
theorem dX2_copyFrom_75 : decode cX2_copyFrom 75 = .ok (.putfield 27, 3) := by decide +kernel
theorem dX2_copyFrom_78 : decode cX2_copyFrom 78 = .ok (.return_, 1) := by decide +kernel
set_option maxRecDepth 20000 in
theorem ggX2_takeOne_X2_takeBySummaries : GoodIn wsX2_takeOne wsX2_takeBySummaries := goodIn_r _ [5, 6, 7, 8, 9, 10, 11, 4, 12, 13, 14, 15, 16, 17, 18, 19, 20, 21, 22, 23, 24, 25, 26, 27, 28, 29, 30, 31, 32, 38, 39, 40, 41, 42] (by decide +kernel) (by decide +kernel)
set_option maxRecDepth 20000 in
theorem gX2_takeOne_X2_takeBySummaries : GoodIn wsX2_takeOne (wsV RX2 36 RX2 yX2_takeBySummaries wsX2_takeBySummaries) := goodIn_app (goodIn_of _ (by decide +kernel)) ggX2_takeOne_X2_takeBySummaries
set_option maxRecDepth 20000 in
theorem ggX2_takeOne_X2_clearWords : GoodIn wsX2_takeOne wsX2_clearWords := goodIn_r _ [36, 7, 29, 30, 31, 4, 32, 8, 13, 14, 15, 16, 37, 21, 22, 23, 24, 25, 26, 38, 39, 40, 41, 42] (by decide +kernel) (by decide +kernel)
set_option maxRecDepth 20000 in
theorem gX2_takeOne_X2_clearWords : GoodIn wsX2_takeOne (wsV RX2 40 RX2 yX2_clearWords wsX2_clearWords) := goodIn_app (goodIn_of _ (by decide +kernel)) ggX2_takeOne_X2_clearWords
theorem dX2_takeOne_0 : decode cX2_takeOne 0 = .ok (.aload_n 0, 1) := by decide +kernel
theorem dX2_takeOne_1 : decode cX2_takeOne 1 = .ok (.invokevirtual 36, 3) := by decide +kernel
theorem dX2_takeOne_4 : decode cX2_takeOne 4 = .ok (.istore_n 1, 1) := by decide +kernel
theorem dX2_takeOne_5 : decode cX2_takeOne 5 = .ok (.iload_n 1, 1) := by decide +kernel
theorem dX2_takeOne_6 : decode cX2_takeOne 6 = .ok (.bipush (-9), 2) := by decide +kernel
theorem dX2_takeOne_8 : decode cX2_takeOne 8 = .ok (.if_icmp .ne 17, 3) := by decide +kernel
theorem dX2_takeOne_11 : decode cX2_takeOne 11 = .ok (.aload_n 0, 1) := by decide +kernel
theorem dX2_takeOne_12 : decode cX2_takeOne 12 = .ok (.bipush 10, 2) := by decide +kernel
theorem dX2_takeOne_14 : decode cX2_takeOne 14 = .ok (.invokevirtual 40, 3) := by decide +kernel
theorem dX2_takeOne_17 : decode cX2_takeOne 17 = .ok (.ifCond .le 8, 3) := by decide +kernel
theorem dX2_takeOne_20 : decode cX2_takeOne 20 = .ok (.aload_n 0, 1) := by decide +kernel
theorem dX2_takeOne_21 : decode cX2_takeOne 21 = .ok (.invokevirtual 36, 3) := by decide +kernel
theorem dX2_takeOne_24 : decode cX2_takeOne 24 = .ok (.istore_n 1, 1) := by decide +kernel
theorem dX2_takeOne_25 : decode cX2_takeOne 25 = .ok (.iload_n 1, 1) := by decide +kernel
theorem dX2_takeOne_26 : decode cX2_takeOne 26 = .ok (.bipush (-9), 2) := by decide +kernel
theorem dX2_takeOne_28 : decode cX2_takeOne 28 = .ok (.if_icmp .ne 8, 3) := by decide +kernel
theorem dX2_takeOne_31 : decode cX2_takeOne 31 = .ok (.bipush (-3), 2) := by decide +kernel
theorem dX2_takeOne_33 : decode cX2_takeOne 33 = .ok (.goto 4, 3) := by decide +kernel
theorem dX2_takeOne_36 : decode cX2_takeOne 36 = .ok (.iload_n 1, 1) := by decide +kernel
theorem dX2_takeOne_37 : decode cX2_takeOne 37 = .ok (.ireturn, 1) := by decide +kernel
set_option maxRecDepth 20000 in
theorem ggX2_takeBySummaries_X2_summaryBit : GoodIn wsX2_takeBySummaries wsX2_summaryBit := goodIn_r _ [8, 3, 29, 30, 31, 32, 33] (by decide +kernel) (by decide +kernel)
set_option maxRecDepth 20000 in
theorem gX2_takeBySummaries_X2_summaryBit : GoodIn wsX2_takeBySummaries (wsV RX2 44 RX2 yX2_summaryBit wsX2_summaryBit) := goodIn_app (goodIn_of _ (by decide +kernel)) ggX2_takeBySummaries_X2_summaryBit
set_option maxRecDepth 20000 in
theorem ggX2_takeBySummaries_X2_isFull : GoodIn wsX2_takeBySummaries wsX2_isFull := goodIn_r _ [12, 2, 29, 30, 31, 32, 33] (by decide +kernel) (by decide +kernel)
set_option maxRecDepth 20000 in
theorem gX2_takeBySummaries_X2_isFull : GoodIn wsX2_takeBySummaries (wsV RX2 47 RX2 yX2_isFull wsX2_isFull) := goodIn_app (goodIn_of _ (by decide +kernel)) ggX2_takeBySummaries_X2_isFull
set_option maxRecDepth 20000 in
theorem ggX2_takeBySummaries_X3_lowestBit : GoodIn wsX2_takeBySummaries wsX3_lowestBit := goodIn_r _ [15, 16, 17, 18, 19, 20, 21, 22] (by decide +kernel) (by decide +kernel)
set_option maxRecDepth 20000 in
theorem gX2_takeBySummaries_X3_lowestBit_n51 : GoodIn wsX2_takeBySummaries (wsX3_lowestBit) := ggX2_takeBySummaries_X3_lowestBit
set_option maxRecDepth 20000 in
theorem ggX2_takeBySummaries_X3_bitOf : GoodIn wsX2_takeBySummaries wsX3_bitOf := goodIn_r _ [24] (by decide +kernel) (by decide +kernel)
set_option maxRecDepth 20000 in
theorem gX2_takeBySummaries_X3_bitOf_n54 : GoodIn wsX2_takeBySummaries (wsX3_bitOf) := ggX2_takeBySummaries_X3_bitOf
set_option maxRecDepth 20000 in
theorem ggX2_takeBySummaries_X2_change : GoodIn wsX2_takeBySummaries wsX2_change := goodIn_r _ [28, 2, 3, 9, 10, 11, 7, 12, 29, 30, 31, 32, 33] (by decide +kernel) (by decide +kernel)
set_option maxRecDepth 20000 in
theorem gX2_takeBySummaries_X2_change : GoodIn wsX2_takeBySummaries (wsV RX2 57 RX2 yX2_change wsX2_change) := goodIn_app (goodIn_of _ (by decide +kernel)) ggX2_takeBySummaries_X2_change
theorem dX2_takeBySummaries_0 : decode cX2_takeBySummaries 0 = .ok (.iconst 0, 1) := by decide +kernel
theorem dX2_takeBySummaries_1 : decode cX2_takeBySummaries 1 = .ok (.istore_n 1, 1) := by decide +kernel
theorem dX2_takeBySummaries_2 : decode cX2_takeBySummaries 2 = .ok (.iload_n 1, 1) := by decide +kernel
theorem dX2_takeBySummaries_3 : decode cX2_takeBySummaries 3 = .ok (.bipush 10, 2) := by decide +kernel
theorem dX2_takeBySummaries_5 : decode cX2_takeBySummaries 5 = .ok (.if_icmp .ge 77, 3) := by decide +kernel
theorem dX2_takeBySummaries_8 : decode cX2_takeBySummaries 8 = .ok (.aload_n 0, 1) := by decide +kernel
theorem dX2_takeBySummaries_9 : decode cX2_takeBySummaries 9 = .ok (.iload_n 1, 1) := by decide +kernel
theorem dX2_takeBySummaries_10 : decode cX2_takeBySummaries 10 = .ok (.invokevirtual 44, 3) := by decide +kernel
theorem dX2_takeBySummaries_13 : decode cX2_takeBySummaries 13 = .ok (.ifCond .ne 63, 3) := by decide +kernel
theorem dX2_takeBySummaries_16 : decode cX2_takeBySummaries 16 = .ok (.aload_n 0, 1) := by decide +kernel
theorem dX2_takeBySummaries_17 : decode cX2_takeBySummaries 17 = .ok (.dup, 1) := by decide +kernel
theorem dX2_takeBySummaries_18 : decode cX2_takeBySummaries 18 = .ok (.getfield 27, 3) := by decide +kernel
theorem dX2_takeBySummaries_21 : decode cX2_takeBySummaries 21 = .ok (.iconst 1, 1) := by decide +kernel
theorem dX2_takeBySummaries_22 : decode cX2_takeBySummaries 22 = .ok (.iadd, 1) := by decide +kernel
theorem dX2_takeBySummaries_23 : decode cX2_takeBySummaries 23 = .ok (.putfield 27, 3) := by decide +kernel
theorem dX2_takeBySummaries_26 : decode cX2_takeBySummaries 26 = .ok (.aload_n 0, 1) := by decide +kernel
theorem dX2_takeBySummaries_27 : decode cX2_takeBySummaries 27 = .ok (.iload_n 1, 1) := by decide +kernel
theorem dX2_takeBySummaries_28 : decode cX2_takeBySummaries 28 = .ok (.invokevirtual 47, 3) := by decide +kernel
theorem dX2_takeBySummaries_31 : decode cX2_takeBySummaries 31 = .ok (.ifCond .ne 33, 3) := by decide +kernel
theorem dX2_takeBySummaries_34 : decode cX2_takeBySummaries 34 = .ok (.iload_n 1, 1) := by decide +kernel
theorem dX2_takeBySummaries_35 : decode cX2_takeBySummaries 35 = .ok (.bipush 32, 2) := by decide +kernel
theorem dX2_takeBySummaries_37 : decode cX2_takeBySummaries 37 = .ok (.imul, 1) := by decide +kernel
theorem dX2_takeBySummaries_38 : decode cX2_takeBySummaries 38 = .ok (.aload_n 0, 1) := by decide +kernel
theorem dX2_takeBySummaries_39 : decode cX2_takeBySummaries 39 = .ok (.getfield 11, 3) := by decide +kernel
theorem dX2_takeBySummaries_42 : decode cX2_takeBySummaries 42 = .ok (.iconst 0, 1) := by decide +kernel
theorem dX2_takeBySummaries_43 : decode cX2_takeBySummaries 43 = .ok (.aaload, 1) := by decide +kernel
theorem dX2_takeBySummaries_44 : decode cX2_takeBySummaries 44 = .ok (.iload_n 1, 1) := by decide +kernel
theorem dX2_takeBySummaries_45 : decode cX2_takeBySummaries 45 = .ok (.iaload, 1) := by decide +kernel
theorem dX2_takeBySummaries_46 : decode cX2_takeBySummaries 46 = .ok (.invokestatic 51, 3) := by decide +kernel
theorem dX2_takeBySummaries_49 : decode cX2_takeBySummaries 49 = .ok (.iadd, 1) := by decide +kernel
theorem dX2_takeBySummaries_50 : decode cX2_takeBySummaries 50 = .ok (.istore_n 2, 1) := by decide +kernel
theorem dX2_takeBySummaries_51 : decode cX2_takeBySummaries 51 = .ok (.aload_n 0, 1) := by decide +kernel
theorem dX2_takeBySummaries_52 : decode cX2_takeBySummaries 52 = .ok (.iload_n 1, 1) := by decide +kernel
theorem dX2_takeBySummaries_53 : decode cX2_takeBySummaries 53 = .ok (.iload_n 2, 1) := by decide +kernel
theorem dX2_takeBySummaries_54 : decode cX2_takeBySummaries 54 = .ok (.invokestatic 54, 3) := by decide +kernel
theorem dX2_takeBySummaries_57 : decode cX2_takeBySummaries 57 = .ok (.iconst 0, 1) := by decide +kernel
theorem dX2_takeBySummaries_58 : decode cX2_takeBySummaries 58 = .ok (.iconst 1, 1) := by decide +kernel
theorem dX2_takeBySummaries_59 : decode cX2_takeBySummaries 59 = .ok (.invokevirtual 57, 3) := by decide +kernel
theorem dX2_takeBySummaries_62 : decode cX2_takeBySummaries 62 = .ok (.iload_n 2, 1) := by decide +kernel
theorem dX2_takeBySummaries_63 : decode cX2_takeBySummaries 63 = .ok (.ireturn, 1) := by decide +kernel
theorem dX2_takeBySummaries_64 : decode cX2_takeBySummaries 64 = .ok (.aload_n 0, 1) := by decide +kernel
theorem dX2_takeBySummaries_65 : decode cX2_takeBySummaries 65 = .ok (.dup, 1) := by decide +kernel
theorem dX2_takeBySummaries_66 : decode cX2_takeBySummaries 66 = .ok (.getfield 23, 3) := by decide +kernel
theorem dX2_takeBySummaries_69 : decode cX2_takeBySummaries 69 = .ok (.iconst 1, 1) := by decide +kernel
theorem dX2_takeBySummaries_70 : decode cX2_takeBySummaries 70 = .ok (.iload_n 1, 1) := by decide +kernel
theorem dX2_takeBySummaries_71 : decode cX2_takeBySummaries 71 = .ok (.ishl, 1) := by decide +kernel
theorem dX2_takeBySummaries_72 : decode cX2_takeBySummaries 72 = .ok (.ior, 1) := by decide +kernel
theorem dX2_takeBySummaries_73 : decode cX2_takeBySummaries 73 = .ok (.putfield 23, 3) := by decide +kernel
theorem dX2_takeBySummaries_76 : decode cX2_takeBySummaries 76 = .ok (.iinc 1 1, 3) := by decide +kernel
theorem dX2_takeBySummaries_79 : decode cX2_takeBySummaries 79 = .ok (.goto (-77), 3) := by decide +kernel
theorem dX2_takeBySummaries_82 : decode cX2_takeBySummaries 82 = .ok (.bipush (-9), 2) := by decide +kernel
theorem dX2_takeBySummaries_84 : decode cX2_takeBySummaries 84 = .ok (.ireturn, 1) := by decide +kernel
set_option maxRecDepth 20000 in
theorem ggX2_takeMany_X2_takeOne : GoodIn wsX2_takeMany wsX2_takeOne := goodIn_r _ [5, 6, 7, 8, 4, 9, 10, 11, 12, 13, 14, 15, 16, 17, 18, 19, 20, 21, 22, 23, 24, 25, 26, 27, 28, 29, 30, 31, 32, 33, 34, 35, 36, 37, 38, 39, 40, 41, 42, 43, 44, 45, 46] (by decide +kernel) (by decide +kernel)
set_option maxRecDepth 20000 in
theorem gX2_takeMany_X2_takeOne : GoodIn wsX2_takeMany (wsV RX2 61 RX2 yX2_takeOne wsX2_takeOne) := goodIn_app (goodIn_of _ (by decide +kernel)) ggX2_takeMany_X2_takeOne
theorem dX2_takeMany_0 : decode cX2_takeMany 0 = .ok (.iload_n 1, 1) := by decide +kernel
theorem dX2_takeMany_1 : decode cX2_takeMany 1 = .ok (.iconst 1, 1) := by decide +kernel
theorem dX2_takeMany_2 : decode cX2_takeMany 2 = .ok (.if_icmp .lt 10, 3) := by decide +kernel
theorem dX2_takeMany_5 : decode cX2_takeMany 5 = .ok (.iload_n 1, 1) := by decide +kernel
theorem dX2_takeMany_6 : decode cX2_takeMany 6 = .ok (.sipush 320, 3) := by decide +kernel
theorem dX2_takeMany_9 : decode cX2_takeMany 9 = .ok (.if_icmp .le 5, 3) := by decide +kernel
theorem dX2_takeMany_12 : decode cX2_takeMany 12 = .ok (.iconst (-1), 1) := by decide +kernel
theorem dX2_takeMany_13 : decode cX2_takeMany 13 = .ok (.ireturn, 1) := by decide +kernel
theorem dX2_takeMany_14 : decode cX2_takeMany 14 = .ok (.iconst 0, 1) := by decide +kernel
theorem dX2_takeMany_15 : decode cX2_takeMany 15 = .ok (.istore_n 2, 1) := by decide +kernel
theorem dX2_takeMany_16 : decode cX2_takeMany 16 = .ok (.iload_n 2, 1) := by decide +kernel
theorem dX2_takeMany_17 : decode cX2_takeMany 17 = .ok (.iload_n 1, 1) := by decide +kernel
theorem dX2_takeMany_18 : decode cX2_takeMany 18 = .ok (.if_icmp .ge 19, 3) := by decide +kernel
theorem dX2_takeMany_21 : decode cX2_takeMany 21 = .ok (.aload_n 0, 1) := by decide +kernel
theorem dX2_takeMany_22 : decode cX2_takeMany 22 = .ok (.invokevirtual 61, 3) := by decide +kernel
theorem dX2_takeMany_25 : decode cX2_takeMany 25 = .ok (.ifCond .ge 6, 3) := by decide +kernel
theorem dX2_takeMany_28 : decode cX2_takeMany 28 = .ok (.bipush (-3), 2) := by decide +kernel
theorem dX2_takeMany_30 : decode cX2_takeMany 30 = .ok (.ireturn, 1) := by decide +kernel
theorem dX2_takeMany_31 : decode cX2_takeMany 31 = .ok (.iinc 2 1, 3) := by decide +kernel
theorem dX2_takeMany_34 : decode cX2_takeMany 34 = .ok (.goto (-18), 3) := by decide +kernel
theorem dX2_takeMany_37 : decode cX2_takeMany 37 = .ok (.iload_n 1, 1) := by decide +kernel
theorem dX2_takeMany_38 : decode cX2_takeMany 38 = .ok (.ireturn, 1) := by decide +kernel
set_option maxRecDepth 20000 in
theorem ggX2_takeSideBySide_X3_isRunLength : GoodIn wsX2_takeSideBySide wsX3_isRunLength := goodIn_r _ [4] (by decide +kernel) (by decide +kernel)
set_option maxRecDepth 20000 in
theorem gX2_takeSideBySide_X3_isRunLength_n64 : GoodIn wsX2_takeSideBySide (wsX3_isRunLength) := ggX2_takeSideBySide_X3_isRunLength
set_option maxRecDepth 20000 in
theorem ggX2_takeSideBySide_X2_runStart : GoodIn wsX2_takeSideBySide wsX2_runStart := goodIn_r _ [9, 10, 11, 12, 8, 13, 14, 15, 3, 16, 17, 18, 37, 38, 39, 40, 41] (by decide +kernel) (by decide +kernel)
set_option maxRecDepth 20000 in
theorem gX2_takeSideBySide_X2_runStart : GoodIn wsX2_takeSideBySide (wsV RX2 67 RX2 yX2_runStart wsX2_runStart) := goodIn_app (goodIn_of _ (by decide +kernel)) ggX2_takeSideBySide_X2_runStart
set_option maxRecDepth 20000 in
theorem ggX2_takeSideBySide_X3_wordOf : GoodIn wsX2_takeSideBySide wsX3_wordOf := goodIn_r _ [16] (by decide +kernel) (by decide +kernel)
set_option maxRecDepth 20000 in
theorem gX2_takeSideBySide_X3_wordOf_n70 : GoodIn wsX2_takeSideBySide (wsX3_wordOf) := ggX2_takeSideBySide_X3_wordOf
set_option maxRecDepth 20000 in
theorem ggX2_takeSideBySide_X3_rangeBits : GoodIn wsX2_takeSideBySide wsX3_rangeBits := goodIn_r _ [20, 21, 22, 23, 24, 25, 26, 27] (by decide +kernel) (by decide +kernel)
set_option maxRecDepth 20000 in
theorem gX2_takeSideBySide_X3_rangeBits_n73 : GoodIn wsX2_takeSideBySide (wsX3_rangeBits) := ggX2_takeSideBySide_X3_rangeBits
set_option maxRecDepth 20000 in
theorem ggX2_takeSideBySide_X2_change : GoodIn wsX2_takeSideBySide wsX2_change := goodIn_r _ [31, 14, 32, 33, 34, 35, 8, 36, 37, 38, 39, 40, 41] (by decide +kernel) (by decide +kernel)
set_option maxRecDepth 20000 in
theorem gX2_takeSideBySide_X2_change : GoodIn wsX2_takeSideBySide (wsV RX2 57 RX2 yX2_change wsX2_change) := goodIn_app (goodIn_of _ (by decide +kernel)) ggX2_takeSideBySide_X2_change
theorem dX2_takeSideBySide_0 : decode cX2_takeSideBySide 0 = .ok (.iload_n 1, 1) := by decide +kernel
theorem dX2_takeSideBySide_1 : decode cX2_takeSideBySide 1 = .ok (.invokestatic 64, 3) := by decide +kernel
theorem dX2_takeSideBySide_4 : decode cX2_takeSideBySide 4 = .ok (.ifCond .ne 5, 3) := by decide +kernel
theorem dX2_takeSideBySide_7 : decode cX2_takeSideBySide 7 = .ok (.iconst (-1), 1) := by decide +kernel
theorem dX2_takeSideBySide_8 : decode cX2_takeSideBySide 8 = .ok (.ireturn, 1) := by decide +kernel
theorem dX2_takeSideBySide_9 : decode cX2_takeSideBySide 9 = .ok (.aload_n 0, 1) := by decide +kernel
theorem dX2_takeSideBySide_10 : decode cX2_takeSideBySide 10 = .ok (.iload_n 1, 1) := by decide +kernel
theorem dX2_takeSideBySide_11 : decode cX2_takeSideBySide 11 = .ok (.invokevirtual 67, 3) := by decide +kernel
theorem dX2_takeSideBySide_14 : decode cX2_takeSideBySide 14 = .ok (.istore_n 2, 1) := by decide +kernel
theorem dX2_takeSideBySide_15 : decode cX2_takeSideBySide 15 = .ok (.iload_n 2, 1) := by decide +kernel
theorem dX2_takeSideBySide_16 : decode cX2_takeSideBySide 16 = .ok (.bipush (-9), 2) := by decide +kernel
theorem dX2_takeSideBySide_18 : decode cX2_takeSideBySide 18 = .ok (.if_icmp .ne 6, 3) := by decide +kernel
theorem dX2_takeSideBySide_21 : decode cX2_takeSideBySide 21 = .ok (.bipush (-3), 2) := by decide +kernel
theorem dX2_takeSideBySide_23 : decode cX2_takeSideBySide 23 = .ok (.ireturn, 1) := by decide +kernel
theorem dX2_takeSideBySide_24 : decode cX2_takeSideBySide 24 = .ok (.iload_n 2, 1) := by decide +kernel
theorem dX2_takeSideBySide_25 : decode cX2_takeSideBySide 25 = .ok (.iload_n 1, 1) := by decide +kernel
theorem dX2_takeSideBySide_26 : decode cX2_takeSideBySide 26 = .ok (.iadd, 1) := by decide +kernel
theorem dX2_takeSideBySide_27 : decode cX2_takeSideBySide 27 = .ok (.iconst 1, 1) := by decide +kernel
theorem dX2_takeSideBySide_28 : decode cX2_takeSideBySide 28 = .ok (.isub, 1) := by decide +kernel
theorem dX2_takeSideBySide_29 : decode cX2_takeSideBySide 29 = .ok (.istore_n 3, 1) := by decide +kernel
theorem dX2_takeSideBySide_30 : decode cX2_takeSideBySide 30 = .ok (.aload_n 0, 1) := by decide +kernel
theorem dX2_takeSideBySide_31 : decode cX2_takeSideBySide 31 = .ok (.dup, 1) := by decide +kernel
theorem dX2_takeSideBySide_32 : decode cX2_takeSideBySide 32 = .ok (.getfield 27, 3) := by decide +kernel
theorem dX2_takeSideBySide_35 : decode cX2_takeSideBySide 35 = .ok (.iload_n 3, 1) := by decide +kernel
theorem dX2_takeSideBySide_36 : decode cX2_takeSideBySide 36 = .ok (.invokestatic 70, 3) := by decide +kernel
theorem dX2_takeSideBySide_39 : decode cX2_takeSideBySide 39 = .ok (.iconst 1, 1) := by decide +kernel
theorem dX2_takeSideBySide_40 : decode cX2_takeSideBySide 40 = .ok (.iadd, 1) := by decide +kernel
theorem dX2_takeSideBySide_41 : decode cX2_takeSideBySide 41 = .ok (.iadd, 1) := by decide +kernel
theorem dX2_takeSideBySide_42 : decode cX2_takeSideBySide 42 = .ok (.putfield 27, 3) := by decide +kernel
theorem dX2_takeSideBySide_45 : decode cX2_takeSideBySide 45 = .ok (.iconst 0, 1) := by decide +kernel
theorem dX2_takeSideBySide_46 : decode cX2_takeSideBySide 46 = .ok (.istore 4, 2) := by decide +kernel
theorem dX2_takeSideBySide_48 : decode cX2_takeSideBySide 48 = .ok (.iload 4, 2) := by decide +kernel
theorem dX2_takeSideBySide_50 : decode cX2_takeSideBySide 50 = .ok (.bipush 10, 2) := by decide +kernel
theorem dX2_takeSideBySide_52 : decode cX2_takeSideBySide 52 = .ok (.if_icmp .ge 24, 3) := by decide +kernel
theorem dX2_takeSideBySide_55 : decode cX2_takeSideBySide 55 = .ok (.aload_n 0, 1) := by decide +kernel
theorem dX2_takeSideBySide_56 : decode cX2_takeSideBySide 56 = .ok (.iload 4, 2) := by decide +kernel
theorem dX2_takeSideBySide_58 : decode cX2_takeSideBySide 58 = .ok (.iload 4, 2) := by decide +kernel
theorem dX2_takeSideBySide_60 : decode cX2_takeSideBySide 60 = .ok (.iload_n 2, 1) := by decide +kernel
theorem dX2_takeSideBySide_61 : decode cX2_takeSideBySide 61 = .ok (.iload_n 3, 1) := by decide +kernel
theorem dX2_takeSideBySide_62 : decode cX2_takeSideBySide 62 = .ok (.invokestatic 73, 3) := by decide +kernel
theorem dX2_takeSideBySide_65 : decode cX2_takeSideBySide 65 = .ok (.iconst 0, 1) := by decide +kernel
theorem dX2_takeSideBySide_66 : decode cX2_takeSideBySide 66 = .ok (.iconst 1, 1) := by decide +kernel
theorem dX2_takeSideBySide_67 : decode cX2_takeSideBySide 67 = .ok (.invokevirtual 57, 3) := by decide +kernel
theorem dX2_takeSideBySide_70 : decode cX2_takeSideBySide 70 = .ok (.iinc 4 1, 3) := by decide +kernel
theorem dX2_takeSideBySide_73 : decode cX2_takeSideBySide 73 = .ok (.goto (-25), 3) := by decide +kernel
theorem dX2_takeSideBySide_76 : decode cX2_takeSideBySide 76 = .ok (.iload_n 2, 1) := by decide +kernel
theorem dX2_takeSideBySide_77 : decode cX2_takeSideBySide 77 = .ok (.ireturn, 1) := by decide +kernel
set_option maxRecDepth 20000 in
theorem ggX2_giveBackRange_X3_rangeBits : GoodIn wsX2_giveBackRange wsX3_rangeBits := goodIn_r _ [4, 5, 6, 7, 8, 9, 10, 11] (by decide +kernel) (by decide +kernel)
set_option maxRecDepth 20000 in
theorem gX2_giveBackRange_X3_rangeBits_n73 : GoodIn wsX2_giveBackRange (wsX3_rangeBits) := ggX2_giveBackRange_X3_rangeBits
set_option maxRecDepth 20000 in
theorem ggX2_giveBackRange_X2_ownedBits : GoodIn wsX2_giveBackRange wsX2_ownedBits := goodIn_r _ [16, 17, 18, 3, 19, 20, 21, 22, 15, 23, 24, 2, 4, 5, 6, 7, 8, 9, 10, 11, 41, 42, 43, 44, 45] (by decide +kernel) (by decide +kernel)
set_option maxRecDepth 20000 in
theorem gX2_giveBackRange_X2_ownedBits : GoodIn wsX2_giveBackRange (wsV RX2 77 RX2 yX2_ownedBits wsX2_ownedBits) := goodIn_app (goodIn_of _ (by decide +kernel)) ggX2_giveBackRange_X2_ownedBits
set_option maxRecDepth 20000 in
theorem ggX2_giveBackRange_X2_change : GoodIn wsX2_giveBackRange wsX2_change := goodIn_r _ [28, 1, 29, 30, 31, 32, 15, 33, 41, 42, 43, 44, 45] (by decide +kernel) (by decide +kernel)
set_option maxRecDepth 20000 in
theorem gX2_giveBackRange_X2_change : GoodIn wsX2_giveBackRange (wsV RX2 57 RX2 yX2_change wsX2_change) := goodIn_app (goodIn_of _ (by decide +kernel)) ggX2_giveBackRange_X2_change
set_option maxRecDepth 20000 in
theorem ggX2_giveBackRange_J6_bitCount_0f7a4 : GoodIn wsX2_giveBackRange wsJ6_bitCount_0f7a4 := goodIn_r _ [37, 38, 39, 40] (by decide +kernel) (by decide +kernel)
set_option maxRecDepth 20000 in
theorem gX2_giveBackRange_J6_bitCount_0f7a4 : GoodIn wsX2_giveBackRange (va_wsS RX2 80 yJ6_bitCount_0f7a4 wsJ6_bitCount_0f7a4) := goodIn_app (goodIn_of _ (by decide +kernel)) ggX2_giveBackRange_J6_bitCount_0f7a4
theorem dX2_giveBackRange_0 : decode cX2_giveBackRange 0 = .ok (.iload_n 1, 1) := by decide +kernel
theorem dX2_giveBackRange_1 : decode cX2_giveBackRange 1 = .ok (.ifCond .lt 15, 3) := by decide +kernel
theorem dX2_giveBackRange_4 : decode cX2_giveBackRange 4 = .ok (.iload_n 2, 1) := by decide +kernel
theorem dX2_giveBackRange_5 : decode cX2_giveBackRange 5 = .ok (.sipush 320, 3) := by decide +kernel
theorem dX2_giveBackRange_8 : decode cX2_giveBackRange 8 = .ok (.if_icmp .ge 8, 3) := by decide +kernel
theorem dX2_giveBackRange_11 : decode cX2_giveBackRange 11 = .ok (.iload_n 1, 1) := by decide +kernel
theorem dX2_giveBackRange_12 : decode cX2_giveBackRange 12 = .ok (.iload_n 2, 1) := by decide +kernel
theorem dX2_giveBackRange_13 : decode cX2_giveBackRange 13 = .ok (.if_icmp .le 5, 3) := by decide +kernel
theorem dX2_giveBackRange_16 : decode cX2_giveBackRange 16 = .ok (.iconst (-1), 1) := by decide +kernel
theorem dX2_giveBackRange_17 : decode cX2_giveBackRange 17 = .ok (.ireturn, 1) := by decide +kernel
theorem dX2_giveBackRange_18 : decode cX2_giveBackRange 18 = .ok (.iconst 0, 1) := by decide +kernel
theorem dX2_giveBackRange_19 : decode cX2_giveBackRange 19 = .ok (.istore_n 3, 1) := by decide +kernel
theorem dX2_giveBackRange_20 : decode cX2_giveBackRange 20 = .ok (.iconst 0, 1) := by decide +kernel
theorem dX2_giveBackRange_21 : decode cX2_giveBackRange 21 = .ok (.istore 4, 2) := by decide +kernel
theorem dX2_giveBackRange_23 : decode cX2_giveBackRange 23 = .ok (.iload 4, 2) := by decide +kernel
theorem dX2_giveBackRange_25 : decode cX2_giveBackRange 25 = .ok (.bipush 10, 2) := by decide +kernel
theorem dX2_giveBackRange_27 : decode cX2_giveBackRange 27 = .ok (.if_icmp .ge 72, 3) := by decide +kernel
theorem dX2_giveBackRange_30 : decode cX2_giveBackRange 30 = .ok (.aload_n 0, 1) := by decide +kernel
theorem dX2_giveBackRange_31 : decode cX2_giveBackRange 31 = .ok (.getfield 11, 3) := by decide +kernel
theorem dX2_giveBackRange_34 : decode cX2_giveBackRange 34 = .ok (.iconst 1, 1) := by decide +kernel
theorem dX2_giveBackRange_35 : decode cX2_giveBackRange 35 = .ok (.aaload, 1) := by decide +kernel
theorem dX2_giveBackRange_36 : decode cX2_giveBackRange 36 = .ok (.iload 4, 2) := by decide +kernel
theorem dX2_giveBackRange_38 : decode cX2_giveBackRange 38 = .ok (.iaload, 1) := by decide +kernel
theorem dX2_giveBackRange_39 : decode cX2_giveBackRange 39 = .ok (.iload 4, 2) := by decide +kernel
theorem dX2_giveBackRange_41 : decode cX2_giveBackRange 41 = .ok (.iload_n 1, 1) := by decide +kernel
theorem dX2_giveBackRange_42 : decode cX2_giveBackRange 42 = .ok (.iload_n 2, 1) := by decide +kernel
theorem dX2_giveBackRange_43 : decode cX2_giveBackRange 43 = .ok (.invokestatic 73, 3) := by decide +kernel
theorem dX2_giveBackRange_46 : decode cX2_giveBackRange 46 = .ok (.iand, 1) := by decide +kernel
theorem dX2_giveBackRange_47 : decode cX2_giveBackRange 47 = .ok (.istore 5, 2) := by decide +kernel
theorem dX2_giveBackRange_49 : decode cX2_giveBackRange 49 = .ok (.iload 5, 2) := by decide +kernel
theorem dX2_giveBackRange_51 : decode cX2_giveBackRange 51 = .ok (.aload_n 0, 1) := by decide +kernel
theorem dX2_giveBackRange_52 : decode cX2_giveBackRange 52 = .ok (.iload 4, 2) := by decide +kernel
theorem dX2_giveBackRange_54 : decode cX2_giveBackRange 54 = .ok (.invokevirtual 77, 3) := by decide +kernel
theorem dX2_giveBackRange_57 : decode cX2_giveBackRange 57 = .ok (.iand, 1) := by decide +kernel
theorem dX2_giveBackRange_58 : decode cX2_giveBackRange 58 = .ok (.istore 6, 2) := by decide +kernel
theorem dX2_giveBackRange_60 : decode cX2_giveBackRange 60 = .ok (.aload_n 0, 1) := by decide +kernel
theorem dX2_giveBackRange_61 : decode cX2_giveBackRange 61 = .ok (.iload 4, 2) := by decide +kernel
theorem dX2_giveBackRange_63 : decode cX2_giveBackRange 63 = .ok (.iload 5, 2) := by decide +kernel
theorem dX2_giveBackRange_65 : decode cX2_giveBackRange 65 = .ok (.iload 6, 2) := by decide +kernel
theorem dX2_giveBackRange_67 : decode cX2_giveBackRange 67 = .ok (.iconst (-1), 1) := by decide +kernel
theorem dX2_giveBackRange_68 : decode cX2_giveBackRange 68 = .ok (.ixor, 1) := by decide +kernel
theorem dX2_giveBackRange_69 : decode cX2_giveBackRange 69 = .ok (.iand, 1) := by decide +kernel
theorem dX2_giveBackRange_70 : decode cX2_giveBackRange 70 = .ok (.iconst 1, 1) := by decide +kernel
theorem dX2_giveBackRange_71 : decode cX2_giveBackRange 71 = .ok (.iconst 2, 1) := by decide +kernel
theorem dX2_giveBackRange_72 : decode cX2_giveBackRange 72 = .ok (.invokevirtual 57, 3) := by decide +kernel
theorem dX2_giveBackRange_75 : decode cX2_giveBackRange 75 = .ok (.aload_n 0, 1) := by decide +kernel
theorem dX2_giveBackRange_76 : decode cX2_giveBackRange 76 = .ok (.iload 4, 2) := by decide +kernel
theorem dX2_giveBackRange_78 : decode cX2_giveBackRange 78 = .ok (.iload 6, 2) := by decide +kernel
theorem dX2_giveBackRange_80 : decode cX2_giveBackRange 80 = .ok (.iconst 1, 1) := by decide +kernel
theorem dX2_giveBackRange_81 : decode cX2_giveBackRange 81 = .ok (.iconst 3, 1) := by decide +kernel
theorem dX2_giveBackRange_82 : decode cX2_giveBackRange 82 = .ok (.invokevirtual 57, 3) := by decide +kernel
theorem dX2_giveBackRange_85 : decode cX2_giveBackRange 85 = .ok (.iload_n 3, 1) := by decide +kernel
theorem dX2_giveBackRange_86 : decode cX2_giveBackRange 86 = .ok (.iload 5, 2) := by decide +kernel
theorem dX2_giveBackRange_88 : decode cX2_giveBackRange 88 = .ok (.invokestatic 80, 3) := by decide +kernel
theorem dX2_giveBackRange_91 : decode cX2_giveBackRange 91 = .ok (.iadd, 1) := by decide +kernel
theorem dX2_giveBackRange_92 : decode cX2_giveBackRange 92 = .ok (.istore_n 3, 1) := by decide +kernel
theorem dX2_giveBackRange_93 : decode cX2_giveBackRange 93 = .ok (.iinc 4 1, 3) := by decide +kernel
theorem dX2_giveBackRange_96 : decode cX2_giveBackRange 96 = .ok (.goto (-73), 3) := by decide +kernel
theorem dX2_giveBackRange_99 : decode cX2_giveBackRange 99 = .ok (.iload_n 3, 1) := by decide +kernel
theorem dX2_giveBackRange_100 : decode cX2_giveBackRange 100 = .ok (.ifCond .ne 8, 3) := by decide +kernel
theorem dX2_giveBackRange_103 : decode cX2_giveBackRange 103 = .ok (.bipush (-2), 2) := by decide +kernel
theorem dX2_giveBackRange_105 : decode cX2_giveBackRange 105 = .ok (.goto 4, 3) := by decide +kernel
theorem dX2_giveBackRange_108 : decode cX2_giveBackRange 108 = .ok (.iload_n 3, 1) := by decide +kernel
theorem dX2_giveBackRange_109 : decode cX2_giveBackRange 109 = .ok (.ireturn, 1) := by decide +kernel
set_option maxRecDepth 20000 in
theorem ggX2_clearWords_X2_change : GoodIn wsX2_clearWords wsX2_change := goodIn_r _ [6, 1, 7, 8, 9, 10, 5, 11, 19, 20, 21, 22, 23] (by decide +kernel) (by decide +kernel)
set_option maxRecDepth 20000 in
theorem gX2_clearWords_X2_change : GoodIn wsX2_clearWords (wsV RX2 57 RX2 yX2_change wsX2_change) := goodIn_app (goodIn_of _ (by decide +kernel)) ggX2_clearWords_X2_change
set_option maxRecDepth 20000 in
theorem ggX2_clearWords_J6_bitCount_0f7a4 : GoodIn wsX2_clearWords wsJ6_bitCount_0f7a4 := goodIn_r _ [15, 16, 17, 18] (by decide +kernel) (by decide +kernel)
set_option maxRecDepth 20000 in
theorem gX2_clearWords_J6_bitCount_0f7a4 : GoodIn wsX2_clearWords (va_wsS RX2 80 yJ6_bitCount_0f7a4 wsJ6_bitCount_0f7a4) := goodIn_app (goodIn_of _ (by decide +kernel)) ggX2_clearWords_J6_bitCount_0f7a4
theorem dX2_clearWords_0 : decode cX2_clearWords 0 = .ok (.iload_n 1, 1) := by decide +kernel
theorem dX2_clearWords_1 : decode cX2_clearWords 1 = .ok (.iconst 1, 1) := by decide +kernel
theorem dX2_clearWords_2 : decode cX2_clearWords 2 = .ok (.if_icmp .lt 9, 3) := by decide +kernel
theorem dX2_clearWords_5 : decode cX2_clearWords 5 = .ok (.iload_n 1, 1) := by decide +kernel
theorem dX2_clearWords_6 : decode cX2_clearWords 6 = .ok (.bipush 10, 2) := by decide +kernel
theorem dX2_clearWords_8 : decode cX2_clearWords 8 = .ok (.if_icmp .le 5, 3) := by decide +kernel
theorem dX2_clearWords_11 : decode cX2_clearWords 11 = .ok (.iconst (-1), 1) := by decide +kernel
theorem dX2_clearWords_12 : decode cX2_clearWords 12 = .ok (.ireturn, 1) := by decide +kernel
theorem dX2_clearWords_13 : decode cX2_clearWords 13 = .ok (.iconst 0, 1) := by decide +kernel
theorem dX2_clearWords_14 : decode cX2_clearWords 14 = .ok (.istore_n 2, 1) := by decide +kernel
theorem dX2_clearWords_15 : decode cX2_clearWords 15 = .ok (.iconst 0, 1) := by decide +kernel
theorem dX2_clearWords_16 : decode cX2_clearWords 16 = .ok (.istore_n 3, 1) := by decide +kernel
theorem dX2_clearWords_17 : decode cX2_clearWords 17 = .ok (.iconst 0, 1) := by decide +kernel
theorem dX2_clearWords_18 : decode cX2_clearWords 18 = .ok (.istore 4, 2) := by decide +kernel
theorem dX2_clearWords_20 : decode cX2_clearWords 20 = .ok (.iload 4, 2) := by decide +kernel
theorem dX2_clearWords_22 : decode cX2_clearWords 22 = .ok (.bipush 10, 2) := by decide +kernel
theorem dX2_clearWords_24 : decode cX2_clearWords 24 = .ok (.if_icmp .ge 51, 3) := by decide +kernel
theorem dX2_clearWords_27 : decode cX2_clearWords 27 = .ok (.iload_n 2, 1) := by decide +kernel
theorem dX2_clearWords_28 : decode cX2_clearWords 28 = .ok (.iload_n 1, 1) := by decide +kernel
theorem dX2_clearWords_29 : decode cX2_clearWords 29 = .ok (.if_icmp .ge 46, 3) := by decide +kernel
theorem dX2_clearWords_32 : decode cX2_clearWords 32 = .ok (.aload_n 0, 1) := by decide +kernel
theorem dX2_clearWords_33 : decode cX2_clearWords 33 = .ok (.getfield 11, 3) := by decide +kernel
theorem dX2_clearWords_36 : decode cX2_clearWords 36 = .ok (.iconst 2, 1) := by decide +kernel
theorem dX2_clearWords_37 : decode cX2_clearWords 37 = .ok (.aaload, 1) := by decide +kernel
theorem dX2_clearWords_38 : decode cX2_clearWords 38 = .ok (.iload 4, 2) := by decide +kernel
theorem dX2_clearWords_40 : decode cX2_clearWords 40 = .ok (.iaload, 1) := by decide +kernel
theorem dX2_clearWords_41 : decode cX2_clearWords 41 = .ok (.istore 5, 2) := by decide +kernel
theorem dX2_clearWords_43 : decode cX2_clearWords 43 = .ok (.iload 5, 2) := by decide +kernel
theorem dX2_clearWords_45 : decode cX2_clearWords 45 = .ok (.ifCond .eq 24, 3) := by decide +kernel
theorem dX2_clearWords_48 : decode cX2_clearWords 48 = .ok (.aload_n 0, 1) := by decide +kernel
theorem dX2_clearWords_49 : decode cX2_clearWords 49 = .ok (.iload 4, 2) := by decide +kernel
theorem dX2_clearWords_51 : decode cX2_clearWords 51 = .ok (.iload 5, 2) := by decide +kernel
theorem dX2_clearWords_53 : decode cX2_clearWords 53 = .ok (.iconst 2, 1) := by decide +kernel
theorem dX2_clearWords_54 : decode cX2_clearWords 54 = .ok (.iconst 0, 1) := by decide +kernel
theorem dX2_clearWords_55 : decode cX2_clearWords 55 = .ok (.invokevirtual 57, 3) := by decide +kernel
theorem dX2_clearWords_58 : decode cX2_clearWords 58 = .ok (.iload_n 3, 1) := by decide +kernel
theorem dX2_clearWords_59 : decode cX2_clearWords 59 = .ok (.iload 5, 2) := by decide +kernel
theorem dX2_clearWords_61 : decode cX2_clearWords 61 = .ok (.invokestatic 80, 3) := by decide +kernel
theorem dX2_clearWords_64 : decode cX2_clearWords 64 = .ok (.iadd, 1) := by decide +kernel
theorem dX2_clearWords_65 : decode cX2_clearWords 65 = .ok (.istore_n 3, 1) := by decide +kernel
theorem dX2_clearWords_66 : decode cX2_clearWords 66 = .ok (.iinc 2 1, 3) := by decide +kernel
theorem dX2_clearWords_69 : decode cX2_clearWords 69 = .ok (.iinc 4 1, 3) := by decide +kernel
theorem dX2_clearWords_72 : decode cX2_clearWords 72 = .ok (.goto (-52), 3) := by decide +kernel
theorem dX2_clearWords_75 : decode cX2_clearWords 75 = .ok (.iload_n 3, 1) := by decide +kernel
theorem dX2_clearWords_76 : decode cX2_clearWords 76 = .ok (.ireturn, 1) := by decide +kernel
set_option maxRecDepth 20000 in
theorem ggX2_reserveBlock_X3_isBlockSize : GoodIn wsX2_reserveBlock wsX3_isBlockSize := goodIn_r _ [5] (by decide +kernel) (by decide +kernel)
set_option maxRecDepth 20000 in
theorem gX2_reserveBlock_X3_isBlockSize_n85 : GoodIn wsX2_reserveBlock (wsX3_isBlockSize) := ggX2_reserveBlock_X3_isBlockSize
set_option maxRecDepth 20000 in
theorem ggX2_reserveBlock_X2_firstUnusedBlock : GoodIn wsX2_reserveBlock wsX2_firstUnusedBlock := goodIn_r _ [10, 11, 12, 13, 9, 14, 2, 44, 45, 46, 47, 48] (by decide +kernel) (by decide +kernel)
set_option maxRecDepth 20000 in
theorem gX2_reserveBlock_X2_firstUnusedBlock : GoodIn wsX2_reserveBlock (wsV RX2 88 RX2 yX2_firstUnusedBlock wsX2_firstUnusedBlock) := goodIn_app (goodIn_of _ (by decide +kernel)) ggX2_reserveBlock_X2_firstUnusedBlock
set_option maxRecDepth 20000 in
theorem ggX2_reserveBlock_X2_placeStart : GoodIn wsX2_reserveBlock wsX2_placeStart := goodIn_r _ [18, 19, 20, 4, 21, 22, 23, 24, 25, 26, 27, 28, 29, 30, 44, 45, 46, 47, 48] (by decide +kernel) (by decide +kernel)
set_option maxRecDepth 20000 in
theorem gX2_reserveBlock_X2_placeStart : GoodIn wsX2_reserveBlock (wsV RX2 91 RX2 yX2_placeStart wsX2_placeStart) := goodIn_app (goodIn_of _ (by decide +kernel)) ggX2_reserveBlock_X2_placeStart
set_option maxRecDepth 20000 in
theorem ggX2_reserveBlock_X3_wordOf : GoodIn wsX2_reserveBlock wsX3_wordOf := goodIn_r _ [21] (by decide +kernel) (by decide +kernel)
set_option maxRecDepth 20000 in
theorem gX2_reserveBlock_X3_wordOf_n70 : GoodIn wsX2_reserveBlock (wsX3_wordOf) := ggX2_reserveBlock_X3_wordOf
set_option maxRecDepth 20000 in
theorem ggX2_reserveBlock_X2_blockBits : GoodIn wsX2_reserveBlock wsX2_blockBits := goodIn_r _ [34, 1, 2, 20, 4, 21, 22, 23, 24, 25, 26, 27, 28, 29, 30, 44, 45, 46, 47, 48] (by decide +kernel) (by decide +kernel)
set_option maxRecDepth 20000 in
theorem gX2_reserveBlock_X2_blockBits : GoodIn wsX2_reserveBlock (wsV RX2 94 RX2 yX2_blockBits wsX2_blockBits) := goodIn_app (goodIn_of _ (by decide +kernel)) ggX2_reserveBlock_X2_blockBits
set_option maxRecDepth 20000 in
theorem ggX2_reserveBlock_X2_change : GoodIn wsX2_reserveBlock wsX2_change := goodIn_r _ [38, 19, 39, 40, 41, 42, 9, 43, 44, 45, 46, 47, 48] (by decide +kernel) (by decide +kernel)
set_option maxRecDepth 20000 in
theorem gX2_reserveBlock_X2_change : GoodIn wsX2_reserveBlock (wsV RX2 57 RX2 yX2_change wsX2_change) := goodIn_app (goodIn_of _ (by decide +kernel)) ggX2_reserveBlock_X2_change
theorem dX2_reserveBlock_0 : decode cX2_reserveBlock 0 = .ok (.iload_n 1, 1) := by decide +kernel
theorem dX2_reserveBlock_1 : decode cX2_reserveBlock 1 = .ok (.invokestatic 85, 3) := by decide +kernel
theorem dX2_reserveBlock_4 : decode cX2_reserveBlock 4 = .ok (.ifCond .ne 5, 3) := by decide +kernel
theorem dX2_reserveBlock_7 : decode cX2_reserveBlock 7 = .ok (.iconst (-1), 1) := by decide +kernel
theorem dX2_reserveBlock_8 : decode cX2_reserveBlock 8 = .ok (.ireturn, 1) := by decide +kernel
theorem dX2_reserveBlock_9 : decode cX2_reserveBlock 9 = .ok (.aload_n 0, 1) := by decide +kernel
theorem dX2_reserveBlock_10 : decode cX2_reserveBlock 10 = .ok (.invokevirtual 88, 3) := by decide +kernel
theorem dX2_reserveBlock_13 : decode cX2_reserveBlock 13 = .ok (.istore_n 2, 1) := by decide +kernel
theorem dX2_reserveBlock_14 : decode cX2_reserveBlock 14 = .ok (.aload_n 0, 1) := by decide +kernel
theorem dX2_reserveBlock_15 : decode cX2_reserveBlock 15 = .ok (.iload_n 1, 1) := by decide +kernel
theorem dX2_reserveBlock_16 : decode cX2_reserveBlock 16 = .ok (.invokevirtual 91, 3) := by decide +kernel
theorem dX2_reserveBlock_19 : decode cX2_reserveBlock 19 = .ok (.istore_n 3, 1) := by decide +kernel
theorem dX2_reserveBlock_20 : decode cX2_reserveBlock 20 = .ok (.iload_n 2, 1) := by decide +kernel
theorem dX2_reserveBlock_21 : decode cX2_reserveBlock 21 = .ok (.bipush (-9), 2) := by decide +kernel
theorem dX2_reserveBlock_23 : decode cX2_reserveBlock 23 = .ok (.if_icmp .eq 9, 3) := by decide +kernel
theorem dX2_reserveBlock_26 : decode cX2_reserveBlock 26 = .ok (.iload_n 3, 1) := by decide +kernel
theorem dX2_reserveBlock_27 : decode cX2_reserveBlock 27 = .ok (.bipush (-9), 2) := by decide +kernel
theorem dX2_reserveBlock_29 : decode cX2_reserveBlock 29 = .ok (.if_icmp .ne 6, 3) := by decide +kernel
theorem dX2_reserveBlock_32 : decode cX2_reserveBlock 32 = .ok (.bipush (-3), 2) := by decide +kernel
theorem dX2_reserveBlock_34 : decode cX2_reserveBlock 34 = .ok (.ireturn, 1) := by decide +kernel
theorem dX2_reserveBlock_35 : decode cX2_reserveBlock 35 = .ok (.aload_n 0, 1) := by decide +kernel
theorem dX2_reserveBlock_36 : decode cX2_reserveBlock 36 = .ok (.getfield 16, 3) := by decide +kernel
theorem dX2_reserveBlock_39 : decode cX2_reserveBlock 39 = .ok (.iload_n 2, 1) := by decide +kernel
theorem dX2_reserveBlock_40 : decode cX2_reserveBlock 40 = .ok (.iload_n 3, 1) := by decide +kernel
theorem dX2_reserveBlock_41 : decode cX2_reserveBlock 41 = .ok (.iastore, 1) := by decide +kernel
theorem dX2_reserveBlock_42 : decode cX2_reserveBlock 42 = .ok (.aload_n 0, 1) := by decide +kernel
theorem dX2_reserveBlock_43 : decode cX2_reserveBlock 43 = .ok (.getfield 20, 3) := by decide +kernel
theorem dX2_reserveBlock_46 : decode cX2_reserveBlock 46 = .ok (.iload_n 2, 1) := by decide +kernel
theorem dX2_reserveBlock_47 : decode cX2_reserveBlock 47 = .ok (.iload_n 1, 1) := by decide +kernel
theorem dX2_reserveBlock_48 : decode cX2_reserveBlock 48 = .ok (.iastore, 1) := by decide +kernel
theorem dX2_reserveBlock_49 : decode cX2_reserveBlock 49 = .ok (.aload_n 0, 1) := by decide +kernel
theorem dX2_reserveBlock_50 : decode cX2_reserveBlock 50 = .ok (.iload_n 3, 1) := by decide +kernel
theorem dX2_reserveBlock_51 : decode cX2_reserveBlock 51 = .ok (.invokestatic 70, 3) := by decide +kernel
theorem dX2_reserveBlock_54 : decode cX2_reserveBlock 54 = .ok (.aload_n 0, 1) := by decide +kernel
theorem dX2_reserveBlock_55 : decode cX2_reserveBlock 55 = .ok (.iload_n 2, 1) := by decide +kernel
theorem dX2_reserveBlock_56 : decode cX2_reserveBlock 56 = .ok (.invokevirtual 94, 3) := by decide +kernel
theorem dX2_reserveBlock_59 : decode cX2_reserveBlock 59 = .ok (.iconst 0, 1) := by decide +kernel
theorem dX2_reserveBlock_60 : decode cX2_reserveBlock 60 = .ok (.iconst 3, 1) := by decide +kernel
theorem dX2_reserveBlock_61 : decode cX2_reserveBlock 61 = .ok (.invokevirtual 57, 3) := by decide +kernel
theorem dX2_reserveBlock_64 : decode cX2_reserveBlock 64 = .ok (.iload_n 2, 1) := by decide +kernel
theorem dX2_reserveBlock_65 : decode cX2_reserveBlock 65 = .ok (.ireturn, 1) := by decide +kernel
set_option maxRecDepth 20000 in
theorem ggX2_takeInBlock_X2_hasBlock : GoodIn wsX2_takeInBlock wsX2_hasBlock := goodIn_r _ [7, 8, 45, 46, 47, 48, 49] (by decide +kernel) (by decide +kernel)
set_option maxRecDepth 20000 in
theorem gX2_takeInBlock_X2_hasBlock : GoodIn wsX2_takeInBlock (wsV RX2 97 RX2 yX2_hasBlock wsX2_hasBlock) := goodIn_app (goodIn_of _ (by decide +kernel)) ggX2_takeInBlock_X2_hasBlock
set_option maxRecDepth 20000 in
theorem ggX2_takeInBlock_X3_wordOf : GoodIn wsX2_takeInBlock wsX3_wordOf := goodIn_r _ [11] (by decide +kernel) (by decide +kernel)
set_option maxRecDepth 20000 in
theorem gX2_takeInBlock_X3_wordOf_n70 : GoodIn wsX2_takeInBlock (wsX3_wordOf) := ggX2_takeInBlock_X3_wordOf
set_option maxRecDepth 20000 in
theorem ggX2_takeInBlock_X2_blockBits : GoodIn wsX2_takeInBlock wsX2_blockBits := goodIn_r _ [15, 1, 8, 9, 10, 11, 16, 17, 18, 19, 20, 21, 22, 23, 24, 45, 46, 47, 48, 49] (by decide +kernel) (by decide +kernel)
set_option maxRecDepth 20000 in
theorem gX2_takeInBlock_X2_blockBits : GoodIn wsX2_takeInBlock (wsV RX2 94 RX2 yX2_blockBits wsX2_blockBits) := goodIn_app (goodIn_of _ (by decide +kernel)) ggX2_takeInBlock_X2_blockBits
set_option maxRecDepth 20000 in
theorem ggX2_takeInBlock_X3_lowestBit : GoodIn wsX2_takeInBlock wsX3_lowestBit := goodIn_r _ [26, 27, 28, 29, 30, 31, 32, 33] (by decide +kernel) (by decide +kernel)
set_option maxRecDepth 20000 in
theorem gX2_takeInBlock_X3_lowestBit_n51 : GoodIn wsX2_takeInBlock (wsX3_lowestBit) := ggX2_takeInBlock_X3_lowestBit
set_option maxRecDepth 20000 in
theorem ggX2_takeInBlock_X3_bitOf : GoodIn wsX2_takeInBlock wsX3_bitOf := goodIn_r _ [35] (by decide +kernel) (by decide +kernel)
set_option maxRecDepth 20000 in
theorem gX2_takeInBlock_X3_bitOf_n54 : GoodIn wsX2_takeInBlock (wsX3_bitOf) := ggX2_takeInBlock_X3_bitOf
set_option maxRecDepth 20000 in
theorem ggX2_takeInBlock_X2_change : GoodIn wsX2_takeInBlock wsX2_change := goodIn_r _ [39, 2, 40, 41, 42, 43, 6, 44, 45, 46, 47, 48, 49] (by decide +kernel) (by decide +kernel)
set_option maxRecDepth 20000 in
theorem gX2_takeInBlock_X2_change : GoodIn wsX2_takeInBlock (wsV RX2 57 RX2 yX2_change wsX2_change) := goodIn_app (goodIn_of _ (by decide +kernel)) ggX2_takeInBlock_X2_change
theorem dX2_takeInBlock_0 : decode cX2_takeInBlock 0 = .ok (.aload_n 0, 1) := by decide +kernel
theorem dX2_takeInBlock_1 : decode cX2_takeInBlock 1 = .ok (.iload_n 1, 1) := by decide +kernel
theorem dX2_takeInBlock_2 : decode cX2_takeInBlock 2 = .ok (.invokevirtual 97, 3) := by decide +kernel
theorem dX2_takeInBlock_5 : decode cX2_takeInBlock 5 = .ok (.ifCond .ne 5, 3) := by decide +kernel
theorem dX2_takeInBlock_8 : decode cX2_takeInBlock 8 = .ok (.iconst (-1), 1) := by decide +kernel
theorem dX2_takeInBlock_9 : decode cX2_takeInBlock 9 = .ok (.ireturn, 1) := by decide +kernel
theorem dX2_takeInBlock_10 : decode cX2_takeInBlock 10 = .ok (.aload_n 0, 1) := by decide +kernel
theorem dX2_takeInBlock_11 : decode cX2_takeInBlock 11 = .ok (.getfield 16, 3) := by decide +kernel
theorem dX2_takeInBlock_14 : decode cX2_takeInBlock 14 = .ok (.iload_n 1, 1) := by decide +kernel
theorem dX2_takeInBlock_15 : decode cX2_takeInBlock 15 = .ok (.iaload, 1) := by decide +kernel
theorem dX2_takeInBlock_16 : decode cX2_takeInBlock 16 = .ok (.invokestatic 70, 3) := by decide +kernel
theorem dX2_takeInBlock_19 : decode cX2_takeInBlock 19 = .ok (.istore_n 2, 1) := by decide +kernel
theorem dX2_takeInBlock_20 : decode cX2_takeInBlock 20 = .ok (.aload_n 0, 1) := by decide +kernel
theorem dX2_takeInBlock_21 : decode cX2_takeInBlock 21 = .ok (.getfield 11, 3) := by decide +kernel
theorem dX2_takeInBlock_24 : decode cX2_takeInBlock 24 = .ok (.iconst 3, 1) := by decide +kernel
theorem dX2_takeInBlock_25 : decode cX2_takeInBlock 25 = .ok (.aaload, 1) := by decide +kernel
theorem dX2_takeInBlock_26 : decode cX2_takeInBlock 26 = .ok (.iload_n 2, 1) := by decide +kernel
theorem dX2_takeInBlock_27 : decode cX2_takeInBlock 27 = .ok (.iaload, 1) := by decide +kernel
theorem dX2_takeInBlock_28 : decode cX2_takeInBlock 28 = .ok (.aload_n 0, 1) := by decide +kernel
theorem dX2_takeInBlock_29 : decode cX2_takeInBlock 29 = .ok (.iload_n 1, 1) := by decide +kernel
theorem dX2_takeInBlock_30 : decode cX2_takeInBlock 30 = .ok (.invokevirtual 94, 3) := by decide +kernel
theorem dX2_takeInBlock_33 : decode cX2_takeInBlock 33 = .ok (.iand, 1) := by decide +kernel
theorem dX2_takeInBlock_34 : decode cX2_takeInBlock 34 = .ok (.istore_n 3, 1) := by decide +kernel
theorem dX2_takeInBlock_35 : decode cX2_takeInBlock 35 = .ok (.iload_n 3, 1) := by decide +kernel
theorem dX2_takeInBlock_36 : decode cX2_takeInBlock 36 = .ok (.ifCond .ne 6, 3) := by decide +kernel
theorem dX2_takeInBlock_39 : decode cX2_takeInBlock 39 = .ok (.bipush (-3), 2) := by decide +kernel
theorem dX2_takeInBlock_41 : decode cX2_takeInBlock 41 = .ok (.ireturn, 1) := by decide +kernel
theorem dX2_takeInBlock_42 : decode cX2_takeInBlock 42 = .ok (.iload_n 2, 1) := by decide +kernel
theorem dX2_takeInBlock_43 : decode cX2_takeInBlock 43 = .ok (.bipush 32, 2) := by decide +kernel
theorem dX2_takeInBlock_45 : decode cX2_takeInBlock 45 = .ok (.imul, 1) := by decide +kernel
theorem dX2_takeInBlock_46 : decode cX2_takeInBlock 46 = .ok (.iload_n 3, 1) := by decide +kernel
theorem dX2_takeInBlock_47 : decode cX2_takeInBlock 47 = .ok (.invokestatic 51, 3) := by decide +kernel
theorem dX2_takeInBlock_50 : decode cX2_takeInBlock 50 = .ok (.iadd, 1) := by decide +kernel
theorem dX2_takeInBlock_51 : decode cX2_takeInBlock 51 = .ok (.istore 4, 2) := by decide +kernel
theorem dX2_takeInBlock_53 : decode cX2_takeInBlock 53 = .ok (.aload_n 0, 1) := by decide +kernel
theorem dX2_takeInBlock_54 : decode cX2_takeInBlock 54 = .ok (.iload_n 2, 1) := by decide +kernel
theorem dX2_takeInBlock_55 : decode cX2_takeInBlock 55 = .ok (.iload 4, 2) := by decide +kernel
theorem dX2_takeInBlock_57 : decode cX2_takeInBlock 57 = .ok (.invokestatic 54, 3) := by decide +kernel
theorem dX2_takeInBlock_60 : decode cX2_takeInBlock 60 = .ok (.iconst 3, 1) := by decide +kernel
theorem dX2_takeInBlock_61 : decode cX2_takeInBlock 61 = .ok (.iconst 1, 1) := by decide +kernel
theorem dX2_takeInBlock_62 : decode cX2_takeInBlock 62 = .ok (.invokevirtual 57, 3) := by decide +kernel
theorem dX2_takeInBlock_65 : decode cX2_takeInBlock 65 = .ok (.iload 4, 2) := by decide +kernel
theorem dX2_takeInBlock_67 : decode cX2_takeInBlock 67 = .ok (.ireturn, 1) := by decide +kernel
set_option maxRecDepth 20000 in
theorem ggX2_giveUpBlock_X2_hasBlock : GoodIn wsX2_giveUpBlock wsX2_hasBlock := goodIn_r _ [8, 3, 41, 42, 43, 44, 45] (by decide +kernel) (by decide +kernel)
set_option maxRecDepth 20000 in
theorem gX2_giveUpBlock_X2_hasBlock : GoodIn wsX2_giveUpBlock (wsV RX2 97 RX2 yX2_hasBlock wsX2_hasBlock) := goodIn_app (goodIn_of _ (by decide +kernel)) ggX2_giveUpBlock_X2_hasBlock
set_option maxRecDepth 20000 in
theorem ggX2_giveUpBlock_X3_wordOf : GoodIn wsX2_giveUpBlock wsX3_wordOf := goodIn_r _ [11] (by decide +kernel) (by decide +kernel)
set_option maxRecDepth 20000 in
theorem gX2_giveUpBlock_X3_wordOf_n70 : GoodIn wsX2_giveUpBlock (wsX3_wordOf) := ggX2_giveUpBlock_X3_wordOf
set_option maxRecDepth 20000 in
theorem ggX2_giveUpBlock_X2_blockBits : GoodIn wsX2_giveUpBlock wsX2_blockBits := goodIn_r _ [15, 1, 3, 9, 10, 11, 16, 17, 18, 19, 20, 21, 22, 23, 24, 41, 42, 43, 44, 45] (by decide +kernel) (by decide +kernel)
set_option maxRecDepth 20000 in
theorem gX2_giveUpBlock_X2_blockBits : GoodIn wsX2_giveUpBlock (wsV RX2 94 RX2 yX2_blockBits wsX2_blockBits) := goodIn_app (goodIn_of _ (by decide +kernel)) ggX2_giveUpBlock_X2_blockBits
set_option maxRecDepth 20000 in
theorem ggX2_giveUpBlock_X2_change : GoodIn wsX2_giveUpBlock wsX2_change := goodIn_r _ [28, 2, 29, 30, 31, 32, 7, 33, 41, 42, 43, 44, 45] (by decide +kernel) (by decide +kernel)
set_option maxRecDepth 20000 in
theorem gX2_giveUpBlock_X2_change : GoodIn wsX2_giveUpBlock (wsV RX2 57 RX2 yX2_change wsX2_change) := goodIn_app (goodIn_of _ (by decide +kernel)) ggX2_giveUpBlock_X2_change
set_option maxRecDepth 20000 in
theorem ggX2_giveUpBlock_J6_bitCount_0f7a4 : GoodIn wsX2_giveUpBlock wsJ6_bitCount_0f7a4 := goodIn_r _ [37, 38, 39, 40] (by decide +kernel) (by decide +kernel)
set_option maxRecDepth 20000 in
theorem gX2_giveUpBlock_J6_bitCount_0f7a4 : GoodIn wsX2_giveUpBlock (va_wsS RX2 80 yJ6_bitCount_0f7a4 wsJ6_bitCount_0f7a4) := goodIn_app (goodIn_of _ (by decide +kernel)) ggX2_giveUpBlock_J6_bitCount_0f7a4
theorem dX2_giveUpBlock_0 : decode cX2_giveUpBlock 0 = .ok (.aload_n 0, 1) := by decide +kernel
theorem dX2_giveUpBlock_1 : decode cX2_giveUpBlock 1 = .ok (.iload_n 1, 1) := by decide +kernel
theorem dX2_giveUpBlock_2 : decode cX2_giveUpBlock 2 = .ok (.invokevirtual 97, 3) := by decide +kernel
theorem dX2_giveUpBlock_5 : decode cX2_giveUpBlock 5 = .ok (.ifCond .ne 5, 3) := by decide +kernel
theorem dX2_giveUpBlock_8 : decode cX2_giveUpBlock 8 = .ok (.iconst (-1), 1) := by decide +kernel
theorem dX2_giveUpBlock_9 : decode cX2_giveUpBlock 9 = .ok (.ireturn, 1) := by decide +kernel
theorem dX2_giveUpBlock_10 : decode cX2_giveUpBlock 10 = .ok (.aload_n 0, 1) := by decide +kernel
theorem dX2_giveUpBlock_11 : decode cX2_giveUpBlock 11 = .ok (.getfield 16, 3) := by decide +kernel
theorem dX2_giveUpBlock_14 : decode cX2_giveUpBlock 14 = .ok (.iload_n 1, 1) := by decide +kernel
theorem dX2_giveUpBlock_15 : decode cX2_giveUpBlock 15 = .ok (.iaload, 1) := by decide +kernel
theorem dX2_giveUpBlock_16 : decode cX2_giveUpBlock 16 = .ok (.invokestatic 70, 3) := by decide +kernel
theorem dX2_giveUpBlock_19 : decode cX2_giveUpBlock 19 = .ok (.istore_n 2, 1) := by decide +kernel
theorem dX2_giveUpBlock_20 : decode cX2_giveUpBlock 20 = .ok (.aload_n 0, 1) := by decide +kernel
theorem dX2_giveUpBlock_21 : decode cX2_giveUpBlock 21 = .ok (.getfield 11, 3) := by decide +kernel
theorem dX2_giveUpBlock_24 : decode cX2_giveUpBlock 24 = .ok (.iconst 3, 1) := by decide +kernel
theorem dX2_giveUpBlock_25 : decode cX2_giveUpBlock 25 = .ok (.aaload, 1) := by decide +kernel
theorem dX2_giveUpBlock_26 : decode cX2_giveUpBlock 26 = .ok (.iload_n 2, 1) := by decide +kernel
theorem dX2_giveUpBlock_27 : decode cX2_giveUpBlock 27 = .ok (.iaload, 1) := by decide +kernel
theorem dX2_giveUpBlock_28 : decode cX2_giveUpBlock 28 = .ok (.aload_n 0, 1) := by decide +kernel
theorem dX2_giveUpBlock_29 : decode cX2_giveUpBlock 29 = .ok (.iload_n 1, 1) := by decide +kernel
theorem dX2_giveUpBlock_30 : decode cX2_giveUpBlock 30 = .ok (.invokevirtual 94, 3) := by decide +kernel
theorem dX2_giveUpBlock_33 : decode cX2_giveUpBlock 33 = .ok (.iand, 1) := by decide +kernel
theorem dX2_giveUpBlock_34 : decode cX2_giveUpBlock 34 = .ok (.istore_n 3, 1) := by decide +kernel
theorem dX2_giveUpBlock_35 : decode cX2_giveUpBlock 35 = .ok (.aload_n 0, 1) := by decide +kernel
theorem dX2_giveUpBlock_36 : decode cX2_giveUpBlock 36 = .ok (.iload_n 2, 1) := by decide +kernel
theorem dX2_giveUpBlock_37 : decode cX2_giveUpBlock 37 = .ok (.iload_n 3, 1) := by decide +kernel
theorem dX2_giveUpBlock_38 : decode cX2_giveUpBlock 38 = .ok (.iconst 3, 1) := by decide +kernel
theorem dX2_giveUpBlock_39 : decode cX2_giveUpBlock 39 = .ok (.iconst 0, 1) := by decide +kernel
theorem dX2_giveUpBlock_40 : decode cX2_giveUpBlock 40 = .ok (.invokevirtual 57, 3) := by decide +kernel
theorem dX2_giveUpBlock_43 : decode cX2_giveUpBlock 43 = .ok (.aload_n 0, 1) := by decide +kernel
theorem dX2_giveUpBlock_44 : decode cX2_giveUpBlock 44 = .ok (.getfield 20, 3) := by decide +kernel
theorem dX2_giveUpBlock_47 : decode cX2_giveUpBlock 47 = .ok (.iload_n 1, 1) := by decide +kernel
theorem dX2_giveUpBlock_48 : decode cX2_giveUpBlock 48 = .ok (.iconst 0, 1) := by decide +kernel
theorem dX2_giveUpBlock_49 : decode cX2_giveUpBlock 49 = .ok (.iastore, 1) := by decide +kernel
theorem dX2_giveUpBlock_50 : decode cX2_giveUpBlock 50 = .ok (.iload_n 3, 1) := by decide +kernel
theorem dX2_giveUpBlock_51 : decode cX2_giveUpBlock 51 = .ok (.invokestatic 80, 3) := by decide +kernel
theorem dX2_giveUpBlock_54 : decode cX2_giveUpBlock 54 = .ok (.ireturn, 1) := by decide +kernel
set_option maxRecDepth 20000 in
theorem ggX2_damageBit_X2_summaryBit : GoodIn wsX2_damageBit wsX2_summaryBit := goodIn_r _ [6, 1, 7, 8, 9, 10, 11] (by decide +kernel) (by decide +kernel)
set_option maxRecDepth 20000 in
theorem gX2_damageBit_X2_summaryBit : GoodIn wsX2_damageBit (wsV RX2 44 RX2 yX2_summaryBit wsX2_summaryBit) := goodIn_app (goodIn_of _ (by decide +kernel)) ggX2_damageBit_X2_summaryBit
theorem dX2_damageBit_0 : decode cX2_damageBit 0 = .ok (.iload_n 1, 1) := by decide +kernel
theorem dX2_damageBit_1 : decode cX2_damageBit 1 = .ok (.ifCond .lt 9, 3) := by decide +kernel
theorem dX2_damageBit_4 : decode cX2_damageBit 4 = .ok (.iload_n 1, 1) := by decide +kernel
theorem dX2_damageBit_5 : decode cX2_damageBit 5 = .ok (.bipush 10, 2) := by decide +kernel
theorem dX2_damageBit_7 : decode cX2_damageBit 7 = .ok (.if_icmp .lt 5, 3) := by decide +kernel
theorem dX2_damageBit_10 : decode cX2_damageBit 10 = .ok (.iconst (-1), 1) := by decide +kernel
theorem dX2_damageBit_11 : decode cX2_damageBit 11 = .ok (.ireturn, 1) := by decide +kernel
theorem dX2_damageBit_12 : decode cX2_damageBit 12 = .ok (.aload_n 0, 1) := by decide +kernel
theorem dX2_damageBit_13 : decode cX2_damageBit 13 = .ok (.dup, 1) := by decide +kernel
theorem dX2_damageBit_14 : decode cX2_damageBit 14 = .ok (.getfield 23, 3) := by decide +kernel
theorem dX2_damageBit_17 : decode cX2_damageBit 17 = .ok (.iconst 1, 1) := by decide +kernel
theorem dX2_damageBit_18 : decode cX2_damageBit 18 = .ok (.iload_n 1, 1) := by decide +kernel
theorem dX2_damageBit_19 : decode cX2_damageBit 19 = .ok (.ishl, 1) := by decide +kernel
theorem dX2_damageBit_20 : decode cX2_damageBit 20 = .ok (.ixor, 1) := by decide +kernel
theorem dX2_damageBit_21 : decode cX2_damageBit 21 = .ok (.putfield 23, 3) := by decide +kernel
theorem dX2_damageBit_24 : decode cX2_damageBit 24 = .ok (.aload_n 0, 1) := by decide +kernel
theorem dX2_damageBit_25 : decode cX2_damageBit 25 = .ok (.iload_n 1, 1) := by decide +kernel
theorem dX2_damageBit_26 : decode cX2_damageBit 26 = .ok (.invokevirtual 44, 3) := by decide +kernel
theorem dX2_damageBit_29 : decode cX2_damageBit 29 = .ok (.ireturn, 1) := by decide +kernel
set_option maxRecDepth 20000 in
theorem ggX2_repairBits_X2_rightSummary : GoodIn wsX2_repairBits wsX2_rightSummary := goodIn_r _ [6, 7, 8, 9, 5, 10, 11, 19, 20, 21, 22, 23] (by decide +kernel) (by decide +kernel)
set_option maxRecDepth 20000 in
theorem gX2_repairBits_X2_rightSummary : GoodIn wsX2_repairBits (wsV RX2 100 RX2 yX2_rightSummary wsX2_rightSummary) := goodIn_app (goodIn_of _ (by decide +kernel)) ggX2_repairBits_X2_rightSummary
set_option maxRecDepth 20000 in
theorem ggX2_repairBits_J6_bitCount_0f7a4 : GoodIn wsX2_repairBits wsJ6_bitCount_0f7a4 := goodIn_r _ [15, 16, 17, 18] (by decide +kernel) (by decide +kernel)
set_option maxRecDepth 20000 in
theorem gX2_repairBits_J6_bitCount_0f7a4 : GoodIn wsX2_repairBits (va_wsS RX2 80 yJ6_bitCount_0f7a4 wsJ6_bitCount_0f7a4) := goodIn_app (goodIn_of _ (by decide +kernel)) ggX2_repairBits_J6_bitCount_0f7a4
theorem dX2_repairBits_0 : decode cX2_repairBits 0 = .ok (.aload_n 0, 1) := by decide +kernel
theorem dX2_repairBits_1 : decode cX2_repairBits 1 = .ok (.invokevirtual 100, 3) := by decide +kernel
theorem dX2_repairBits_4 : decode cX2_repairBits 4 = .ok (.istore_n 1, 1) := by decide +kernel
theorem dX2_repairBits_5 : decode cX2_repairBits 5 = .ok (.aload_n 0, 1) := by decide +kernel
theorem dX2_repairBits_6 : decode cX2_repairBits 6 = .ok (.getfield 23, 3) := by decide +kernel
theorem dX2_repairBits_9 : decode cX2_repairBits 9 = .ok (.iload_n 1, 1) := by decide +kernel
theorem dX2_repairBits_10 : decode cX2_repairBits 10 = .ok (.ixor, 1) := by decide +kernel
theorem dX2_repairBits_11 : decode cX2_repairBits 11 = .ok (.invokestatic 80, 3) := by decide +kernel
theorem dX2_repairBits_14 : decode cX2_repairBits 14 = .ok (.istore_n 2, 1) := by decide +kernel
theorem dX2_repairBits_15 : decode cX2_repairBits 15 = .ok (.aload_n 0, 1) := by decide +kernel
theorem dX2_repairBits_16 : decode cX2_repairBits 16 = .ok (.iload_n 1, 1) := by decide +kernel
theorem dX2_repairBits_17 : decode cX2_repairBits 17 = .ok (.putfield 23, 3) := by decide +kernel
theorem dX2_repairBits_20 : decode cX2_repairBits 20 = .ok (.iload_n 2, 1) := by decide +kernel
theorem dX2_repairBits_21 : decode cX2_repairBits 21 = .ok (.ireturn, 1) := by decide +kernel
set_option maxRecDepth 20000 in
theorem ggX2_change_X2_isFull : GoodIn wsX2_change wsX2_isFull := goodIn_r _ [7, 1, 8, 9, 10, 11, 12] (by decide +kernel) (by decide +kernel)
set_option maxRecDepth 20000 in
theorem gX2_change_X2_isFull : GoodIn wsX2_change (wsV RX2 47 RX2 yX2_isFull wsX2_isFull) := goodIn_app (goodIn_of _ (by decide +kernel)) ggX2_change_X2_isFull
theorem dX2_change_0 : decode cX2_change 0 = .ok (.iload_n 2, 1) := by decide +kernel
theorem dX2_change_1 : decode cX2_change 1 = .ok (.ifCond .ne 4, 3) := by decide +kernel
theorem dX2_change_4 : decode cX2_change 4 = .ok (.return_, 1) := by decide +kernel
theorem dX2_change_5 : decode cX2_change 5 = .ok (.aload_n 0, 1) := by decide +kernel
theorem dX2_change_6 : decode cX2_change 6 = .ok (.getfield 11, 3) := by decide +kernel
theorem dX2_change_9 : decode cX2_change 9 = .ok (.iload_n 3, 1) := by decide +kernel
theorem dX2_change_10 : decode cX2_change 10 = .ok (.aaload, 1) := by decide +kernel
theorem dX2_change_11 : decode cX2_change 11 = .ok (.iload_n 1, 1) := by decide +kernel
theorem dX2_change_12 : decode cX2_change 12 = .ok (.dup2, 1) := by decide +kernel
theorem dX2_change_13 : decode cX2_change 13 = .ok (.iaload, 1) := by decide +kernel
theorem dX2_change_14 : decode cX2_change 14 = .ok (.iload_n 2, 1) := by decide +kernel
theorem dX2_change_15 : decode cX2_change 15 = .ok (.iconst (-1), 1) := by decide +kernel
theorem dX2_change_16 : decode cX2_change 16 = .ok (.ixor, 1) := by decide +kernel
theorem dX2_change_17 : decode cX2_change 17 = .ok (.iand, 1) := by decide +kernel
theorem dX2_change_18 : decode cX2_change 18 = .ok (.iastore, 1) := by decide +kernel
theorem dX2_change_19 : decode cX2_change 19 = .ok (.aload_n 0, 1) := by decide +kernel
theorem dX2_change_20 : decode cX2_change 20 = .ok (.getfield 11, 3) := by decide +kernel
theorem dX2_change_23 : decode cX2_change 23 = .ok (.iload 4, 2) := by decide +kernel
theorem dX2_change_25 : decode cX2_change 25 = .ok (.aaload, 1) := by decide +kernel
theorem dX2_change_26 : decode cX2_change 26 = .ok (.iload_n 1, 1) := by decide +kernel
theorem dX2_change_27 : decode cX2_change 27 = .ok (.dup2, 1) := by decide +kernel
theorem dX2_change_28 : decode cX2_change 28 = .ok (.iaload, 1) := by decide +kernel
theorem dX2_change_29 : decode cX2_change 29 = .ok (.iload_n 2, 1) := by decide +kernel
theorem dX2_change_30 : decode cX2_change 30 = .ok (.ior, 1) := by decide +kernel
theorem dX2_change_31 : decode cX2_change 31 = .ok (.iastore, 1) := by decide +kernel
theorem dX2_change_32 : decode cX2_change 32 = .ok (.aload_n 0, 1) := by decide +kernel
theorem dX2_change_33 : decode cX2_change 33 = .ok (.iload_n 1, 1) := by decide +kernel
theorem dX2_change_34 : decode cX2_change 34 = .ok (.invokevirtual 47, 3) := by decide +kernel
theorem dX2_change_37 : decode cX2_change 37 = .ok (.ifCond .eq 18, 3) := by decide +kernel
theorem dX2_change_40 : decode cX2_change 40 = .ok (.aload_n 0, 1) := by decide +kernel
theorem dX2_change_41 : decode cX2_change 41 = .ok (.dup, 1) := by decide +kernel
theorem dX2_change_42 : decode cX2_change 42 = .ok (.getfield 23, 3) := by decide +kernel
theorem dX2_change_45 : decode cX2_change 45 = .ok (.iconst 1, 1) := by decide +kernel
theorem dX2_change_46 : decode cX2_change 46 = .ok (.iload_n 1, 1) := by decide +kernel
theorem dX2_change_47 : decode cX2_change 47 = .ok (.ishl, 1) := by decide +kernel
theorem dX2_change_48 : decode cX2_change 48 = .ok (.ior, 1) := by decide +kernel
theorem dX2_change_49 : decode cX2_change 49 = .ok (.putfield 23, 3) := by decide +kernel
theorem dX2_change_52 : decode cX2_change 52 = .ok (.goto 17, 3) := by decide +kernel
theorem dX2_change_55 : decode cX2_change 55 = .ok (.aload_n 0, 1) := by decide +kernel
theorem dX2_change_56 : decode cX2_change 56 = .ok (.dup, 1) := by decide +kernel
theorem dX2_change_57 : decode cX2_change 57 = .ok (.getfield 23, 3) := by decide +kernel
theorem dX2_change_60 : decode cX2_change 60 = .ok (.iconst 1, 1) := by decide +kernel
theorem dX2_change_61 : decode cX2_change 61 = .ok (.iload_n 1, 1) := by decide +kernel
theorem dX2_change_62 : decode cX2_change 62 = .ok (.ishl, 1) := by decide +kernel
theorem dX2_change_63 : decode cX2_change 63 = .ok (.iconst (-1), 1) := by decide +kernel
theorem dX2_change_64 : decode cX2_change 64 = .ok (.ixor, 1) := by decide +kernel
theorem dX2_change_65 : decode cX2_change 65 = .ok (.iand, 1) := by decide +kernel
theorem dX2_change_66 : decode cX2_change 66 = .ok (.putfield 23, 3) := by decide +kernel
theorem dX2_change_69 : decode cX2_change 69 = .ok (.return_, 1) := by decide +kernel
set_option maxRecDepth 20000 in
theorem ggX2_total_J6_bitCount_0f7a4 : GoodIn wsX2_total wsJ6_bitCount_0f7a4 := goodIn_r _ [5, 6, 7, 8] (by decide +kernel) (by decide +kernel)
set_option maxRecDepth 20000 in
theorem gX2_total_J6_bitCount_0f7a4 : GoodIn wsX2_total (va_wsS RX2 80 yJ6_bitCount_0f7a4 wsJ6_bitCount_0f7a4) := goodIn_app (goodIn_of _ (by decide +kernel)) ggX2_total_J6_bitCount_0f7a4
theorem dX2_total_0 : decode cX2_total 0 = .ok (.iconst 0, 1) := by decide +kernel
theorem dX2_total_1 : decode cX2_total 1 = .ok (.istore_n 2, 1) := by decide +kernel
theorem dX2_total_2 : decode cX2_total 2 = .ok (.iconst 0, 1) := by decide +kernel
theorem dX2_total_3 : decode cX2_total 3 = .ok (.istore_n 3, 1) := by decide +kernel
theorem dX2_total_4 : decode cX2_total 4 = .ok (.iload_n 3, 1) := by decide +kernel
theorem dX2_total_5 : decode cX2_total 5 = .ok (.bipush 10, 2) := by decide +kernel
theorem dX2_total_7 : decode cX2_total 7 = .ok (.if_icmp .ge 23, 3) := by decide +kernel
theorem dX2_total_10 : decode cX2_total 10 = .ok (.iload_n 2, 1) := by decide +kernel
theorem dX2_total_11 : decode cX2_total 11 = .ok (.aload_n 0, 1) := by decide +kernel
theorem dX2_total_12 : decode cX2_total 12 = .ok (.getfield 11, 3) := by decide +kernel
theorem dX2_total_15 : decode cX2_total 15 = .ok (.iload_n 1, 1) := by decide +kernel
theorem dX2_total_16 : decode cX2_total 16 = .ok (.aaload, 1) := by decide +kernel
theorem dX2_total_17 : decode cX2_total 17 = .ok (.iload_n 3, 1) := by decide +kernel
theorem dX2_total_18 : decode cX2_total 18 = .ok (.iaload, 1) := by decide +kernel
theorem dX2_total_19 : decode cX2_total 19 = .ok (.invokestatic 80, 3) := by decide +kernel
theorem dX2_total_22 : decode cX2_total 22 = .ok (.iadd, 1) := by decide +kernel
theorem dX2_total_23 : decode cX2_total 23 = .ok (.istore_n 2, 1) := by decide +kernel
theorem dX2_total_24 : decode cX2_total 24 = .ok (.iinc 3 1, 3) := by decide +kernel
theorem dX2_total_27 : decode cX2_total 27 = .ok (.goto (-23), 3) := by decide +kernel
theorem dX2_total_30 : decode cX2_total 30 = .ok (.iload_n 2, 1) := by decide +kernel
theorem dX2_total_31 : decode cX2_total 31 = .ok (.ireturn, 1) := by decide +kernel
set_option maxRecDepth 20000 in
theorem ggX2_kindOf_X3_wordOf : GoodIn wsX2_kindOf wsX3_wordOf := goodIn_r _ [4] (by decide +kernel) (by decide +kernel)
set_option maxRecDepth 20000 in
theorem gX2_kindOf_X3_wordOf_n70 : GoodIn wsX2_kindOf (wsX3_wordOf) := ggX2_kindOf_X3_wordOf
set_option maxRecDepth 20000 in
theorem ggX2_kindOf_X3_bitOf : GoodIn wsX2_kindOf wsX3_bitOf := goodIn_r _ [6] (by decide +kernel) (by decide +kernel)
set_option maxRecDepth 20000 in
theorem gX2_kindOf_X3_bitOf_n54 : GoodIn wsX2_kindOf (wsX3_bitOf) := ggX2_kindOf_X3_bitOf
theorem dX2_kindOf_0 : decode cX2_kindOf 0 = .ok (.iconst 0, 1) := by decide +kernel
theorem dX2_kindOf_1 : decode cX2_kindOf 1 = .ok (.istore_n 2, 1) := by decide +kernel
theorem dX2_kindOf_2 : decode cX2_kindOf 2 = .ok (.iload_n 2, 1) := by decide +kernel
theorem dX2_kindOf_3 : decode cX2_kindOf 3 = .ok (.iconst 4, 1) := by decide +kernel
theorem dX2_kindOf_4 : decode cX2_kindOf 4 = .ok (.if_icmp .ge 30, 3) := by decide +kernel
theorem dX2_kindOf_7 : decode cX2_kindOf 7 = .ok (.aload_n 0, 1) := by decide +kernel
theorem dX2_kindOf_8 : decode cX2_kindOf 8 = .ok (.getfield 11, 3) := by decide +kernel
theorem dX2_kindOf_11 : decode cX2_kindOf 11 = .ok (.iload_n 2, 1) := by decide +kernel
theorem dX2_kindOf_12 : decode cX2_kindOf 12 = .ok (.aaload, 1) := by decide +kernel
theorem dX2_kindOf_13 : decode cX2_kindOf 13 = .ok (.iload_n 1, 1) := by decide +kernel
theorem dX2_kindOf_14 : decode cX2_kindOf 14 = .ok (.invokestatic 70, 3) := by decide +kernel
theorem dX2_kindOf_17 : decode cX2_kindOf 17 = .ok (.iaload, 1) := by decide +kernel
theorem dX2_kindOf_18 : decode cX2_kindOf 18 = .ok (.iload_n 1, 1) := by decide +kernel
theorem dX2_kindOf_19 : decode cX2_kindOf 19 = .ok (.invokestatic 54, 3) := by decide +kernel
theorem dX2_kindOf_22 : decode cX2_kindOf 22 = .ok (.iand, 1) := by decide +kernel
theorem dX2_kindOf_23 : decode cX2_kindOf 23 = .ok (.ifCond .eq 5, 3) := by decide +kernel
theorem dX2_kindOf_26 : decode cX2_kindOf 26 = .ok (.iload_n 2, 1) := by decide +kernel
theorem dX2_kindOf_27 : decode cX2_kindOf 27 = .ok (.ireturn, 1) := by decide +kernel
theorem dX2_kindOf_28 : decode cX2_kindOf 28 = .ok (.iinc 2 1, 3) := by decide +kernel
theorem dX2_kindOf_31 : decode cX2_kindOf 31 = .ok (.goto (-29), 3) := by decide +kernel
theorem dX2_kindOf_34 : decode cX2_kindOf 34 = .ok (.iconst 0, 1) := by decide +kernel
theorem dX2_kindOf_35 : decode cX2_kindOf 35 = .ok (.ireturn, 1) := by decide +kernel
set_option maxRecDepth 20000 in
theorem ggX2_isFree_X3_wordOf : GoodIn wsX2_isFree wsX3_wordOf := goodIn_r _ [4] (by decide +kernel) (by decide +kernel)
set_option maxRecDepth 20000 in
theorem gX2_isFree_X3_wordOf_n70 : GoodIn wsX2_isFree (wsX3_wordOf) := ggX2_isFree_X3_wordOf
set_option maxRecDepth 20000 in
theorem ggX2_isFree_X3_bitOf : GoodIn wsX2_isFree wsX3_bitOf := goodIn_r _ [6] (by decide +kernel) (by decide +kernel)
set_option maxRecDepth 20000 in
theorem gX2_isFree_X3_bitOf_n54 : GoodIn wsX2_isFree (wsX3_bitOf) := ggX2_isFree_X3_bitOf
theorem dX2_isFree_0 : decode cX2_isFree 0 = .ok (.aload_n 0, 1) := by decide +kernel
theorem dX2_isFree_1 : decode cX2_isFree 1 = .ok (.getfield 11, 3) := by decide +kernel
theorem dX2_isFree_4 : decode cX2_isFree 4 = .ok (.iconst 0, 1) := by decide +kernel
theorem dX2_isFree_5 : decode cX2_isFree 5 = .ok (.aaload, 1) := by decide +kernel
theorem dX2_isFree_6 : decode cX2_isFree 6 = .ok (.iload_n 1, 1) := by decide +kernel
theorem dX2_isFree_7 : decode cX2_isFree 7 = .ok (.invokestatic 70, 3) := by decide +kernel
theorem dX2_isFree_10 : decode cX2_isFree 10 = .ok (.iaload, 1) := by decide +kernel
theorem dX2_isFree_11 : decode cX2_isFree 11 = .ok (.iload_n 1, 1) := by decide +kernel
theorem dX2_isFree_12 : decode cX2_isFree 12 = .ok (.invokestatic 54, 3) := by decide +kernel
theorem dX2_isFree_15 : decode cX2_isFree 15 = .ok (.iand, 1) := by decide +kernel
theorem dX2_isFree_16 : decode cX2_isFree 16 = .ok (.ifCond .eq 7, 3) := by decide +kernel
theorem dX2_isFree_19 : decode cX2_isFree 19 = .ok (.iconst 1, 1) := by decide +kernel
theorem dX2_isFree_20 : decode cX2_isFree 20 = .ok (.goto 4, 3) := by decide +kernel
theorem dX2_isFree_23 : decode cX2_isFree 23 = .ok (.iconst 0, 1) := by decide +kernel
theorem dX2_isFree_24 : decode cX2_isFree 24 = .ok (.ireturn, 1) := by decide +kernel
theorem dX2_isFull_0 : decode cX2_isFull 0 = .ok (.aload_n 0, 1) := by decide +kernel
theorem dX2_isFull_1 : decode cX2_isFull 1 = .ok (.getfield 11, 3) := by decide +kernel
theorem dX2_isFull_4 : decode cX2_isFull 4 = .ok (.iconst 0, 1) := by decide +kernel
theorem dX2_isFull_5 : decode cX2_isFull 5 = .ok (.aaload, 1) := by decide +kernel
theorem dX2_isFull_6 : decode cX2_isFull 6 = .ok (.iload_n 1, 1) := by decide +kernel
theorem dX2_isFull_7 : decode cX2_isFull 7 = .ok (.iaload, 1) := by decide +kernel
theorem dX2_isFull_8 : decode cX2_isFull 8 = .ok (.ifCond .ne 7, 3) := by decide +kernel
theorem dX2_isFull_11 : decode cX2_isFull 11 = .ok (.iconst 1, 1) := by decide +kernel
theorem dX2_isFull_12 : decode cX2_isFull 12 = .ok (.goto 4, 3) := by decide +kernel
theorem dX2_isFull_15 : decode cX2_isFull 15 = .ok (.iconst 0, 1) := by decide +kernel
theorem dX2_isFull_16 : decode cX2_isFull 16 = .ok (.ireturn, 1) := by decide +kernel
set_option maxRecDepth 20000 in
theorem ggX2_firstFree_X2_isFull : GoodIn wsX2_firstFree wsX2_isFull := goodIn_r _ [6, 1, 17, 18, 19, 20, 21] (by decide +kernel) (by decide +kernel)
set_option maxRecDepth 20000 in
theorem gX2_firstFree_X2_isFull : GoodIn wsX2_firstFree (wsV RX2 47 RX2 yX2_isFull wsX2_isFull) := goodIn_app (goodIn_of _ (by decide +kernel)) ggX2_firstFree_X2_isFull
set_option maxRecDepth 20000 in
theorem ggX2_firstFree_X3_lowestBit : GoodIn wsX2_firstFree wsX3_lowestBit := goodIn_r _ [9, 10, 11, 12, 13, 14, 15, 16] (by decide +kernel) (by decide +kernel)
set_option maxRecDepth 20000 in
theorem gX2_firstFree_X3_lowestBit_n51 : GoodIn wsX2_firstFree (wsX3_lowestBit) := ggX2_firstFree_X3_lowestBit
theorem dX2_firstFree_0 : decode cX2_firstFree 0 = .ok (.aload_n 0, 1) := by decide +kernel
theorem dX2_firstFree_1 : decode cX2_firstFree 1 = .ok (.iload_n 1, 1) := by decide +kernel
theorem dX2_firstFree_2 : decode cX2_firstFree 2 = .ok (.invokevirtual 47, 3) := by decide +kernel
theorem dX2_firstFree_5 : decode cX2_firstFree 5 = .ok (.ifCond .eq 8, 3) := by decide +kernel
theorem dX2_firstFree_8 : decode cX2_firstFree 8 = .ok (.bipush (-9), 2) := by decide +kernel
theorem dX2_firstFree_10 : decode cX2_firstFree 10 = .ok (.goto 19, 3) := by decide +kernel
theorem dX2_firstFree_13 : decode cX2_firstFree 13 = .ok (.iload_n 1, 1) := by decide +kernel
theorem dX2_firstFree_14 : decode cX2_firstFree 14 = .ok (.bipush 32, 2) := by decide +kernel
theorem dX2_firstFree_16 : decode cX2_firstFree 16 = .ok (.imul, 1) := by decide +kernel
theorem dX2_firstFree_17 : decode cX2_firstFree 17 = .ok (.aload_n 0, 1) := by decide +kernel
theorem dX2_firstFree_18 : decode cX2_firstFree 18 = .ok (.getfield 11, 3) := by decide +kernel
theorem dX2_firstFree_21 : decode cX2_firstFree 21 = .ok (.iconst 0, 1) := by decide +kernel
theorem dX2_firstFree_22 : decode cX2_firstFree 22 = .ok (.aaload, 1) := by decide +kernel
theorem dX2_firstFree_23 : decode cX2_firstFree 23 = .ok (.iload_n 1, 1) := by decide +kernel
theorem dX2_firstFree_24 : decode cX2_firstFree 24 = .ok (.iaload, 1) := by decide +kernel
theorem dX2_firstFree_25 : decode cX2_firstFree 25 = .ok (.invokestatic 51, 3) := by decide +kernel
theorem dX2_firstFree_28 : decode cX2_firstFree 28 = .ok (.iadd, 1) := by decide +kernel
theorem dX2_firstFree_29 : decode cX2_firstFree 29 = .ok (.ireturn, 1) := by decide +kernel
theorem dX2_summaryBit_0 : decode cX2_summaryBit 0 = .ok (.aload_n 0, 1) := by decide +kernel
theorem dX2_summaryBit_1 : decode cX2_summaryBit 1 = .ok (.getfield 23, 3) := by decide +kernel
theorem dX2_summaryBit_4 : decode cX2_summaryBit 4 = .ok (.iload_n 1, 1) := by decide +kernel
theorem dX2_summaryBit_5 : decode cX2_summaryBit 5 = .ok (.ishr, 1) := by decide +kernel
theorem dX2_summaryBit_6 : decode cX2_summaryBit 6 = .ok (.iconst 1, 1) := by decide +kernel
theorem dX2_summaryBit_7 : decode cX2_summaryBit 7 = .ok (.iand, 1) := by decide +kernel
theorem dX2_summaryBit_8 : decode cX2_summaryBit 8 = .ok (.ireturn, 1) := by decide +kernel
set_option maxRecDepth 20000 in
theorem ggX2_rightSummary_X2_isFull : GoodIn wsX2_rightSummary wsX2_isFull := goodIn_r _ [5, 6, 7, 8, 9, 10, 11] (by decide +kernel) (by decide +kernel)
set_option maxRecDepth 20000 in
theorem gX2_rightSummary_X2_isFull : GoodIn wsX2_rightSummary (wsV RX2 47 RX2 yX2_isFull wsX2_isFull) := goodIn_app (goodIn_of _ (by decide +kernel)) ggX2_rightSummary_X2_isFull
theorem dX2_rightSummary_0 : decode cX2_rightSummary 0 = .ok (.iconst 0, 1) := by decide +kernel
theorem dX2_rightSummary_1 : decode cX2_rightSummary 1 = .ok (.istore_n 1, 1) := by decide +kernel
theorem dX2_rightSummary_2 : decode cX2_rightSummary 2 = .ok (.iconst 0, 1) := by decide +kernel
theorem dX2_rightSummary_3 : decode cX2_rightSummary 3 = .ok (.istore_n 2, 1) := by decide +kernel
theorem dX2_rightSummary_4 : decode cX2_rightSummary 4 = .ok (.iload_n 2, 1) := by decide +kernel
theorem dX2_rightSummary_5 : decode cX2_rightSummary 5 = .ok (.bipush 10, 2) := by decide +kernel
theorem dX2_rightSummary_7 : decode cX2_rightSummary 7 = .ok (.if_icmp .ge 23, 3) := by decide +kernel
theorem dX2_rightSummary_10 : decode cX2_rightSummary 10 = .ok (.aload_n 0, 1) := by decide +kernel
theorem dX2_rightSummary_11 : decode cX2_rightSummary 11 = .ok (.iload_n 2, 1) := by decide +kernel
theorem dX2_rightSummary_12 : decode cX2_rightSummary 12 = .ok (.invokevirtual 47, 3) := by decide +kernel
theorem dX2_rightSummary_15 : decode cX2_rightSummary 15 = .ok (.ifCond .eq 9, 3) := by decide +kernel
theorem dX2_rightSummary_18 : decode cX2_rightSummary 18 = .ok (.iload_n 1, 1) := by decide +kernel
theorem dX2_rightSummary_19 : decode cX2_rightSummary 19 = .ok (.iconst 1, 1) := by decide +kernel
theorem dX2_rightSummary_20 : decode cX2_rightSummary 20 = .ok (.iload_n 2, 1) := by decide +kernel
theorem dX2_rightSummary_21 : decode cX2_rightSummary 21 = .ok (.ishl, 1) := by decide +kernel
theorem dX2_rightSummary_22 : decode cX2_rightSummary 22 = .ok (.ior, 1) := by decide +kernel
theorem dX2_rightSummary_23 : decode cX2_rightSummary 23 = .ok (.istore_n 1, 1) := by decide +kernel
theorem dX2_rightSummary_24 : decode cX2_rightSummary 24 = .ok (.iinc 2 1, 3) := by decide +kernel
theorem dX2_rightSummary_27 : decode cX2_rightSummary 27 = .ok (.goto (-23), 3) := by decide +kernel
theorem dX2_rightSummary_30 : decode cX2_rightSummary 30 = .ok (.iload_n 1, 1) := by decide +kernel
theorem dX2_rightSummary_31 : decode cX2_rightSummary 31 = .ok (.ireturn, 1) := by decide +kernel
set_option maxRecDepth 20000 in
theorem ggX2_runStart_X2_isFree : GoodIn wsX2_runStart wsX2_isFree := goodIn_r _ [5, 6, 7, 8, 9, 10, 11, 12, 13, 14, 15, 16] (by decide +kernel) (by decide +kernel)
set_option maxRecDepth 20000 in
theorem gX2_runStart_X2_isFree : GoodIn wsX2_runStart (wsV RX2 103 RX2 yX2_isFree wsX2_isFree) := goodIn_app (goodIn_of _ (by decide +kernel)) ggX2_runStart_X2_isFree
theorem dX2_runStart_0 : decode cX2_runStart 0 = .ok (.iconst 0, 1) := by decide +kernel
theorem dX2_runStart_1 : decode cX2_runStart 1 = .ok (.istore_n 2, 1) := by decide +kernel
theorem dX2_runStart_2 : decode cX2_runStart 2 = .ok (.iconst 0, 1) := by decide +kernel
theorem dX2_runStart_3 : decode cX2_runStart 3 = .ok (.istore_n 3, 1) := by decide +kernel
theorem dX2_runStart_4 : decode cX2_runStart 4 = .ok (.iload_n 3, 1) := by decide +kernel
theorem dX2_runStart_5 : decode cX2_runStart 5 = .ok (.sipush 320, 3) := by decide +kernel
theorem dX2_runStart_8 : decode cX2_runStart 8 = .ok (.if_icmp .ge 36, 3) := by decide +kernel
theorem dX2_runStart_11 : decode cX2_runStart 11 = .ok (.aload_n 0, 1) := by decide +kernel
theorem dX2_runStart_12 : decode cX2_runStart 12 = .ok (.iload_n 3, 1) := by decide +kernel
theorem dX2_runStart_13 : decode cX2_runStart 13 = .ok (.invokevirtual 103, 3) := by decide +kernel
theorem dX2_runStart_16 : decode cX2_runStart 16 = .ok (.ifCond .eq 9, 3) := by decide +kernel
theorem dX2_runStart_19 : decode cX2_runStart 19 = .ok (.iload_n 2, 1) := by decide +kernel
theorem dX2_runStart_20 : decode cX2_runStart 20 = .ok (.iconst 1, 1) := by decide +kernel
theorem dX2_runStart_21 : decode cX2_runStart 21 = .ok (.iadd, 1) := by decide +kernel
theorem dX2_runStart_22 : decode cX2_runStart 22 = .ok (.goto 4, 3) := by decide +kernel
theorem dX2_runStart_25 : decode cX2_runStart 25 = .ok (.iconst 0, 1) := by decide +kernel
theorem dX2_runStart_26 : decode cX2_runStart 26 = .ok (.istore_n 2, 1) := by decide +kernel
theorem dX2_runStart_27 : decode cX2_runStart 27 = .ok (.iload_n 2, 1) := by decide +kernel
theorem dX2_runStart_28 : decode cX2_runStart 28 = .ok (.iload_n 1, 1) := by decide +kernel
theorem dX2_runStart_29 : decode cX2_runStart 29 = .ok (.if_icmp .ne 9, 3) := by decide +kernel
theorem dX2_runStart_32 : decode cX2_runStart 32 = .ok (.iload_n 3, 1) := by decide +kernel
theorem dX2_runStart_33 : decode cX2_runStart 33 = .ok (.iload_n 1, 1) := by decide +kernel
theorem dX2_runStart_34 : decode cX2_runStart 34 = .ok (.isub, 1) := by decide +kernel
theorem dX2_runStart_35 : decode cX2_runStart 35 = .ok (.iconst 1, 1) := by decide +kernel
theorem dX2_runStart_36 : decode cX2_runStart 36 = .ok (.iadd, 1) := by decide +kernel
theorem dX2_runStart_37 : decode cX2_runStart 37 = .ok (.ireturn, 1) := by decide +kernel
theorem dX2_runStart_38 : decode cX2_runStart 38 = .ok (.iinc 3 1, 3) := by decide +kernel
theorem dX2_runStart_41 : decode cX2_runStart 41 = .ok (.goto (-37), 3) := by decide +kernel
theorem dX2_runStart_44 : decode cX2_runStart 44 = .ok (.bipush (-9), 2) := by decide +kernel
theorem dX2_runStart_46 : decode cX2_runStart 46 = .ok (.ireturn, 1) := by decide +kernel
set_option maxRecDepth 20000 in
theorem ggX2_freeRuns_X2_isFree : GoodIn wsX2_freeRuns wsX2_isFree := goodIn_r _ [5, 6, 7, 8, 9, 10, 11, 12, 13, 14, 15, 16] (by decide +kernel) (by decide +kernel)
set_option maxRecDepth 20000 in
theorem gX2_freeRuns_X2_isFree : GoodIn wsX2_freeRuns (wsV RX2 103 RX2 yX2_isFree wsX2_isFree) := goodIn_app (goodIn_of _ (by decide +kernel)) ggX2_freeRuns_X2_isFree
theorem dX2_freeRuns_0 : decode cX2_freeRuns 0 = .ok (.iconst 0, 1) := by decide +kernel
theorem dX2_freeRuns_1 : decode cX2_freeRuns 1 = .ok (.istore_n 1, 1) := by decide +kernel
theorem dX2_freeRuns_2 : decode cX2_freeRuns 2 = .ok (.iconst 0, 1) := by decide +kernel
theorem dX2_freeRuns_3 : decode cX2_freeRuns 3 = .ok (.istore_n 2, 1) := by decide +kernel
theorem dX2_freeRuns_4 : decode cX2_freeRuns 4 = .ok (.iconst 0, 1) := by decide +kernel
theorem dX2_freeRuns_5 : decode cX2_freeRuns 5 = .ok (.istore_n 3, 1) := by decide +kernel
theorem dX2_freeRuns_6 : decode cX2_freeRuns 6 = .ok (.iload_n 3, 1) := by decide +kernel
theorem dX2_freeRuns_7 : decode cX2_freeRuns 7 = .ok (.sipush 320, 3) := by decide +kernel
theorem dX2_freeRuns_10 : decode cX2_freeRuns 10 = .ok (.if_icmp .ge 31, 3) := by decide +kernel
theorem dX2_freeRuns_13 : decode cX2_freeRuns 13 = .ok (.aload_n 0, 1) := by decide +kernel
theorem dX2_freeRuns_14 : decode cX2_freeRuns 14 = .ok (.iload_n 3, 1) := by decide +kernel
theorem dX2_freeRuns_15 : decode cX2_freeRuns 15 = .ok (.invokevirtual 103, 3) := by decide +kernel
theorem dX2_freeRuns_18 : decode cX2_freeRuns 18 = .ok (.istore 4, 2) := by decide +kernel
theorem dX2_freeRuns_20 : decode cX2_freeRuns 20 = .ok (.iload 4, 2) := by decide +kernel
theorem dX2_freeRuns_22 : decode cX2_freeRuns 22 = .ok (.ifCond .eq 10, 3) := by decide +kernel
theorem dX2_freeRuns_25 : decode cX2_freeRuns 25 = .ok (.iload_n 2, 1) := by decide +kernel
theorem dX2_freeRuns_26 : decode cX2_freeRuns 26 = .ok (.ifCond .ne 6, 3) := by decide +kernel
theorem dX2_freeRuns_29 : decode cX2_freeRuns 29 = .ok (.iinc 1 1, 3) := by decide +kernel
theorem dX2_freeRuns_32 : decode cX2_freeRuns 32 = .ok (.iload 4, 2) := by decide +kernel
theorem dX2_freeRuns_34 : decode cX2_freeRuns 34 = .ok (.istore_n 2, 1) := by decide +kernel
theorem dX2_freeRuns_35 : decode cX2_freeRuns 35 = .ok (.iinc 3 1, 3) := by decide +kernel
theorem dX2_freeRuns_38 : decode cX2_freeRuns 38 = .ok (.goto (-32), 3) := by decide +kernel
theorem dX2_freeRuns_41 : decode cX2_freeRuns 41 = .ok (.iload_n 1, 1) := by decide +kernel
theorem dX2_freeRuns_42 : decode cX2_freeRuns 42 = .ok (.ireturn, 1) := by decide +kernel
set_option maxRecDepth 20000 in
theorem ggX2_longestFreeRun_X2_isFree : GoodIn wsX2_longestFreeRun wsX2_isFree := goodIn_r _ [9, 10, 11, 12, 13, 14, 15, 16, 17, 18, 19, 20] (by decide +kernel) (by decide +kernel)
set_option maxRecDepth 20000 in
theorem gX2_longestFreeRun_X2_isFree : GoodIn wsX2_longestFreeRun (wsV RX2 103 RX2 yX2_isFree wsX2_isFree) := goodIn_app (goodIn_of _ (by decide +kernel)) ggX2_longestFreeRun_X2_isFree
theorem dX2_longestFreeRun_0 : decode cX2_longestFreeRun 0 = .ok (.iconst 0, 1) := by decide +kernel
theorem dX2_longestFreeRun_1 : decode cX2_longestFreeRun 1 = .ok (.istore_n 1, 1) := by decide +kernel
theorem dX2_longestFreeRun_2 : decode cX2_longestFreeRun 2 = .ok (.iconst 0, 1) := by decide +kernel
theorem dX2_longestFreeRun_3 : decode cX2_longestFreeRun 3 = .ok (.istore_n 2, 1) := by decide +kernel
theorem dX2_longestFreeRun_4 : decode cX2_longestFreeRun 4 = .ok (.iconst 0, 1) := by decide +kernel
theorem dX2_longestFreeRun_5 : decode cX2_longestFreeRun 5 = .ok (.istore_n 3, 1) := by decide +kernel
theorem dX2_longestFreeRun_6 : decode cX2_longestFreeRun 6 = .ok (.iload_n 3, 1) := by decide +kernel
theorem dX2_longestFreeRun_7 : decode cX2_longestFreeRun 7 = .ok (.sipush 320, 3) := by decide +kernel
theorem dX2_longestFreeRun_10 : decode cX2_longestFreeRun 10 = .ok (.if_icmp .ge 31, 3) := by decide +kernel
theorem dX2_longestFreeRun_13 : decode cX2_longestFreeRun 13 = .ok (.aload_n 0, 1) := by decide +kernel
theorem dX2_longestFreeRun_14 : decode cX2_longestFreeRun 14 = .ok (.iload_n 3, 1) := by decide +kernel
theorem dX2_longestFreeRun_15 : decode cX2_longestFreeRun 15 = .ok (.invokevirtual 103, 3) := by decide +kernel
theorem dX2_longestFreeRun_18 : decode cX2_longestFreeRun 18 = .ok (.ifCond .eq 9, 3) := by decide +kernel
theorem dX2_longestFreeRun_21 : decode cX2_longestFreeRun 21 = .ok (.iload_n 2, 1) := by decide +kernel
theorem dX2_longestFreeRun_22 : decode cX2_longestFreeRun 22 = .ok (.iconst 1, 1) := by decide +kernel
theorem dX2_longestFreeRun_23 : decode cX2_longestFreeRun 23 = .ok (.iadd, 1) := by decide +kernel
theorem dX2_longestFreeRun_24 : decode cX2_longestFreeRun 24 = .ok (.goto 4, 3) := by decide +kernel
theorem dX2_longestFreeRun_27 : decode cX2_longestFreeRun 27 = .ok (.iconst 0, 1) := by decide +kernel
theorem dX2_longestFreeRun_28 : decode cX2_longestFreeRun 28 = .ok (.istore_n 2, 1) := by decide +kernel
theorem dX2_longestFreeRun_29 : decode cX2_longestFreeRun 29 = .ok (.iload_n 1, 1) := by decide +kernel
theorem dX2_longestFreeRun_30 : decode cX2_longestFreeRun 30 = .ok (.iload_n 2, 1) := by decide +kernel
theorem dX2_longestFreeRun_31 : decode cX2_longestFreeRun 31 = .ok (.invokestatic 106, 3) := by decide +kernel
theorem dX2_longestFreeRun_34 : decode cX2_longestFreeRun 34 = .ok (.istore_n 1, 1) := by decide +kernel
theorem dX2_longestFreeRun_35 : decode cX2_longestFreeRun 35 = .ok (.iinc 3 1, 3) := by decide +kernel
theorem dX2_longestFreeRun_38 : decode cX2_longestFreeRun 38 = .ok (.goto (-32), 3) := by decide +kernel
theorem dX2_longestFreeRun_41 : decode cX2_longestFreeRun 41 = .ok (.iload_n 1, 1) := by decide +kernel
theorem dX2_longestFreeRun_42 : decode cX2_longestFreeRun 42 = .ok (.ireturn, 1) := by decide +kernel
set_option maxRecDepth 20000 in
theorem ggX2_reachable_X2_summaryBit : GoodIn wsX2_reachable wsX2_summaryBit := goodIn_r _ [6, 7, 15, 16, 17, 18, 19] (by decide +kernel) (by decide +kernel)
set_option maxRecDepth 20000 in
theorem gX2_reachable_X2_summaryBit : GoodIn wsX2_reachable (wsV RX2 44 RX2 yX2_summaryBit wsX2_summaryBit) := goodIn_app (goodIn_of _ (by decide +kernel)) ggX2_reachable_X2_summaryBit
set_option maxRecDepth 20000 in
theorem ggX2_reachable_J6_bitCount_0f7a4 : GoodIn wsX2_reachable wsJ6_bitCount_0f7a4 := goodIn_r _ [11, 12, 13, 14] (by decide +kernel) (by decide +kernel)
set_option maxRecDepth 20000 in
theorem gX2_reachable_J6_bitCount_0f7a4 : GoodIn wsX2_reachable (va_wsS RX2 80 yJ6_bitCount_0f7a4 wsJ6_bitCount_0f7a4) := goodIn_app (goodIn_of _ (by decide +kernel)) ggX2_reachable_J6_bitCount_0f7a4
theorem dX2_reachable_0 : decode cX2_reachable 0 = .ok (.iconst 0, 1) := by decide +kernel
theorem dX2_reachable_1 : decode cX2_reachable 1 = .ok (.istore_n 1, 1) := by decide +kernel
theorem dX2_reachable_2 : decode cX2_reachable 2 = .ok (.iconst 0, 1) := by decide +kernel
theorem dX2_reachable_3 : decode cX2_reachable 3 = .ok (.istore_n 2, 1) := by decide +kernel
theorem dX2_reachable_4 : decode cX2_reachable 4 = .ok (.iload_n 2, 1) := by decide +kernel
theorem dX2_reachable_5 : decode cX2_reachable 5 = .ok (.bipush 10, 2) := by decide +kernel
theorem dX2_reachable_7 : decode cX2_reachable 7 = .ok (.if_icmp .ge 51, 3) := by decide +kernel
theorem dX2_reachable_10 : decode cX2_reachable 10 = .ok (.aload_n 0, 1) := by decide +kernel
theorem dX2_reachable_11 : decode cX2_reachable 11 = .ok (.iload_n 2, 1) := by decide +kernel
theorem dX2_reachable_12 : decode cX2_reachable 12 = .ok (.invokevirtual 44, 3) := by decide +kernel
theorem dX2_reachable_15 : decode cX2_reachable 15 = .ok (.ifCond .eq 14, 3) := by decide +kernel
theorem dX2_reachable_18 : decode cX2_reachable 18 = .ok (.aload_n 0, 1) := by decide +kernel
theorem dX2_reachable_19 : decode cX2_reachable 19 = .ok (.getfield 11, 3) := by decide +kernel
theorem dX2_reachable_22 : decode cX2_reachable 22 = .ok (.iconst 2, 1) := by decide +kernel
theorem dX2_reachable_23 : decode cX2_reachable 23 = .ok (.aaload, 1) := by decide +kernel
theorem dX2_reachable_24 : decode cX2_reachable 24 = .ok (.iload_n 2, 1) := by decide +kernel
theorem dX2_reachable_25 : decode cX2_reachable 25 = .ok (.iaload, 1) := by decide +kernel
theorem dX2_reachable_26 : decode cX2_reachable 26 = .ok (.ifCond .eq 26, 3) := by decide +kernel
theorem dX2_reachable_29 : decode cX2_reachable 29 = .ok (.iload_n 1, 1) := by decide +kernel
theorem dX2_reachable_30 : decode cX2_reachable 30 = .ok (.aload_n 0, 1) := by decide +kernel
theorem dX2_reachable_31 : decode cX2_reachable 31 = .ok (.getfield 11, 3) := by decide +kernel
theorem dX2_reachable_34 : decode cX2_reachable 34 = .ok (.iconst 0, 1) := by decide +kernel
theorem dX2_reachable_35 : decode cX2_reachable 35 = .ok (.aaload, 1) := by decide +kernel
theorem dX2_reachable_36 : decode cX2_reachable 36 = .ok (.iload_n 2, 1) := by decide +kernel
theorem dX2_reachable_37 : decode cX2_reachable 37 = .ok (.iaload, 1) := by decide +kernel
theorem dX2_reachable_38 : decode cX2_reachable 38 = .ok (.aload_n 0, 1) := by decide +kernel
theorem dX2_reachable_39 : decode cX2_reachable 39 = .ok (.getfield 11, 3) := by decide +kernel
theorem dX2_reachable_42 : decode cX2_reachable 42 = .ok (.iconst 2, 1) := by decide +kernel
theorem dX2_reachable_43 : decode cX2_reachable 43 = .ok (.aaload, 1) := by decide +kernel
theorem dX2_reachable_44 : decode cX2_reachable 44 = .ok (.iload_n 2, 1) := by decide +kernel
theorem dX2_reachable_45 : decode cX2_reachable 45 = .ok (.iaload, 1) := by decide +kernel
theorem dX2_reachable_46 : decode cX2_reachable 46 = .ok (.ior, 1) := by decide +kernel
theorem dX2_reachable_47 : decode cX2_reachable 47 = .ok (.invokestatic 80, 3) := by decide +kernel
theorem dX2_reachable_50 : decode cX2_reachable 50 = .ok (.iadd, 1) := by decide +kernel
theorem dX2_reachable_51 : decode cX2_reachable 51 = .ok (.istore_n 1, 1) := by decide +kernel
theorem dX2_reachable_52 : decode cX2_reachable 52 = .ok (.iinc 2 1, 3) := by decide +kernel
theorem dX2_reachable_55 : decode cX2_reachable 55 = .ok (.goto (-51), 3) := by decide +kernel
theorem dX2_reachable_58 : decode cX2_reachable 58 = .ok (.iload_n 1, 1) := by decide +kernel
theorem dX2_reachable_59 : decode cX2_reachable 59 = .ok (.ireturn, 1) := by decide +kernel
theorem dX2_hasBlock_0 : decode cX2_hasBlock 0 = .ok (.iload_n 1, 1) := by decide +kernel
theorem dX2_hasBlock_1 : decode cX2_hasBlock 1 = .ok (.ifCond .lt 22, 3) := by decide +kernel
theorem dX2_hasBlock_4 : decode cX2_hasBlock 4 = .ok (.iload_n 1, 1) := by decide +kernel
theorem dX2_hasBlock_5 : decode cX2_hasBlock 5 = .ok (.bipush 8, 2) := by decide +kernel
theorem dX2_hasBlock_7 : decode cX2_hasBlock 7 = .ok (.if_icmp .ge 16, 3) := by decide +kernel
theorem dX2_hasBlock_10 : decode cX2_hasBlock 10 = .ok (.aload_n 0, 1) := by decide +kernel
theorem dX2_hasBlock_11 : decode cX2_hasBlock 11 = .ok (.getfield 20, 3) := by decide +kernel
theorem dX2_hasBlock_14 : decode cX2_hasBlock 14 = .ok (.iload_n 1, 1) := by decide +kernel
theorem dX2_hasBlock_15 : decode cX2_hasBlock 15 = .ok (.iaload, 1) := by decide +kernel
theorem dX2_hasBlock_16 : decode cX2_hasBlock 16 = .ok (.ifCond .eq 7, 3) := by decide +kernel
theorem dX2_hasBlock_19 : decode cX2_hasBlock 19 = .ok (.iconst 1, 1) := by decide +kernel
theorem dX2_hasBlock_20 : decode cX2_hasBlock 20 = .ok (.goto 4, 3) := by decide +kernel
theorem dX2_hasBlock_23 : decode cX2_hasBlock 23 = .ok (.iconst 0, 1) := by decide +kernel
theorem dX2_hasBlock_24 : decode cX2_hasBlock 24 = .ok (.ireturn, 1) := by decide +kernel
set_option maxRecDepth 20000 in
theorem ggX2_blockTotal_X2_hasBlock : GoodIn wsX2_blockTotal wsX2_hasBlock := goodIn_r _ [5, 6, 7, 8, 9, 10, 11] (by decide +kernel) (by decide +kernel)
set_option maxRecDepth 20000 in
theorem gX2_blockTotal_X2_hasBlock : GoodIn wsX2_blockTotal (wsV RX2 97 RX2 yX2_hasBlock wsX2_hasBlock) := goodIn_app (goodIn_of _ (by decide +kernel)) ggX2_blockTotal_X2_hasBlock
theorem dX2_blockTotal_0 : decode cX2_blockTotal 0 = .ok (.iconst 0, 1) := by decide +kernel
theorem dX2_blockTotal_1 : decode cX2_blockTotal 1 = .ok (.istore_n 1, 1) := by decide +kernel
theorem dX2_blockTotal_2 : decode cX2_blockTotal 2 = .ok (.iconst 0, 1) := by decide +kernel
theorem dX2_blockTotal_3 : decode cX2_blockTotal 3 = .ok (.istore_n 2, 1) := by decide +kernel
theorem dX2_blockTotal_4 : decode cX2_blockTotal 4 = .ok (.iload_n 2, 1) := by decide +kernel
theorem dX2_blockTotal_5 : decode cX2_blockTotal 5 = .ok (.bipush 8, 2) := by decide +kernel
theorem dX2_blockTotal_7 : decode cX2_blockTotal 7 = .ok (.if_icmp .ge 20, 3) := by decide +kernel
theorem dX2_blockTotal_10 : decode cX2_blockTotal 10 = .ok (.aload_n 0, 1) := by decide +kernel
theorem dX2_blockTotal_11 : decode cX2_blockTotal 11 = .ok (.iload_n 2, 1) := by decide +kernel
theorem dX2_blockTotal_12 : decode cX2_blockTotal 12 = .ok (.invokevirtual 97, 3) := by decide +kernel
theorem dX2_blockTotal_15 : decode cX2_blockTotal 15 = .ok (.ifCond .eq 6, 3) := by decide +kernel
theorem dX2_blockTotal_18 : decode cX2_blockTotal 18 = .ok (.iinc 1 1, 3) := by decide +kernel
theorem dX2_blockTotal_21 : decode cX2_blockTotal 21 = .ok (.iinc 2 1, 3) := by decide +kernel
theorem dX2_blockTotal_24 : decode cX2_blockTotal 24 = .ok (.goto (-20), 3) := by decide +kernel
theorem dX2_blockTotal_27 : decode cX2_blockTotal 27 = .ok (.iload_n 1, 1) := by decide +kernel
theorem dX2_blockTotal_28 : decode cX2_blockTotal 28 = .ok (.ireturn, 1) := by decide +kernel
set_option maxRecDepth 20000 in
theorem ggX2_firstUnusedBlock_X2_hasBlock : GoodIn wsX2_firstUnusedBlock wsX2_hasBlock := goodIn_r _ [5, 6, 7, 8, 9, 10, 11] (by decide +kernel) (by decide +kernel)
set_option maxRecDepth 20000 in
theorem gX2_firstUnusedBlock_X2_hasBlock : GoodIn wsX2_firstUnusedBlock (wsV RX2 97 RX2 yX2_hasBlock wsX2_hasBlock) := goodIn_app (goodIn_of _ (by decide +kernel)) ggX2_firstUnusedBlock_X2_hasBlock
theorem dX2_firstUnusedBlock_0 : decode cX2_firstUnusedBlock 0 = .ok (.iconst 0, 1) := by decide +kernel
theorem dX2_firstUnusedBlock_1 : decode cX2_firstUnusedBlock 1 = .ok (.istore_n 1, 1) := by decide +kernel
theorem dX2_firstUnusedBlock_2 : decode cX2_firstUnusedBlock 2 = .ok (.iload_n 1, 1) := by decide +kernel
theorem dX2_firstUnusedBlock_3 : decode cX2_firstUnusedBlock 3 = .ok (.bipush 8, 2) := by decide +kernel
theorem dX2_firstUnusedBlock_5 : decode cX2_firstUnusedBlock 5 = .ok (.if_icmp .ge 19, 3) := by decide +kernel
theorem dX2_firstUnusedBlock_8 : decode cX2_firstUnusedBlock 8 = .ok (.aload_n 0, 1) := by decide +kernel
theorem dX2_firstUnusedBlock_9 : decode cX2_firstUnusedBlock 9 = .ok (.iload_n 1, 1) := by decide +kernel
theorem dX2_firstUnusedBlock_10 : decode cX2_firstUnusedBlock 10 = .ok (.invokevirtual 97, 3) := by decide +kernel
theorem dX2_firstUnusedBlock_13 : decode cX2_firstUnusedBlock 13 = .ok (.ifCond .ne 5, 3) := by decide +kernel
theorem dX2_firstUnusedBlock_16 : decode cX2_firstUnusedBlock 16 = .ok (.iload_n 1, 1) := by decide +kernel
theorem dX2_firstUnusedBlock_17 : decode cX2_firstUnusedBlock 17 = .ok (.ireturn, 1) := by decide +kernel
theorem dX2_firstUnusedBlock_18 : decode cX2_firstUnusedBlock 18 = .ok (.iinc 1 1, 3) := by decide +kernel
theorem dX2_firstUnusedBlock_21 : decode cX2_firstUnusedBlock 21 = .ok (.goto (-19), 3) := by decide +kernel
theorem dX2_firstUnusedBlock_24 : decode cX2_firstUnusedBlock 24 = .ok (.bipush (-9), 2) := by decide +kernel
theorem dX2_firstUnusedBlock_26 : decode cX2_firstUnusedBlock 26 = .ok (.ireturn, 1) := by decide +kernel
set_option maxRecDepth 20000 in
theorem ggX2_placeStart_X3_wordOf : GoodIn wsX2_placeStart wsX3_wordOf := goodIn_r _ [4] (by decide +kernel) (by decide +kernel)
set_option maxRecDepth 20000 in
theorem gX2_placeStart_X3_wordOf_n70 : GoodIn wsX2_placeStart (wsX3_wordOf) := ggX2_placeStart_X3_wordOf
set_option maxRecDepth 20000 in
theorem ggX2_placeStart_X3_rangeBits : GoodIn wsX2_placeStart wsX3_rangeBits := goodIn_r _ [6, 7, 8, 9, 10, 11, 12, 13] (by decide +kernel) (by decide +kernel)
set_option maxRecDepth 20000 in
theorem gX2_placeStart_X3_rangeBits_n73 : GoodIn wsX2_placeStart (wsX3_rangeBits) := ggX2_placeStart_X3_rangeBits
theorem dX2_placeStart_0 : decode cX2_placeStart 0 = .ok (.iconst 0, 1) := by decide +kernel
theorem dX2_placeStart_1 : decode cX2_placeStart 1 = .ok (.istore_n 2, 1) := by decide +kernel
theorem dX2_placeStart_2 : decode cX2_placeStart 2 = .ok (.iload_n 2, 1) := by decide +kernel
theorem dX2_placeStart_3 : decode cX2_placeStart 3 = .ok (.sipush 320, 3) := by decide +kernel
theorem dX2_placeStart_6 : decode cX2_placeStart 6 = .ok (.if_icmp .ge 52, 3) := by decide +kernel
theorem dX2_placeStart_9 : decode cX2_placeStart 9 = .ok (.iload_n 2, 1) := by decide +kernel
theorem dX2_placeStart_10 : decode cX2_placeStart 10 = .ok (.iload_n 1, 1) := by decide +kernel
theorem dX2_placeStart_11 : decode cX2_placeStart 11 = .ok (.iconst 1, 1) := by decide +kernel
theorem dX2_placeStart_12 : decode cX2_placeStart 12 = .ok (.isub, 1) := by decide +kernel
theorem dX2_placeStart_13 : decode cX2_placeStart 13 = .ok (.iand, 1) := by decide +kernel
theorem dX2_placeStart_14 : decode cX2_placeStart 14 = .ok (.ifCond .ne 38, 3) := by decide +kernel
theorem dX2_placeStart_17 : decode cX2_placeStart 17 = .ok (.iload_n 2, 1) := by decide +kernel
theorem dX2_placeStart_18 : decode cX2_placeStart 18 = .ok (.invokestatic 70, 3) := by decide +kernel
theorem dX2_placeStart_21 : decode cX2_placeStart 21 = .ok (.istore_n 3, 1) := by decide +kernel
theorem dX2_placeStart_22 : decode cX2_placeStart 22 = .ok (.iload_n 3, 1) := by decide +kernel
theorem dX2_placeStart_23 : decode cX2_placeStart 23 = .ok (.iload_n 2, 1) := by decide +kernel
theorem dX2_placeStart_24 : decode cX2_placeStart 24 = .ok (.iload_n 2, 1) := by decide +kernel
theorem dX2_placeStart_25 : decode cX2_placeStart 25 = .ok (.iload_n 1, 1) := by decide +kernel
theorem dX2_placeStart_26 : decode cX2_placeStart 26 = .ok (.iadd, 1) := by decide +kernel
theorem dX2_placeStart_27 : decode cX2_placeStart 27 = .ok (.iconst 1, 1) := by decide +kernel
theorem dX2_placeStart_28 : decode cX2_placeStart 28 = .ok (.isub, 1) := by decide +kernel
theorem dX2_placeStart_29 : decode cX2_placeStart 29 = .ok (.invokestatic 73, 3) := by decide +kernel
theorem dX2_placeStart_32 : decode cX2_placeStart 32 = .ok (.istore 4, 2) := by decide +kernel
theorem dX2_placeStart_34 : decode cX2_placeStart 34 = .ok (.aload_n 0, 1) := by decide +kernel
theorem dX2_placeStart_35 : decode cX2_placeStart 35 = .ok (.getfield 11, 3) := by decide +kernel
theorem dX2_placeStart_38 : decode cX2_placeStart 38 = .ok (.iconst 0, 1) := by decide +kernel
theorem dX2_placeStart_39 : decode cX2_placeStart 39 = .ok (.aaload, 1) := by decide +kernel
theorem dX2_placeStart_40 : decode cX2_placeStart 40 = .ok (.iload_n 3, 1) := by decide +kernel
theorem dX2_placeStart_41 : decode cX2_placeStart 41 = .ok (.iaload, 1) := by decide +kernel
theorem dX2_placeStart_42 : decode cX2_placeStart 42 = .ok (.iload 4, 2) := by decide +kernel
theorem dX2_placeStart_44 : decode cX2_placeStart 44 = .ok (.iand, 1) := by decide +kernel
theorem dX2_placeStart_45 : decode cX2_placeStart 45 = .ok (.iload 4, 2) := by decide +kernel
theorem dX2_placeStart_47 : decode cX2_placeStart 47 = .ok (.if_icmp .ne 5, 3) := by decide +kernel
theorem dX2_placeStart_50 : decode cX2_placeStart 50 = .ok (.iload_n 2, 1) := by decide +kernel
theorem dX2_placeStart_51 : decode cX2_placeStart 51 = .ok (.ireturn, 1) := by decide +kernel
theorem dX2_placeStart_52 : decode cX2_placeStart 52 = .ok (.iinc 2 4, 3) := by decide +kernel
theorem dX2_placeStart_55 : decode cX2_placeStart 55 = .ok (.goto (-53), 3) := by decide +kernel
theorem dX2_placeStart_58 : decode cX2_placeStart 58 = .ok (.bipush (-9), 2) := by decide +kernel
theorem dX2_placeStart_60 : decode cX2_placeStart 60 = .ok (.ireturn, 1) := by decide +kernel
theorem dX2_blockOf_0 : decode cX2_blockOf 0 = .ok (.iconst 0, 1) := by decide +kernel
theorem dX2_blockOf_1 : decode cX2_blockOf 1 = .ok (.istore_n 2, 1) := by decide +kernel
theorem dX2_blockOf_2 : decode cX2_blockOf 2 = .ok (.iload_n 2, 1) := by decide +kernel
theorem dX2_blockOf_3 : decode cX2_blockOf 3 = .ok (.bipush 8, 2) := by decide +kernel
theorem dX2_blockOf_5 : decode cX2_blockOf 5 = .ok (.if_icmp .ge 38, 3) := by decide +kernel
theorem dX2_blockOf_8 : decode cX2_blockOf 8 = .ok (.iload_n 1, 1) := by decide +kernel
theorem dX2_blockOf_9 : decode cX2_blockOf 9 = .ok (.aload_n 0, 1) := by decide +kernel
theorem dX2_blockOf_10 : decode cX2_blockOf 10 = .ok (.getfield 16, 3) := by decide +kernel
theorem dX2_blockOf_13 : decode cX2_blockOf 13 = .ok (.iload_n 2, 1) := by decide +kernel
theorem dX2_blockOf_14 : decode cX2_blockOf 14 = .ok (.iaload, 1) := by decide +kernel
theorem dX2_blockOf_15 : decode cX2_blockOf 15 = .ok (.if_icmp .lt 22, 3) := by decide +kernel
theorem dX2_blockOf_18 : decode cX2_blockOf 18 = .ok (.iload_n 1, 1) := by decide +kernel
theorem dX2_blockOf_19 : decode cX2_blockOf 19 = .ok (.aload_n 0, 1) := by decide +kernel
theorem dX2_blockOf_20 : decode cX2_blockOf 20 = .ok (.getfield 16, 3) := by decide +kernel
theorem dX2_blockOf_23 : decode cX2_blockOf 23 = .ok (.iload_n 2, 1) := by decide +kernel
theorem dX2_blockOf_24 : decode cX2_blockOf 24 = .ok (.iaload, 1) := by decide +kernel
theorem dX2_blockOf_25 : decode cX2_blockOf 25 = .ok (.aload_n 0, 1) := by decide +kernel
theorem dX2_blockOf_26 : decode cX2_blockOf 26 = .ok (.getfield 20, 3) := by decide +kernel
theorem dX2_blockOf_29 : decode cX2_blockOf 29 = .ok (.iload_n 2, 1) := by decide +kernel
theorem dX2_blockOf_30 : decode cX2_blockOf 30 = .ok (.iaload, 1) := by decide +kernel
theorem dX2_blockOf_31 : decode cX2_blockOf 31 = .ok (.iadd, 1) := by decide +kernel
theorem dX2_blockOf_32 : decode cX2_blockOf 32 = .ok (.if_icmp .ge 5, 3) := by decide +kernel
theorem dX2_blockOf_35 : decode cX2_blockOf 35 = .ok (.iload_n 2, 1) := by decide +kernel
theorem dX2_blockOf_36 : decode cX2_blockOf 36 = .ok (.ireturn, 1) := by decide +kernel
theorem dX2_blockOf_37 : decode cX2_blockOf 37 = .ok (.iinc 2 1, 3) := by decide +kernel
theorem dX2_blockOf_40 : decode cX2_blockOf 40 = .ok (.goto (-38), 3) := by decide +kernel
theorem dX2_blockOf_43 : decode cX2_blockOf 43 = .ok (.bipush (-9), 2) := by decide +kernel
theorem dX2_blockOf_45 : decode cX2_blockOf 45 = .ok (.ireturn, 1) := by decide +kernel
set_option maxRecDepth 20000 in
theorem ggX2_totalInBlock_X3_wordOf : GoodIn wsX2_totalInBlock wsX3_wordOf := goodIn_r _ [5] (by decide +kernel) (by decide +kernel)
set_option maxRecDepth 20000 in
theorem gX2_totalInBlock_X3_wordOf_n70 : GoodIn wsX2_totalInBlock (wsX3_wordOf) := ggX2_totalInBlock_X3_wordOf
set_option maxRecDepth 20000 in
theorem ggX2_totalInBlock_X2_blockBits : GoodIn wsX2_totalInBlock wsX2_blockBits := goodIn_r _ [10, 2, 11, 3, 4, 5, 12, 13, 14, 15, 16, 17, 18, 19, 20, 28, 29, 30, 31, 32] (by decide +kernel) (by decide +kernel)
set_option maxRecDepth 20000 in
theorem gX2_totalInBlock_X2_blockBits : GoodIn wsX2_totalInBlock (wsV RX2 94 RX2 yX2_blockBits wsX2_blockBits) := goodIn_app (goodIn_of _ (by decide +kernel)) ggX2_totalInBlock_X2_blockBits
set_option maxRecDepth 20000 in
theorem ggX2_totalInBlock_J6_bitCount_0f7a4 : GoodIn wsX2_totalInBlock wsJ6_bitCount_0f7a4 := goodIn_r _ [24, 25, 26, 27] (by decide +kernel) (by decide +kernel)
set_option maxRecDepth 20000 in
theorem gX2_totalInBlock_J6_bitCount_0f7a4 : GoodIn wsX2_totalInBlock (va_wsS RX2 80 yJ6_bitCount_0f7a4 wsJ6_bitCount_0f7a4) := goodIn_app (goodIn_of _ (by decide +kernel)) ggX2_totalInBlock_J6_bitCount_0f7a4
theorem dX2_totalInBlock_0 : decode cX2_totalInBlock 0 = .ok (.aload_n 0, 1) := by decide +kernel
theorem dX2_totalInBlock_1 : decode cX2_totalInBlock 1 = .ok (.getfield 11, 3) := by decide +kernel
theorem dX2_totalInBlock_4 : decode cX2_totalInBlock 4 = .ok (.iload_n 2, 1) := by decide +kernel
theorem dX2_totalInBlock_5 : decode cX2_totalInBlock 5 = .ok (.aaload, 1) := by decide +kernel
theorem dX2_totalInBlock_6 : decode cX2_totalInBlock 6 = .ok (.aload_n 0, 1) := by decide +kernel
theorem dX2_totalInBlock_7 : decode cX2_totalInBlock 7 = .ok (.getfield 16, 3) := by decide +kernel
theorem dX2_totalInBlock_10 : decode cX2_totalInBlock 10 = .ok (.iload_n 1, 1) := by decide +kernel
theorem dX2_totalInBlock_11 : decode cX2_totalInBlock 11 = .ok (.iaload, 1) := by decide +kernel
theorem dX2_totalInBlock_12 : decode cX2_totalInBlock 12 = .ok (.invokestatic 70, 3) := by decide +kernel
theorem dX2_totalInBlock_15 : decode cX2_totalInBlock 15 = .ok (.iaload, 1) := by decide +kernel
theorem dX2_totalInBlock_16 : decode cX2_totalInBlock 16 = .ok (.aload_n 0, 1) := by decide +kernel
theorem dX2_totalInBlock_17 : decode cX2_totalInBlock 17 = .ok (.iload_n 1, 1) := by decide +kernel
theorem dX2_totalInBlock_18 : decode cX2_totalInBlock 18 = .ok (.invokevirtual 94, 3) := by decide +kernel
theorem dX2_totalInBlock_21 : decode cX2_totalInBlock 21 = .ok (.iand, 1) := by decide +kernel
theorem dX2_totalInBlock_22 : decode cX2_totalInBlock 22 = .ok (.invokestatic 80, 3) := by decide +kernel
theorem dX2_totalInBlock_25 : decode cX2_totalInBlock 25 = .ok (.ireturn, 1) := by decide +kernel
set_option maxRecDepth 20000 in
theorem ggX2_blockBits_X3_wordOf : GoodIn wsX2_blockBits wsX3_wordOf := goodIn_r _ [5] (by decide +kernel) (by decide +kernel)
set_option maxRecDepth 20000 in
theorem gX2_blockBits_X3_wordOf_n70 : GoodIn wsX2_blockBits (wsX3_wordOf) := ggX2_blockBits_X3_wordOf
set_option maxRecDepth 20000 in
theorem ggX2_blockBits_X3_rangeBits : GoodIn wsX2_blockBits wsX3_rangeBits := goodIn_r _ [7, 8, 9, 10, 11, 12, 13, 14] (by decide +kernel) (by decide +kernel)
set_option maxRecDepth 20000 in
theorem gX2_blockBits_X3_rangeBits_n73 : GoodIn wsX2_blockBits (wsX3_rangeBits) := ggX2_blockBits_X3_rangeBits
theorem dX2_blockBits_0 : decode cX2_blockBits 0 = .ok (.aload_n 0, 1) := by decide +kernel
theorem dX2_blockBits_1 : decode cX2_blockBits 1 = .ok (.getfield 16, 3) := by decide +kernel
theorem dX2_blockBits_4 : decode cX2_blockBits 4 = .ok (.iload_n 1, 1) := by decide +kernel
theorem dX2_blockBits_5 : decode cX2_blockBits 5 = .ok (.iaload, 1) := by decide +kernel
theorem dX2_blockBits_6 : decode cX2_blockBits 6 = .ok (.istore_n 2, 1) := by decide +kernel
theorem dX2_blockBits_7 : decode cX2_blockBits 7 = .ok (.iload_n 2, 1) := by decide +kernel
theorem dX2_blockBits_8 : decode cX2_blockBits 8 = .ok (.invokestatic 70, 3) := by decide +kernel
theorem dX2_blockBits_11 : decode cX2_blockBits 11 = .ok (.iload_n 2, 1) := by decide +kernel
theorem dX2_blockBits_12 : decode cX2_blockBits 12 = .ok (.iload_n 2, 1) := by decide +kernel
theorem dX2_blockBits_13 : decode cX2_blockBits 13 = .ok (.aload_n 0, 1) := by decide +kernel
theorem dX2_blockBits_14 : decode cX2_blockBits 14 = .ok (.getfield 20, 3) := by decide +kernel
theorem dX2_blockBits_17 : decode cX2_blockBits 17 = .ok (.iload_n 1, 1) := by decide +kernel
theorem dX2_blockBits_18 : decode cX2_blockBits 18 = .ok (.iaload, 1) := by decide +kernel
theorem dX2_blockBits_19 : decode cX2_blockBits 19 = .ok (.iadd, 1) := by decide +kernel
theorem dX2_blockBits_20 : decode cX2_blockBits 20 = .ok (.iconst 1, 1) := by decide +kernel
theorem dX2_blockBits_21 : decode cX2_blockBits 21 = .ok (.isub, 1) := by decide +kernel
theorem dX2_blockBits_22 : decode cX2_blockBits 22 = .ok (.invokestatic 73, 3) := by decide +kernel
theorem dX2_blockBits_25 : decode cX2_blockBits 25 = .ok (.ireturn, 1) := by decide +kernel
set_option maxRecDepth 20000 in
theorem ggX2_ownedBits_X3_wordOf : GoodIn wsX2_ownedBits wsX3_wordOf := goodIn_r _ [4] (by decide +kernel) (by decide +kernel)
set_option maxRecDepth 20000 in
theorem gX2_ownedBits_X3_wordOf_n70 : GoodIn wsX2_ownedBits (wsX3_wordOf) := ggX2_ownedBits_X3_wordOf
set_option maxRecDepth 20000 in
theorem ggX2_ownedBits_X2_blockBits : GoodIn wsX2_ownedBits wsX2_blockBits := goodIn_r _ [9, 1, 10, 2, 3, 4, 11, 12, 13, 14, 15, 16, 17, 18, 19, 20, 21, 22, 23, 24] (by decide +kernel) (by decide +kernel)
set_option maxRecDepth 20000 in
theorem gX2_ownedBits_X2_blockBits : GoodIn wsX2_ownedBits (wsV RX2 94 RX2 yX2_blockBits wsX2_blockBits) := goodIn_app (goodIn_of _ (by decide +kernel)) ggX2_ownedBits_X2_blockBits
theorem dX2_ownedBits_0 : decode cX2_ownedBits 0 = .ok (.iconst 0, 1) := by decide +kernel
theorem dX2_ownedBits_1 : decode cX2_ownedBits 1 = .ok (.istore_n 2, 1) := by decide +kernel
theorem dX2_ownedBits_2 : decode cX2_ownedBits 2 = .ok (.iconst 0, 1) := by decide +kernel
theorem dX2_ownedBits_3 : decode cX2_ownedBits 3 = .ok (.istore_n 3, 1) := by decide +kernel
theorem dX2_ownedBits_4 : decode cX2_ownedBits 4 = .ok (.iload_n 3, 1) := by decide +kernel
theorem dX2_ownedBits_5 : decode cX2_ownedBits 5 = .ok (.bipush 8, 2) := by decide +kernel
theorem dX2_ownedBits_7 : decode cX2_ownedBits 7 = .ok (.if_icmp .ge 30, 3) := by decide +kernel
theorem dX2_ownedBits_10 : decode cX2_ownedBits 10 = .ok (.aload_n 0, 1) := by decide +kernel
theorem dX2_ownedBits_11 : decode cX2_ownedBits 11 = .ok (.getfield 16, 3) := by decide +kernel
theorem dX2_ownedBits_14 : decode cX2_ownedBits 14 = .ok (.iload_n 3, 1) := by decide +kernel
theorem dX2_ownedBits_15 : decode cX2_ownedBits 15 = .ok (.iaload, 1) := by decide +kernel
theorem dX2_ownedBits_16 : decode cX2_ownedBits 16 = .ok (.invokestatic 70, 3) := by decide +kernel
theorem dX2_ownedBits_19 : decode cX2_ownedBits 19 = .ok (.iload_n 1, 1) := by decide +kernel
theorem dX2_ownedBits_20 : decode cX2_ownedBits 20 = .ok (.if_icmp .ne 11, 3) := by decide +kernel
theorem dX2_ownedBits_23 : decode cX2_ownedBits 23 = .ok (.iload_n 2, 1) := by decide +kernel
theorem dX2_ownedBits_24 : decode cX2_ownedBits 24 = .ok (.aload_n 0, 1) := by decide +kernel
theorem dX2_ownedBits_25 : decode cX2_ownedBits 25 = .ok (.iload_n 3, 1) := by decide +kernel
theorem dX2_ownedBits_26 : decode cX2_ownedBits 26 = .ok (.invokevirtual 94, 3) := by decide +kernel
theorem dX2_ownedBits_29 : decode cX2_ownedBits 29 = .ok (.ior, 1) := by decide +kernel
theorem dX2_ownedBits_30 : decode cX2_ownedBits 30 = .ok (.istore_n 2, 1) := by decide +kernel
theorem dX2_ownedBits_31 : decode cX2_ownedBits 31 = .ok (.iinc 3 1, 3) := by decide +kernel
theorem dX2_ownedBits_34 : decode cX2_ownedBits 34 = .ok (.goto (-30), 3) := by decide +kernel
theorem dX2_ownedBits_37 : decode cX2_ownedBits 37 = .ok (.iload_n 2, 1) := by decide +kernel
theorem dX2_ownedBits_38 : decode cX2_ownedBits 38 = .ok (.ireturn, 1) := by decide +kernel
set_option maxRecDepth 20000 in
theorem ggX3_init_X2_init : GoodIn wsX3_init wsX2_init := goodIn_r _ [22, 23, 2, 3, 24, 25, 26, 27, 28, 29, 30, 45, 46, 47, 48, 49] (by decide +kernel) (by decide +kernel)
set_option maxRecDepth 20000 in
theorem gX3_init_X2_init : GoodIn wsX3_init (wsX2_init) := ggX3_init_X2_init
set_option maxRecDepth 20000 in
theorem ggX3_init_X0_init : GoodIn wsX3_init wsX0_init := goodIn_r _ [33, 34, 2, 3, 35, 36, 5, 6, 37, 38, 39, 21, 22, 23, 24, 25, 26, 27, 28, 29, 30, 56, 57, 58, 45, 46, 47, 48, 49] (by decide +kernel) (by decide +kernel)
set_option maxRecDepth 20000 in
theorem gX3_init_X0_init : GoodIn wsX3_init (wsX0_init) := ggX3_init_X0_init
set_option maxRecDepth 20000 in
theorem ggX3_init_X1_init : GoodIn wsX3_init wsX1_init := goodIn_r _ [42, 43, 2, 3, 44, 59, 60, 61, 62, 63, 64] (by decide +kernel) (by decide +kernel)
set_option maxRecDepth 20000 in
theorem gX3_init_X1_init : GoodIn wsX3_init (wsX1_init) := ggX3_init_X1_init
theorem dX3_init_0 : decode cX3_init 0 = .ok (.aload_n 0, 1) := by decide +kernel
theorem dX3_init_1 : decode cX3_init 1 = .ok (.invokespecial 1, 3) := by decide +kernel
theorem dX3_init_4 : decode cX3_init 4 = .ok (.aload_n 0, 1) := by decide +kernel
theorem dX3_init_5 : decode cX3_init 5 = .ok (.new 7, 3) := by decide +kernel
theorem dX3_init_8 : decode cX3_init 8 = .ok (.dup, 1) := by decide +kernel
theorem dX3_init_9 : decode cX3_init 9 = .ok (.invokespecial 9, 3) := by decide +kernel
theorem dX3_init_12 : decode cX3_init 12 = .ok (.putfield 10, 3) := by decide +kernel
theorem dX3_init_15 : decode cX3_init 15 = .ok (.aload_n 0, 1) := by decide +kernel
theorem dX3_init_16 : decode cX3_init 16 = .ok (.new 7, 3) := by decide +kernel
theorem dX3_init_19 : decode cX3_init 19 = .ok (.dup, 1) := by decide +kernel
theorem dX3_init_20 : decode cX3_init 20 = .ok (.invokespecial 9, 3) := by decide +kernel
theorem dX3_init_23 : decode cX3_init 23 = .ok (.putfield 16, 3) := by decide +kernel
theorem dX3_init_26 : decode cX3_init 26 = .ok (.aload_n 0, 1) := by decide +kernel
theorem dX3_init_27 : decode cX3_init 27 = .ok (.new 19, 3) := by decide +kernel
theorem dX3_init_30 : decode cX3_init 30 = .ok (.dup, 1) := by decide +kernel
theorem dX3_init_31 : decode cX3_init 31 = .ok (.invokespecial 21, 3) := by decide +kernel
theorem dX3_init_34 : decode cX3_init 34 = .ok (.putfield 22, 3) := by decide +kernel
theorem dX3_init_37 : decode cX3_init 37 = .ok (.aload_n 0, 1) := by decide +kernel
theorem dX3_init_38 : decode cX3_init 38 = .ok (.new 26, 3) := by decide +kernel
theorem dX3_init_41 : decode cX3_init 41 = .ok (.dup, 1) := by decide +kernel
theorem dX3_init_42 : decode cX3_init 42 = .ok (.invokespecial 28, 3) := by decide +kernel
theorem dX3_init_45 : decode cX3_init 45 = .ok (.putfield 29, 3) := by decide +kernel
theorem dX3_init_48 : decode cX3_init 48 = .ok (.aload_n 0, 1) := by decide +kernel
theorem dX3_init_49 : decode cX3_init 49 = .ok (.bipush 80, 2) := by decide +kernel
theorem dX3_init_51 : decode cX3_init 51 = .ok (.newarray .char, 2) := by decide +kernel
theorem dX3_init_53 : decode cX3_init 53 = .ok (.putfield 33, 3) := by decide +kernel
theorem dX3_init_56 : decode cX3_init 56 = .ok (.aload_n 0, 1) := by decide +kernel
theorem dX3_init_57 : decode cX3_init 57 = .ok (.iconst 0, 1) := by decide +kernel
theorem dX3_init_58 : decode cX3_init 58 = .ok (.putfield 37, 3) := by decide +kernel
theorem dX3_init_61 : decode cX3_init 61 = .ok (.return_, 1) := by decide +kernel
set_option maxRecDepth 20000 in
theorem ggX3_take_X0_prepare : GoodIn wsX3_take wsX0_prepare := goodIn_r _ [7, 8, 9, 10, 11, 6, 12, 13, 14, 15, 16, 17, 18, 19, 20, 21, 22, 23, 24, 25, 26, 27, 28, 84, 85, 86, 87, 88, 89, 90, 91] (by decide +kernel) (by decide +kernel)
set_option maxRecDepth 20000 in
theorem gX3_take_X0_prepare : GoodIn wsX3_take (wsV RX3 41 RX0 yX0_prepare wsX0_prepare) := goodIn_app (goodIn_of _ (by decide +kernel)) ggX3_take_X0_prepare
set_option maxRecDepth 20000 in
theorem ggX3_take_X2_takeOne : GoodIn wsX3_take wsX2_takeOne := goodIn_r _ [32, 33, 34, 35, 18, 36, 28, 20, 27, 37, 38, 39, 40, 41, 42, 43, 44, 45, 46, 47, 48, 49, 50, 51, 52, 53, 54, 55, 56, 57, 58, 59, 60, 61, 62, 63, 64, 65, 87, 88, 89, 90, 91] (by decide +kernel) (by decide +kernel)
set_option maxRecDepth 20000 in
theorem gX3_take_X2_takeOne : GoodIn wsX3_take (wsV RX3 45 RX2 yX2_takeOne wsX2_takeOne) := goodIn_app (goodIn_of _ (by decide +kernel)) ggX3_take_X2_takeOne
set_option maxRecDepth 20000 in
theorem ggX3_take_X3_settle : GoodIn wsX3_take wsX3_settle := goodIn_r _ [69, 1, 2, 70, 71, 72, 6, 73, 8, 9, 10, 11, 12, 13, 14, 15, 16, 17, 18, 19, 20, 21, 22, 23, 24, 25, 26, 27, 28, 74, 75, 76, 77, 78, 79, 80, 81, 82, 83, 84, 85, 86, 87, 88, 89, 90, 91] (by decide +kernel) (by decide +kernel)
set_option maxRecDepth 20000 in
theorem gX3_take_X3_settle : GoodIn wsX3_take (wsV RX3 49 RX3 yX3_settle wsX3_settle) := goodIn_app (goodIn_of _ (by decide +kernel)) ggX3_take_X3_settle
theorem dX3_take_0 : decode cX3_take 0 = .ok (.aload_n 0, 1) := by decide +kernel
theorem dX3_take_1 : decode cX3_take 1 = .ok (.getfield 22, 3) := by decide +kernel
theorem dX3_take_4 : decode cX3_take 4 = .ok (.aload_n 0, 1) := by decide +kernel
theorem dX3_take_5 : decode cX3_take 5 = .ok (.getfield 10, 3) := by decide +kernel
theorem dX3_take_8 : decode cX3_take 8 = .ok (.invokevirtual 41, 3) := by decide +kernel
theorem dX3_take_11 : decode cX3_take 11 = .ok (.aload_n 0, 1) := by decide +kernel
theorem dX3_take_12 : decode cX3_take 12 = .ok (.aload_n 0, 1) := by decide +kernel
theorem dX3_take_13 : decode cX3_take 13 = .ok (.getfield 10, 3) := by decide +kernel
theorem dX3_take_16 : decode cX3_take 16 = .ok (.invokevirtual 45, 3) := by decide +kernel
theorem dX3_take_19 : decode cX3_take 19 = .ok (.invokevirtual 49, 3) := by decide +kernel
theorem dX3_take_22 : decode cX3_take 22 = .ok (.ireturn, 1) := by decide +kernel
set_option maxRecDepth 20000 in
theorem ggX3_takeRun_X0_prepare : GoodIn wsX3_takeRun wsX0_prepare := goodIn_r _ [7, 8, 9, 10, 11, 6, 12, 13, 14, 15, 16, 17, 18, 19, 20, 21, 22, 23, 24, 25, 26, 27, 28, 83, 84, 85, 86, 87, 88, 89, 90] (by decide +kernel) (by decide +kernel)
set_option maxRecDepth 20000 in
theorem gX3_takeRun_X0_prepare : GoodIn wsX3_takeRun (wsV RX3 41 RX0 yX0_prepare wsX0_prepare) := goodIn_app (goodIn_of _ (by decide +kernel)) ggX3_takeRun_X0_prepare
set_option maxRecDepth 20000 in
theorem ggX3_takeRun_X2_takeSideBySide : GoodIn wsX3_takeRun wsX2_takeSideBySide := goodIn_r _ [32, 28, 33, 34, 35, 36, 37, 38, 18, 39, 40, 41, 42, 43, 20, 44, 45, 46, 47, 48, 49, 50, 51, 52, 53, 54, 55, 56, 57, 58, 59, 60, 27, 61, 62, 63, 64, 86, 87, 88, 89, 90] (by decide +kernel) (by decide +kernel)
set_option maxRecDepth 20000 in
theorem gX3_takeRun_X2_takeSideBySide : GoodIn wsX3_takeRun (wsV RX3 53 RX2 yX2_takeSideBySide wsX2_takeSideBySide) := goodIn_app (goodIn_of _ (by decide +kernel)) ggX3_takeRun_X2_takeSideBySide
set_option maxRecDepth 20000 in
theorem ggX3_takeRun_X3_settle : GoodIn wsX3_takeRun wsX3_settle := goodIn_r _ [68, 1, 2, 69, 70, 71, 6, 72, 8, 9, 10, 11, 12, 13, 14, 15, 16, 17, 18, 19, 20, 21, 22, 23, 24, 25, 26, 27, 28, 73, 74, 75, 76, 77, 78, 79, 80, 81, 82, 83, 84, 85, 86, 87, 88, 89, 90] (by decide +kernel) (by decide +kernel)
set_option maxRecDepth 20000 in
theorem gX3_takeRun_X3_settle : GoodIn wsX3_takeRun (wsV RX3 49 RX3 yX3_settle wsX3_settle) := goodIn_app (goodIn_of _ (by decide +kernel)) ggX3_takeRun_X3_settle
theorem dX3_takeRun_0 : decode cX3_takeRun 0 = .ok (.aload_n 0, 1) := by decide +kernel
theorem dX3_takeRun_1 : decode cX3_takeRun 1 = .ok (.getfield 22, 3) := by decide +kernel
theorem dX3_takeRun_4 : decode cX3_takeRun 4 = .ok (.aload_n 0, 1) := by decide +kernel
theorem dX3_takeRun_5 : decode cX3_takeRun 5 = .ok (.getfield 10, 3) := by decide +kernel
theorem dX3_takeRun_8 : decode cX3_takeRun 8 = .ok (.invokevirtual 41, 3) := by decide +kernel
theorem dX3_takeRun_11 : decode cX3_takeRun 11 = .ok (.aload_n 0, 1) := by decide +kernel
theorem dX3_takeRun_12 : decode cX3_takeRun 12 = .ok (.aload_n 0, 1) := by decide +kernel
theorem dX3_takeRun_13 : decode cX3_takeRun 13 = .ok (.getfield 10, 3) := by decide +kernel
theorem dX3_takeRun_16 : decode cX3_takeRun 16 = .ok (.iload_n 1, 1) := by decide +kernel
theorem dX3_takeRun_17 : decode cX3_takeRun 17 = .ok (.invokevirtual 53, 3) := by decide +kernel
theorem dX3_takeRun_20 : decode cX3_takeRun 20 = .ok (.invokevirtual 49, 3) := by decide +kernel
theorem dX3_takeRun_23 : decode cX3_takeRun 23 = .ok (.ireturn, 1) := by decide +kernel
set_option maxRecDepth 20000 in
theorem ggX3_giveBack_X0_prepare : GoodIn wsX3_giveBack wsX0_prepare := goodIn_r _ [7, 8, 9, 10, 11, 6, 12, 13, 14, 15, 16, 17, 18, 19, 20, 21, 22, 23, 24, 25, 26, 27, 28, 86, 87, 88, 89, 90, 91, 92, 93] (by decide +kernel) (by decide +kernel)
set_option maxRecDepth 20000 in
theorem gX3_giveBack_X0_prepare : GoodIn wsX3_giveBack (wsV RX3 41 RX0 yX0_prepare wsX0_prepare) := goodIn_app (goodIn_of _ (by decide +kernel)) ggX3_giveBack_X0_prepare
set_option maxRecDepth 20000 in
theorem ggX3_giveBack_X2_giveBackRange : GoodIn wsX3_giveBack wsX2_giveBackRange := goodIn_r _ [32, 20, 33, 34, 35, 36, 37, 38, 39, 40, 41, 42, 43, 44, 45, 18, 46, 25, 47, 48, 49, 50, 51, 52, 26, 53, 54, 55, 56, 27, 57, 58, 59, 60, 61, 62, 63, 64, 65, 66, 67, 89, 90, 91, 92, 93] (by decide +kernel) (by decide +kernel)
set_option maxRecDepth 20000 in
theorem gX3_giveBack_X2_giveBackRange : GoodIn wsX3_giveBack (wsV RX3 56 RX2 yX2_giveBackRange wsX2_giveBackRange) := goodIn_app (goodIn_of _ (by decide +kernel)) ggX3_giveBack_X2_giveBackRange
set_option maxRecDepth 20000 in
theorem ggX3_giveBack_X3_settle : GoodIn wsX3_giveBack wsX3_settle := goodIn_r _ [71, 1, 2, 72, 73, 74, 6, 75, 8, 9, 10, 11, 12, 13, 14, 15, 16, 17, 18, 19, 20, 21, 22, 23, 24, 25, 26, 27, 28, 76, 77, 78, 79, 80, 81, 82, 83, 84, 85, 86, 87, 88, 89, 90, 91, 92, 93] (by decide +kernel) (by decide +kernel)
set_option maxRecDepth 20000 in
theorem gX3_giveBack_X3_settle : GoodIn wsX3_giveBack (wsV RX3 49 RX3 yX3_settle wsX3_settle) := goodIn_app (goodIn_of _ (by decide +kernel)) ggX3_giveBack_X3_settle
theorem dX3_giveBack_0 : decode cX3_giveBack 0 = .ok (.aload_n 0, 1) := by decide +kernel
theorem dX3_giveBack_1 : decode cX3_giveBack 1 = .ok (.getfield 22, 3) := by decide +kernel
theorem dX3_giveBack_4 : decode cX3_giveBack 4 = .ok (.aload_n 0, 1) := by decide +kernel
theorem dX3_giveBack_5 : decode cX3_giveBack 5 = .ok (.getfield 10, 3) := by decide +kernel
theorem dX3_giveBack_8 : decode cX3_giveBack 8 = .ok (.invokevirtual 41, 3) := by decide +kernel
theorem dX3_giveBack_11 : decode cX3_giveBack 11 = .ok (.aload_n 0, 1) := by decide +kernel
theorem dX3_giveBack_12 : decode cX3_giveBack 12 = .ok (.aload_n 0, 1) := by decide +kernel
theorem dX3_giveBack_13 : decode cX3_giveBack 13 = .ok (.getfield 10, 3) := by decide +kernel
theorem dX3_giveBack_16 : decode cX3_giveBack 16 = .ok (.iload_n 1, 1) := by decide +kernel
theorem dX3_giveBack_17 : decode cX3_giveBack 17 = .ok (.iload_n 2, 1) := by decide +kernel
theorem dX3_giveBack_18 : decode cX3_giveBack 18 = .ok (.invokevirtual 56, 3) := by decide +kernel
theorem dX3_giveBack_21 : decode cX3_giveBack 21 = .ok (.invokevirtual 49, 3) := by decide +kernel
theorem dX3_giveBack_24 : decode cX3_giveBack 24 = .ok (.ireturn, 1) := by decide +kernel
set_option maxRecDepth 20000 in
theorem ggX3_clear_X0_prepare : GoodIn wsX3_clear wsX0_prepare := goodIn_r _ [7, 8, 9, 10, 11, 6, 12, 13, 14, 15, 16, 17, 18, 19, 20, 21, 22, 23, 24, 25, 26, 27, 28, 67, 68, 69, 70, 71, 72, 73, 74] (by decide +kernel) (by decide +kernel)
set_option maxRecDepth 20000 in
theorem gX3_clear_X0_prepare : GoodIn wsX3_clear (wsV RX3 41 RX0 yX0_prepare wsX0_prepare) := goodIn_app (goodIn_of _ (by decide +kernel)) ggX3_clear_X0_prepare
set_option maxRecDepth 20000 in
theorem ggX3_clear_X2_clearWords : GoodIn wsX3_clear wsX2_clearWords := goodIn_r _ [32, 20, 33, 34, 35, 18, 36, 27, 37, 38, 39, 40, 41, 42, 43, 44, 45, 46, 47, 70, 71, 72, 73, 74] (by decide +kernel) (by decide +kernel)
set_option maxRecDepth 20000 in
theorem gX3_clear_X2_clearWords : GoodIn wsX3_clear (wsV RX3 60 RX2 yX2_clearWords wsX2_clearWords) := goodIn_app (goodIn_of _ (by decide +kernel)) ggX3_clear_X2_clearWords
set_option maxRecDepth 20000 in
theorem ggX3_clear_X3_settle : GoodIn wsX3_clear wsX3_settle := goodIn_r _ [52, 1, 2, 53, 54, 55, 6, 56, 8, 9, 10, 11, 12, 13, 14, 15, 16, 17, 18, 19, 20, 21, 22, 23, 24, 25, 26, 27, 28, 57, 58, 59, 60, 61, 62, 63, 64, 65, 66, 67, 68, 69, 70, 71, 72, 73, 74] (by decide +kernel) (by decide +kernel)
set_option maxRecDepth 20000 in
theorem gX3_clear_X3_settle : GoodIn wsX3_clear (wsV RX3 49 RX3 yX3_settle wsX3_settle) := goodIn_app (goodIn_of _ (by decide +kernel)) ggX3_clear_X3_settle
theorem dX3_clear_0 : decode cX3_clear 0 = .ok (.aload_n 0, 1) := by decide +kernel
theorem dX3_clear_1 : decode cX3_clear 1 = .ok (.getfield 22, 3) := by decide +kernel
theorem dX3_clear_4 : decode cX3_clear 4 = .ok (.aload_n 0, 1) := by decide +kernel
theorem dX3_clear_5 : decode cX3_clear 5 = .ok (.getfield 10, 3) := by decide +kernel
theorem dX3_clear_8 : decode cX3_clear 8 = .ok (.invokevirtual 41, 3) := by decide +kernel
theorem dX3_clear_11 : decode cX3_clear 11 = .ok (.aload_n 0, 1) := by decide +kernel
theorem dX3_clear_12 : decode cX3_clear 12 = .ok (.aload_n 0, 1) := by decide +kernel
theorem dX3_clear_13 : decode cX3_clear 13 = .ok (.getfield 10, 3) := by decide +kernel
theorem dX3_clear_16 : decode cX3_clear 16 = .ok (.iload_n 1, 1) := by decide +kernel
theorem dX3_clear_17 : decode cX3_clear 17 = .ok (.invokevirtual 60, 3) := by decide +kernel
theorem dX3_clear_20 : decode cX3_clear 20 = .ok (.invokevirtual 49, 3) := by decide +kernel
theorem dX3_clear_23 : decode cX3_clear 23 = .ok (.ireturn, 1) := by decide +kernel
set_option maxRecDepth 20000 in
theorem ggX3_reserve_X0_prepare : GoodIn wsX3_reserve wsX0_prepare := goodIn_r _ [7, 8, 9, 10, 11, 6, 12, 13, 14, 15, 16, 17, 18, 19, 20, 21, 22, 23, 24, 25, 26, 27, 28, 89, 90, 91, 92, 93, 94, 95, 96] (by decide +kernel) (by decide +kernel)
set_option maxRecDepth 20000 in
theorem gX3_reserve_X0_prepare : GoodIn wsX3_reserve (wsV RX3 41 RX0 yX0_prepare wsX0_prepare) := goodIn_app (goodIn_of _ (by decide +kernel)) ggX3_reserve_X0_prepare
set_option maxRecDepth 20000 in
theorem ggX3_reserve_X2_reserveBlock : GoodIn wsX3_reserve wsX2_reserveBlock := goodIn_r _ [32, 25, 26, 33, 34, 35, 36, 37, 38, 18, 39, 40, 41, 42, 43, 44, 45, 46, 47, 20, 48, 49, 50, 51, 52, 53, 54, 55, 56, 57, 58, 59, 60, 61, 62, 63, 64, 65, 66, 27, 67, 68, 69, 70, 92, 93, 94, 95, 96] (by decide +kernel) (by decide +kernel)
set_option maxRecDepth 20000 in
theorem gX3_reserve_X2_reserveBlock : GoodIn wsX3_reserve (wsV RX3 63 RX2 yX2_reserveBlock wsX2_reserveBlock) := goodIn_app (goodIn_of _ (by decide +kernel)) ggX3_reserve_X2_reserveBlock
set_option maxRecDepth 20000 in
theorem ggX3_reserve_X3_settle : GoodIn wsX3_reserve wsX3_settle := goodIn_r _ [74, 1, 2, 75, 76, 77, 6, 78, 8, 9, 10, 11, 12, 13, 14, 15, 16, 17, 18, 19, 20, 21, 22, 23, 24, 25, 26, 27, 28, 79, 80, 81, 82, 83, 84, 85, 86, 87, 88, 89, 90, 91, 92, 93, 94, 95, 96] (by decide +kernel) (by decide +kernel)
set_option maxRecDepth 20000 in
theorem gX3_reserve_X3_settle : GoodIn wsX3_reserve (wsV RX3 49 RX3 yX3_settle wsX3_settle) := goodIn_app (goodIn_of _ (by decide +kernel)) ggX3_reserve_X3_settle
theorem dX3_reserve_0 : decode cX3_reserve 0 = .ok (.aload_n 0, 1) := by decide +kernel
theorem dX3_reserve_1 : decode cX3_reserve 1 = .ok (.getfield 22, 3) := by decide +kernel
theorem dX3_reserve_4 : decode cX3_reserve 4 = .ok (.aload_n 0, 1) := by decide +kernel
theorem dX3_reserve_5 : decode cX3_reserve 5 = .ok (.getfield 10, 3) := by decide +kernel
theorem dX3_reserve_8 : decode cX3_reserve 8 = .ok (.invokevirtual 41, 3) := by decide +kernel
theorem dX3_reserve_11 : decode cX3_reserve 11 = .ok (.aload_n 0, 1) := by decide +kernel
theorem dX3_reserve_12 : decode cX3_reserve 12 = .ok (.aload_n 0, 1) := by decide +kernel
theorem dX3_reserve_13 : decode cX3_reserve 13 = .ok (.getfield 10, 3) := by decide +kernel
theorem dX3_reserve_16 : decode cX3_reserve 16 = .ok (.iload_n 1, 1) := by decide +kernel
theorem dX3_reserve_17 : decode cX3_reserve 17 = .ok (.invokevirtual 63, 3) := by decide +kernel
theorem dX3_reserve_20 : decode cX3_reserve 20 = .ok (.invokevirtual 49, 3) := by decide +kernel
theorem dX3_reserve_23 : decode cX3_reserve 23 = .ok (.ireturn, 1) := by decide +kernel
set_option maxRecDepth 20000 in
theorem ggX3_takeIn_X0_prepare : GoodIn wsX3_takeIn wsX0_prepare := goodIn_r _ [7, 8, 9, 10, 11, 6, 12, 13, 14, 15, 16, 17, 18, 19, 20, 21, 22, 23, 24, 25, 26, 27, 28, 90, 91, 92, 93, 94, 95, 96, 97] (by decide +kernel) (by decide +kernel)
set_option maxRecDepth 20000 in
theorem gX3_takeIn_X0_prepare : GoodIn wsX3_takeIn (wsV RX3 41 RX0 yX0_prepare wsX0_prepare) := goodIn_app (goodIn_of _ (by decide +kernel)) ggX3_takeIn_X0_prepare
set_option maxRecDepth 20000 in
theorem ggX3_takeIn_X2_takeInBlock : GoodIn wsX3_takeIn wsX2_takeInBlock := goodIn_r _ [32, 25, 20, 33, 34, 35, 18, 36, 26, 37, 38, 39, 40, 41, 42, 43, 44, 45, 46, 47, 48, 49, 50, 51, 52, 53, 54, 55, 56, 57, 58, 59, 60, 61, 62, 63, 64, 65, 66, 67, 27, 68, 69, 70, 71, 93, 94, 95, 96, 97] (by decide +kernel) (by decide +kernel)
set_option maxRecDepth 20000 in
theorem gX3_takeIn_X2_takeInBlock : GoodIn wsX3_takeIn (wsV RX3 66 RX2 yX2_takeInBlock wsX2_takeInBlock) := goodIn_app (goodIn_of _ (by decide +kernel)) ggX3_takeIn_X2_takeInBlock
set_option maxRecDepth 20000 in
theorem ggX3_takeIn_X3_settle : GoodIn wsX3_takeIn wsX3_settle := goodIn_r _ [75, 1, 2, 76, 77, 78, 6, 79, 8, 9, 10, 11, 12, 13, 14, 15, 16, 17, 18, 19, 20, 21, 22, 23, 24, 25, 26, 27, 28, 80, 81, 82, 83, 84, 85, 86, 87, 88, 89, 90, 91, 92, 93, 94, 95, 96, 97] (by decide +kernel) (by decide +kernel)
set_option maxRecDepth 20000 in
theorem gX3_takeIn_X3_settle : GoodIn wsX3_takeIn (wsV RX3 49 RX3 yX3_settle wsX3_settle) := goodIn_app (goodIn_of _ (by decide +kernel)) ggX3_takeIn_X3_settle
theorem dX3_takeIn_0 : decode cX3_takeIn 0 = .ok (.aload_n 0, 1) := by decide +kernel
theorem dX3_takeIn_1 : decode cX3_takeIn 1 = .ok (.getfield 22, 3) := by decide +kernel
theorem dX3_takeIn_4 : decode cX3_takeIn 4 = .ok (.aload_n 0, 1) := by decide +kernel
theorem dX3_takeIn_5 : decode cX3_takeIn 5 = .ok (.getfield 10, 3) := by decide +kernel
theorem dX3_takeIn_8 : decode cX3_takeIn 8 = .ok (.invokevirtual 41, 3) := by decide +kernel
theorem dX3_takeIn_11 : decode cX3_takeIn 11 = .ok (.aload_n 0, 1) := by decide +kernel
theorem dX3_takeIn_12 : decode cX3_takeIn 12 = .ok (.aload_n 0, 1) := by decide +kernel
theorem dX3_takeIn_13 : decode cX3_takeIn 13 = .ok (.getfield 10, 3) := by decide +kernel
theorem dX3_takeIn_16 : decode cX3_takeIn 16 = .ok (.iload_n 1, 1) := by decide +kernel
theorem dX3_takeIn_17 : decode cX3_takeIn 17 = .ok (.invokevirtual 66, 3) := by decide +kernel
theorem dX3_takeIn_20 : decode cX3_takeIn 20 = .ok (.invokevirtual 49, 3) := by decide +kernel
theorem dX3_takeIn_23 : decode cX3_takeIn 23 = .ok (.ireturn, 1) := by decide +kernel
set_option maxRecDepth 20000 in
theorem ggX3_giveUp_X0_prepare : GoodIn wsX3_giveUp wsX0_prepare := goodIn_r _ [7, 8, 9, 10, 11, 6, 12, 13, 14, 15, 16, 17, 18, 19, 20, 21, 22, 23, 24, 25, 26, 27, 28, 86, 87, 88, 89, 90, 91, 92, 93] (by decide +kernel) (by decide +kernel)
set_option maxRecDepth 20000 in
theorem gX3_giveUp_X0_prepare : GoodIn wsX3_giveUp (wsV RX3 41 RX0 yX0_prepare wsX0_prepare) := goodIn_app (goodIn_of _ (by decide +kernel)) ggX3_giveUp_X0_prepare
set_option maxRecDepth 20000 in
theorem ggX3_giveUp_X2_giveUpBlock : GoodIn wsX3_giveUp wsX2_giveUpBlock := goodIn_r _ [32, 25, 20, 26, 33, 34, 35, 18, 36, 37, 38, 39, 40, 41, 42, 43, 44, 45, 46, 47, 48, 49, 50, 51, 52, 53, 54, 55, 56, 27, 57, 58, 59, 60, 61, 62, 63, 64, 65, 66, 67, 89, 90, 91, 92, 93] (by decide +kernel) (by decide +kernel)
set_option maxRecDepth 20000 in
theorem gX3_giveUp_X2_giveUpBlock : GoodIn wsX3_giveUp (wsV RX3 69 RX2 yX2_giveUpBlock wsX2_giveUpBlock) := goodIn_app (goodIn_of _ (by decide +kernel)) ggX3_giveUp_X2_giveUpBlock
set_option maxRecDepth 20000 in
theorem ggX3_giveUp_X3_settle : GoodIn wsX3_giveUp wsX3_settle := goodIn_r _ [71, 1, 2, 72, 73, 74, 6, 75, 8, 9, 10, 11, 12, 13, 14, 15, 16, 17, 18, 19, 20, 21, 22, 23, 24, 25, 26, 27, 28, 76, 77, 78, 79, 80, 81, 82, 83, 84, 85, 86, 87, 88, 89, 90, 91, 92, 93] (by decide +kernel) (by decide +kernel)
set_option maxRecDepth 20000 in
theorem gX3_giveUp_X3_settle : GoodIn wsX3_giveUp (wsV RX3 49 RX3 yX3_settle wsX3_settle) := goodIn_app (goodIn_of _ (by decide +kernel)) ggX3_giveUp_X3_settle
theorem dX3_giveUp_0 : decode cX3_giveUp 0 = .ok (.aload_n 0, 1) := by decide +kernel
theorem dX3_giveUp_1 : decode cX3_giveUp 1 = .ok (.getfield 22, 3) := by decide +kernel
theorem dX3_giveUp_4 : decode cX3_giveUp 4 = .ok (.aload_n 0, 1) := by decide +kernel
theorem dX3_giveUp_5 : decode cX3_giveUp 5 = .ok (.getfield 10, 3) := by decide +kernel
theorem dX3_giveUp_8 : decode cX3_giveUp 8 = .ok (.invokevirtual 41, 3) := by decide +kernel
theorem dX3_giveUp_11 : decode cX3_giveUp 11 = .ok (.aload_n 0, 1) := by decide +kernel
theorem dX3_giveUp_12 : decode cX3_giveUp 12 = .ok (.aload_n 0, 1) := by decide +kernel
theorem dX3_giveUp_13 : decode cX3_giveUp 13 = .ok (.getfield 10, 3) := by decide +kernel
theorem dX3_giveUp_16 : decode cX3_giveUp 16 = .ok (.iload_n 1, 1) := by decide +kernel
theorem dX3_giveUp_17 : decode cX3_giveUp 17 = .ok (.invokevirtual 69, 3) := by decide +kernel
theorem dX3_giveUp_20 : decode cX3_giveUp 20 = .ok (.invokevirtual 49, 3) := by decide +kernel
theorem dX3_giveUp_23 : decode cX3_giveUp 23 = .ok (.ireturn, 1) := by decide +kernel
set_option maxRecDepth 20000 in
theorem ggX3_damage_X0_prepare : GoodIn wsX3_damage wsX0_prepare := goodIn_r _ [7, 8, 9, 10, 11, 6, 12, 13, 14, 15, 16, 17, 18, 19, 20, 21, 22, 23, 24, 25, 26, 27, 28, 56, 57, 58, 59, 60, 61, 62, 63] (by decide +kernel) (by decide +kernel)
set_option maxRecDepth 20000 in
theorem gX3_damage_X0_prepare : GoodIn wsX3_damage (wsV RX3 41 RX0 yX0_prepare wsX0_prepare) := goodIn_app (goodIn_of _ (by decide +kernel)) ggX3_damage_X0_prepare
set_option maxRecDepth 20000 in
theorem ggX3_damage_X2_damageBit : GoodIn wsX3_damage wsX2_damageBit := goodIn_r _ [32, 27, 33, 34, 35, 18, 36, 59, 60, 61, 62, 63] (by decide +kernel) (by decide +kernel)
set_option maxRecDepth 20000 in
theorem gX3_damage_X2_damageBit : GoodIn wsX3_damage (wsV RX3 72 RX2 yX2_damageBit wsX2_damageBit) := goodIn_app (goodIn_of _ (by decide +kernel)) ggX3_damage_X2_damageBit
set_option maxRecDepth 20000 in
theorem ggX3_damage_X3_settle : GoodIn wsX3_damage wsX3_settle := goodIn_r _ [41, 1, 2, 42, 43, 44, 6, 45, 8, 9, 10, 11, 12, 13, 14, 15, 16, 17, 18, 19, 20, 21, 22, 23, 24, 25, 26, 27, 28, 46, 47, 48, 49, 50, 51, 52, 53, 54, 55, 56, 57, 58, 59, 60, 61, 62, 63] (by decide +kernel) (by decide +kernel)
set_option maxRecDepth 20000 in
theorem gX3_damage_X3_settle : GoodIn wsX3_damage (wsV RX3 49 RX3 yX3_settle wsX3_settle) := goodIn_app (goodIn_of _ (by decide +kernel)) ggX3_damage_X3_settle
theorem dX3_damage_0 : decode cX3_damage 0 = .ok (.aload_n 0, 1) := by decide +kernel
theorem dX3_damage_1 : decode cX3_damage 1 = .ok (.getfield 22, 3) := by decide +kernel
theorem dX3_damage_4 : decode cX3_damage 4 = .ok (.aload_n 0, 1) := by decide +kernel
theorem dX3_damage_5 : decode cX3_damage 5 = .ok (.getfield 10, 3) := by decide +kernel
theorem dX3_damage_8 : decode cX3_damage 8 = .ok (.invokevirtual 41, 3) := by decide +kernel
theorem dX3_damage_11 : decode cX3_damage 11 = .ok (.aload_n 0, 1) := by decide +kernel
theorem dX3_damage_12 : decode cX3_damage 12 = .ok (.aload_n 0, 1) := by decide +kernel
theorem dX3_damage_13 : decode cX3_damage 13 = .ok (.getfield 10, 3) := by decide +kernel
theorem dX3_damage_16 : decode cX3_damage 16 = .ok (.iload_n 1, 1) := by decide +kernel
theorem dX3_damage_17 : decode cX3_damage 17 = .ok (.invokevirtual 72, 3) := by decide +kernel
theorem dX3_damage_20 : decode cX3_damage 20 = .ok (.invokevirtual 49, 3) := by decide +kernel
theorem dX3_damage_23 : decode cX3_damage 23 = .ok (.ireturn, 1) := by decide +kernel
set_option maxRecDepth 20000 in
theorem ggX3_repair_X0_prepare : GoodIn wsX3_repair wsX0_prepare := goodIn_r _ [7, 8, 9, 10, 11, 6, 12, 13, 14, 15, 16, 17, 18, 19, 20, 21, 22, 23, 24, 25, 26, 27, 28, 67, 68, 69, 70, 71, 72, 73, 74] (by decide +kernel) (by decide +kernel)
set_option maxRecDepth 20000 in
theorem gX3_repair_X0_prepare : GoodIn wsX3_repair (wsV RX3 41 RX0 yX0_prepare wsX0_prepare) := goodIn_app (goodIn_of _ (by decide +kernel)) ggX3_repair_X0_prepare
set_option maxRecDepth 20000 in
theorem ggX3_repair_X2_repairBits : GoodIn wsX3_repair wsX2_repairBits := goodIn_r _ [32, 27, 33, 34, 35, 18, 36, 37, 38, 39, 40, 20, 41, 42, 43, 44, 45, 46, 47, 70, 71, 72, 73, 74] (by decide +kernel) (by decide +kernel)
set_option maxRecDepth 20000 in
theorem gX3_repair_X2_repairBits : GoodIn wsX3_repair (wsV RX3 75 RX2 yX2_repairBits wsX2_repairBits) := goodIn_app (goodIn_of _ (by decide +kernel)) ggX3_repair_X2_repairBits
set_option maxRecDepth 20000 in
theorem ggX3_repair_X3_settle : GoodIn wsX3_repair wsX3_settle := goodIn_r _ [52, 1, 2, 53, 54, 55, 6, 56, 8, 9, 10, 11, 12, 13, 14, 15, 16, 17, 18, 19, 20, 21, 22, 23, 24, 25, 26, 27, 28, 57, 58, 59, 60, 61, 62, 63, 64, 65, 66, 67, 68, 69, 70, 71, 72, 73, 74] (by decide +kernel) (by decide +kernel)
set_option maxRecDepth 20000 in
theorem gX3_repair_X3_settle : GoodIn wsX3_repair (wsV RX3 49 RX3 yX3_settle wsX3_settle) := goodIn_app (goodIn_of _ (by decide +kernel)) ggX3_repair_X3_settle
theorem dX3_repair_0 : decode cX3_repair 0 = .ok (.aload_n 0, 1) := by decide +kernel
theorem dX3_repair_1 : decode cX3_repair 1 = .ok (.getfield 22, 3) := by decide +kernel
theorem dX3_repair_4 : decode cX3_repair 4 = .ok (.aload_n 0, 1) := by decide +kernel
theorem dX3_repair_5 : decode cX3_repair 5 = .ok (.getfield 10, 3) := by decide +kernel
theorem dX3_repair_8 : decode cX3_repair 8 = .ok (.invokevirtual 41, 3) := by decide +kernel
theorem dX3_repair_11 : decode cX3_repair 11 = .ok (.aload_n 0, 1) := by decide +kernel
theorem dX3_repair_12 : decode cX3_repair 12 = .ok (.aload_n 0, 1) := by decide +kernel
theorem dX3_repair_13 : decode cX3_repair 13 = .ok (.getfield 10, 3) := by decide +kernel
theorem dX3_repair_16 : decode cX3_repair 16 = .ok (.invokevirtual 75, 3) := by decide +kernel
theorem dX3_repair_19 : decode cX3_repair 19 = .ok (.invokevirtual 49, 3) := by decide +kernel
theorem dX3_repair_22 : decode cX3_repair 22 = .ok (.ireturn, 1) := by decide +kernel
set_option maxRecDepth 20000 in
theorem ggX3_undo_X0_restoreLatest : GoodIn wsX3_undo wsX0_restoreLatest := goodIn_r _ [7, 8, 9, 10, 11, 6, 12, 13, 14, 15, 16, 17, 18, 19, 20, 21, 22, 23, 24, 25, 26, 27, 28, 29, 30, 31, 32, 39, 40, 41, 42, 43, 44, 45, 46] (by decide +kernel) (by decide +kernel)
set_option maxRecDepth 20000 in
theorem gX3_undo_X0_restoreLatest : GoodIn wsX3_undo (wsV RX3 78 RX0 yX0_restoreLatest wsX0_restoreLatest) := goodIn_app (goodIn_of _ (by decide +kernel)) ggX3_undo_X0_restoreLatest
theorem dX3_undo_0 : decode cX3_undo 0 = .ok (.aload_n 0, 1) := by decide +kernel
theorem dX3_undo_1 : decode cX3_undo 1 = .ok (.getfield 22, 3) := by decide +kernel
theorem dX3_undo_4 : decode cX3_undo 4 = .ok (.aload_n 0, 1) := by decide +kernel
theorem dX3_undo_5 : decode cX3_undo 5 = .ok (.getfield 10, 3) := by decide +kernel
theorem dX3_undo_8 : decode cX3_undo 8 = .ok (.invokevirtual 78, 3) := by decide +kernel
theorem dX3_undo_11 : decode cX3_undo 11 = .ok (.ireturn, 1) := by decide +kernel
theorem dX3_append_0 : decode cX3_append 0 = .ok (.iload_n 1, 1) := by decide +kernel
theorem dX3_append_1 : decode cX3_append 1 = .ok (.iconst 1, 1) := by decide +kernel
theorem dX3_append_2 : decode cX3_append 2 = .ok (.if_icmp .lt 10, 3) := by decide +kernel
theorem dX3_append_5 : decode cX3_append 5 = .ok (.iload_n 1, 1) := by decide +kernel
theorem dX3_append_6 : decode cX3_append 6 = .ok (.sipush 255, 3) := by decide +kernel
theorem dX3_append_9 : decode cX3_append 9 = .ok (.if_icmp .le 5, 3) := by decide +kernel
theorem dX3_append_12 : decode cX3_append 12 = .ok (.iconst (-1), 1) := by decide +kernel
theorem dX3_append_13 : decode cX3_append 13 = .ok (.ireturn, 1) := by decide +kernel
theorem dX3_append_14 : decode cX3_append 14 = .ok (.aload_n 0, 1) := by decide +kernel
theorem dX3_append_15 : decode cX3_append 15 = .ok (.getfield 37, 3) := by decide +kernel
theorem dX3_append_18 : decode cX3_append 18 = .ok (.bipush 80, 2) := by decide +kernel
theorem dX3_append_20 : decode cX3_append 20 = .ok (.if_icmp .lt 6, 3) := by decide +kernel
theorem dX3_append_23 : decode cX3_append 23 = .ok (.bipush (-3), 2) := by decide +kernel
theorem dX3_append_25 : decode cX3_append 25 = .ok (.ireturn, 1) := by decide +kernel
theorem dX3_append_26 : decode cX3_append 26 = .ok (.aload_n 0, 1) := by decide +kernel
theorem dX3_append_27 : decode cX3_append 27 = .ok (.getfield 33, 3) := by decide +kernel
theorem dX3_append_30 : decode cX3_append 30 = .ok (.aload_n 0, 1) := by decide +kernel
theorem dX3_append_31 : decode cX3_append 31 = .ok (.getfield 37, 3) := by decide +kernel
theorem dX3_append_34 : decode cX3_append 34 = .ok (.iload_n 1, 1) := by decide +kernel
theorem dX3_append_35 : decode cX3_append 35 = .ok (.i2c, 1) := by decide +kernel
theorem dX3_append_36 : decode cX3_append 36 = .ok (.castore, 1) := by decide +kernel
theorem dX3_append_37 : decode cX3_append 37 = .ok (.aload_n 0, 1) := by decide +kernel
theorem dX3_append_38 : decode cX3_append 38 = .ok (.dup, 1) := by decide +kernel
theorem dX3_append_39 : decode cX3_append 39 = .ok (.getfield 37, 3) := by decide +kernel
theorem dX3_append_42 : decode cX3_append 42 = .ok (.iconst 1, 1) := by decide +kernel
theorem dX3_append_43 : decode cX3_append 43 = .ok (.iadd, 1) := by decide +kernel
theorem dX3_append_44 : decode cX3_append 44 = .ok (.putfield 37, 3) := by decide +kernel
theorem dX3_append_47 : decode cX3_append 47 = .ok (.aload_n 0, 1) := by decide +kernel
theorem dX3_append_48 : decode cX3_append 48 = .ok (.getfield 37, 3) := by decide +kernel
theorem dX3_append_51 : decode cX3_append 51 = .ok (.ireturn, 1) := by decide +kernel
theorem dX3_clearText_0 : decode cX3_clearText 0 = .ok (.aload_n 0, 1) := by decide +kernel
theorem dX3_clearText_1 : decode cX3_clearText 1 = .ok (.getfield 37, 3) := by decide +kernel
theorem dX3_clearText_4 : decode cX3_clearText 4 = .ok (.istore_n 1, 1) := by decide +kernel
theorem dX3_clearText_5 : decode cX3_clearText 5 = .ok (.aload_n 0, 1) := by decide +kernel
theorem dX3_clearText_6 : decode cX3_clearText 6 = .ok (.iconst 0, 1) := by decide +kernel
theorem dX3_clearText_7 : decode cX3_clearText 7 = .ok (.putfield 37, 3) := by decide +kernel
theorem dX3_clearText_10 : decode cX3_clearText 10 = .ok (.iload_n 1, 1) := by decide +kernel
theorem dX3_clearText_11 : decode cX3_clearText 11 = .ok (.ireturn, 1) := by decide +kernel
set_option maxRecDepth 20000 in
theorem ggX3_run_X0_prepare : GoodIn wsX3_run wsX0_prepare := goodIn_r _ [10, 11, 12, 13, 14, 9, 15, 16, 17, 18, 19, 20, 21, 22, 23, 24, 25, 26, 27, 28, 29, 30, 31, 184, 185, 186, 187, 188, 189, 190, 191] (by decide +kernel) (by decide +kernel)
set_option maxRecDepth 20000 in
theorem gX3_run_X0_prepare : GoodIn wsX3_run (wsV RX3 41 RX0 yX0_prepare wsX0_prepare) := goodIn_app (goodIn_of _ (by decide +kernel)) ggX3_run_X0_prepare
set_option maxRecDepth 20000 in
theorem ggX3_run_X1_execute : GoodIn wsX3_run wsX1_execute := goodIn_r _ [36, 37, 38, 39, 40, 41, 35, 42, 43, 44, 45, 46, 47, 48, 49, 50, 51, 52, 53, 54, 55, 56, 57, 58, 59, 60, 61, 62, 63, 64, 65, 66, 67, 68, 69, 21, 70, 71, 72, 73, 74, 75, 76, 77, 78, 31, 23, 30, 79, 80, 81, 82, 83, 84, 85, 86, 87, 88, 89, 90, 91, 92, 93, 94, 95, 96, 97, 98, 99, 100, 101, 102, 103, 104, 105, 106, 107, 108, 109, 110, 111, 112, 113, 114, 115, 116, 117, 118, 119, 120, 121, 122, 123, 124, 28, 125, 126, 127, 128, 129, 130, 29, 131, 132, 133, 134, 135, 136, 137, 138, 139, 140, 141, 142, 143, 144, 145, 146, 147, 148, 149, 150, 151, 152, 153, 154, 155, 156, 157, 158, 159, 160, 161, 162, 163, 164, 165, 192, 193, 194, 195, 196, 197, 187, 188, 189, 190, 191] (by decide +kernel) (by decide +kernel)
set_option maxRecDepth 20000 in
theorem gX3_run_X1_execute : GoodIn wsX3_run (wsV RX3 82 RX1 yX1_execute wsX1_execute) := goodIn_app (goodIn_of _ (by decide +kernel)) ggX3_run_X1_execute
set_option maxRecDepth 20000 in
theorem ggX3_run_X3_settle : GoodIn wsX3_run wsX3_settle := goodIn_r _ [169, 1, 2, 170, 171, 172, 9, 173, 11, 12, 13, 14, 15, 16, 17, 18, 19, 20, 21, 22, 23, 24, 25, 26, 27, 28, 29, 30, 31, 174, 175, 176, 177, 178, 179, 180, 181, 182, 183, 184, 185, 186, 187, 188, 189, 190, 191] (by decide +kernel) (by decide +kernel)
set_option maxRecDepth 20000 in
theorem gX3_run_X3_settle : GoodIn wsX3_run (wsV RX3 49 RX3 yX3_settle wsX3_settle) := goodIn_app (goodIn_of _ (by decide +kernel)) ggX3_run_X3_settle
theorem dX3_run_0 : decode cX3_run 0 = .ok (.aload_n 0, 1) := by decide +kernel
theorem dX3_run_1 : decode cX3_run 1 = .ok (.getfield 22, 3) := by decide +kernel
theorem dX3_run_4 : decode cX3_run 4 = .ok (.aload_n 0, 1) := by decide +kernel
theorem dX3_run_5 : decode cX3_run 5 = .ok (.getfield 10, 3) := by decide +kernel
theorem dX3_run_8 : decode cX3_run 8 = .ok (.invokevirtual 41, 3) := by decide +kernel
theorem dX3_run_11 : decode cX3_run 11 = .ok (.aload_n 0, 1) := by decide +kernel
theorem dX3_run_12 : decode cX3_run 12 = .ok (.aload_n 0, 1) := by decide +kernel
theorem dX3_run_13 : decode cX3_run 13 = .ok (.getfield 29, 3) := by decide +kernel
theorem dX3_run_16 : decode cX3_run 16 = .ok (.aload_n 0, 1) := by decide +kernel
theorem dX3_run_17 : decode cX3_run 17 = .ok (.getfield 33, 3) := by decide +kernel
theorem dX3_run_20 : decode cX3_run 20 = .ok (.aload_n 0, 1) := by decide +kernel
theorem dX3_run_21 : decode cX3_run 21 = .ok (.getfield 37, 3) := by decide +kernel
theorem dX3_run_24 : decode cX3_run 24 = .ok (.aload_n 0, 1) := by decide +kernel
theorem dX3_run_25 : decode cX3_run 25 = .ok (.getfield 10, 3) := by decide +kernel
theorem dX3_run_28 : decode cX3_run 28 = .ok (.invokevirtual 82, 3) := by decide +kernel
theorem dX3_run_31 : decode cX3_run 31 = .ok (.invokevirtual 49, 3) := by decide +kernel
theorem dX3_run_34 : decode cX3_run 34 = .ok (.ireturn, 1) := by decide +kernel
set_option maxRecDepth 20000 in
theorem ggX3_count_X2_total : GoodIn wsX3_count wsX2_total := goodIn_r _ [8, 9, 10, 11, 12, 13, 14, 15, 16, 62, 63, 64, 65, 66] (by decide +kernel) (by decide +kernel)
set_option maxRecDepth 20000 in
theorem gX3_count_X2_total : GoodIn wsX3_count (wsV RX3 86 RX2 yX2_total wsX2_total) := goodIn_app (goodIn_of _ (by decide +kernel)) ggX3_count_X2_total
set_option maxRecDepth 20000 in
theorem ggX3_count_X2_blockTotal : GoodIn wsX3_count wsX2_blockTotal := goodIn_r _ [20, 21, 22, 23, 7, 24, 25, 62, 63, 64, 65, 66] (by decide +kernel) (by decide +kernel)
set_option maxRecDepth 20000 in
theorem gX3_count_X2_blockTotal : GoodIn wsX3_count (wsV RX3 89 RX2 yX2_blockTotal wsX2_blockTotal) := goodIn_app (goodIn_of _ (by decide +kernel)) ggX3_count_X2_blockTotal
set_option maxRecDepth 20000 in
theorem ggX3_count_J6_bitCount_0f7a4 : GoodIn wsX3_count wsJ6_bitCount_0f7a4 := goodIn_r _ [13, 14, 15, 16] (by decide +kernel) (by decide +kernel)
set_option maxRecDepth 20000 in
theorem gX3_count_J6_bitCount_0f7a4 : GoodIn wsX3_count (va_wsS RX3 98 yJ6_bitCount_0f7a4 wsJ6_bitCount_0f7a4) := goodIn_app (goodIn_of _ (by decide +kernel)) ggX3_count_J6_bitCount_0f7a4
set_option maxRecDepth 20000 in
theorem ggX3_count_X2_rightSummary : GoodIn wsX3_count wsX2_rightSummary := goodIn_r _ [30, 31, 32, 33, 7, 34, 9, 62, 63, 64, 65, 66] (by decide +kernel) (by decide +kernel)
set_option maxRecDepth 20000 in
theorem gX3_count_X2_rightSummary : GoodIn wsX3_count (wsV RX3 103 RX2 yX2_rightSummary wsX2_rightSummary) := goodIn_app (goodIn_of _ (by decide +kernel)) ggX3_count_X2_rightSummary
set_option maxRecDepth 20000 in
theorem ggX3_count_X2_freeRuns : GoodIn wsX3_count wsX2_freeRuns := goodIn_r _ [38, 39, 40, 41, 7, 42, 9, 43, 44, 45, 46, 47, 62, 63, 64, 65, 66] (by decide +kernel) (by decide +kernel)
set_option maxRecDepth 20000 in
theorem gX3_count_X2_freeRuns : GoodIn wsX3_count (wsV RX3 106 RX2 yX2_freeRuns wsX2_freeRuns) := goodIn_app (goodIn_of _ (by decide +kernel)) ggX3_count_X2_freeRuns
set_option maxRecDepth 20000 in
theorem ggX3_count_X2_longestFreeRun : GoodIn wsX3_count wsX2_longestFreeRun := goodIn_r _ [51, 52, 53, 54, 55, 39, 40, 41, 7, 42, 9, 43, 44, 45, 46, 47, 62, 63, 64, 65, 66] (by decide +kernel) (by decide +kernel)
set_option maxRecDepth 20000 in
theorem gX3_count_X2_longestFreeRun : GoodIn wsX3_count (wsV RX3 109 RX2 yX2_longestFreeRun wsX2_longestFreeRun) := goodIn_app (goodIn_of _ (by decide +kernel)) ggX3_count_X2_longestFreeRun
theorem dX3_count_0 : decode cX3_count 0 = .ok (.iload_n 1, 1) := by decide +kernel
theorem dX3_count_1 : decode cX3_count 1 = .ok (.tableswitch 139 0 11 #[63, 63, 63, 63, 72, 80, 88, 99, 110, 118, 126, 134], 63) := by decide +kernel
theorem dX3_count_64 : decode cX3_count 64 = .ok (.aload_n 0, 1) := by decide +kernel
theorem dX3_count_65 : decode cX3_count 65 = .ok (.getfield 10, 3) := by decide +kernel
theorem dX3_count_68 : decode cX3_count 68 = .ok (.iload_n 1, 1) := by decide +kernel
theorem dX3_count_69 : decode cX3_count 69 = .ok (.invokevirtual 86, 3) := by decide +kernel
theorem dX3_count_72 : decode cX3_count 72 = .ok (.ireturn, 1) := by decide +kernel
theorem dX3_count_73 : decode cX3_count 73 = .ok (.aload_n 0, 1) := by decide +kernel
theorem dX3_count_74 : decode cX3_count 74 = .ok (.getfield 10, 3) := by decide +kernel
theorem dX3_count_77 : decode cX3_count 77 = .ok (.invokevirtual 89, 3) := by decide +kernel
theorem dX3_count_80 : decode cX3_count 80 = .ok (.ireturn, 1) := by decide +kernel
theorem dX3_count_81 : decode cX3_count 81 = .ok (.aload_n 0, 1) := by decide +kernel
theorem dX3_count_82 : decode cX3_count 82 = .ok (.getfield 10, 3) := by decide +kernel
theorem dX3_count_85 : decode cX3_count 85 = .ok (.getfield 92, 3) := by decide +kernel
theorem dX3_count_88 : decode cX3_count 88 = .ok (.ireturn, 1) := by decide +kernel
theorem dX3_count_89 : decode cX3_count 89 = .ok (.aload_n 0, 1) := by decide +kernel
theorem dX3_count_90 : decode cX3_count 90 = .ok (.getfield 10, 3) := by decide +kernel
theorem dX3_count_93 : decode cX3_count 93 = .ok (.getfield 95, 3) := by decide +kernel
theorem dX3_count_96 : decode cX3_count 96 = .ok (.invokestatic 98, 3) := by decide +kernel
theorem dX3_count_99 : decode cX3_count 99 = .ok (.ireturn, 1) := by decide +kernel
theorem dX3_count_100 : decode cX3_count 100 = .ok (.aload_n 0, 1) := by decide +kernel
theorem dX3_count_101 : decode cX3_count 101 = .ok (.getfield 10, 3) := by decide +kernel
theorem dX3_count_104 : decode cX3_count 104 = .ok (.invokevirtual 103, 3) := by decide +kernel
theorem dX3_count_107 : decode cX3_count 107 = .ok (.invokestatic 98, 3) := by decide +kernel
theorem dX3_count_110 : decode cX3_count 110 = .ok (.ireturn, 1) := by decide +kernel
theorem dX3_count_111 : decode cX3_count 111 = .ok (.aload_n 0, 1) := by decide +kernel
theorem dX3_count_112 : decode cX3_count 112 = .ok (.getfield 10, 3) := by decide +kernel
theorem dX3_count_115 : decode cX3_count 115 = .ok (.invokevirtual 106, 3) := by decide +kernel
theorem dX3_count_118 : decode cX3_count 118 = .ok (.ireturn, 1) := by decide +kernel
theorem dX3_count_119 : decode cX3_count 119 = .ok (.aload_n 0, 1) := by decide +kernel
theorem dX3_count_120 : decode cX3_count 120 = .ok (.getfield 10, 3) := by decide +kernel
theorem dX3_count_123 : decode cX3_count 123 = .ok (.invokevirtual 109, 3) := by decide +kernel
theorem dX3_count_126 : decode cX3_count 126 = .ok (.ireturn, 1) := by decide +kernel
theorem dX3_count_127 : decode cX3_count 127 = .ok (.aload_n 0, 1) := by decide +kernel
theorem dX3_count_128 : decode cX3_count 128 = .ok (.getfield 22, 3) := by decide +kernel
theorem dX3_count_131 : decode cX3_count 131 = .ok (.getfield 112, 3) := by decide +kernel
theorem dX3_count_134 : decode cX3_count 134 = .ok (.ireturn, 1) := by decide +kernel
theorem dX3_count_135 : decode cX3_count 135 = .ok (.aload_n 0, 1) := by decide +kernel
theorem dX3_count_136 : decode cX3_count 136 = .ok (.getfield 37, 3) := by decide +kernel
theorem dX3_count_139 : decode cX3_count 139 = .ok (.ireturn, 1) := by decide +kernel
theorem dX3_count_140 : decode cX3_count 140 = .ok (.iconst (-1), 1) := by decide +kernel
theorem dX3_count_141 : decode cX3_count 141 = .ok (.ireturn, 1) := by decide +kernel
set_option maxRecDepth 20000 in
theorem ggX3_slot_X2_kindOf : GoodIn wsX3_slot wsX2_kindOf := goodIn_r _ [6, 7, 8, 9, 10, 11, 12, 25, 26, 27, 28, 29] (by decide +kernel) (by decide +kernel)
set_option maxRecDepth 20000 in
theorem gX3_slot_X2_kindOf : GoodIn wsX3_slot (wsV RX3 115 RX2 yX2_kindOf wsX2_kindOf) := goodIn_app (goodIn_of _ (by decide +kernel)) ggX3_slot_X2_kindOf
set_option maxRecDepth 20000 in
theorem ggX3_slot_X2_blockOf : GoodIn wsX3_slot wsX2_blockOf := goodIn_r _ [16, 17, 18, 25, 26, 27, 28, 29] (by decide +kernel) (by decide +kernel)
set_option maxRecDepth 20000 in
theorem gX3_slot_X2_blockOf : GoodIn wsX3_slot (wsV RX3 118 RX2 yX2_blockOf wsX2_blockOf) := goodIn_app (goodIn_of _ (by decide +kernel)) ggX3_slot_X2_blockOf
theorem dX3_slot_0 : decode cX3_slot 0 = .ok (.iload_n 1, 1) := by decide +kernel
theorem dX3_slot_1 : decode cX3_slot 1 = .ok (.ifCond .lt 10, 3) := by decide +kernel
theorem dX3_slot_4 : decode cX3_slot 4 = .ok (.iload_n 1, 1) := by decide +kernel
theorem dX3_slot_5 : decode cX3_slot 5 = .ok (.sipush 320, 3) := by decide +kernel
theorem dX3_slot_8 : decode cX3_slot 8 = .ok (.if_icmp .lt 5, 3) := by decide +kernel
theorem dX3_slot_11 : decode cX3_slot 11 = .ok (.iconst (-1), 1) := by decide +kernel
theorem dX3_slot_12 : decode cX3_slot 12 = .ok (.ireturn, 1) := by decide +kernel
theorem dX3_slot_13 : decode cX3_slot 13 = .ok (.iload_n 2, 1) := by decide +kernel
theorem dX3_slot_14 : decode cX3_slot 14 = .ok (.lookupswitch 44 #[(0, 26), (1, 35)], 26) := by decide +kernel
theorem dX3_slot_40 : decode cX3_slot 40 = .ok (.aload_n 0, 1) := by decide +kernel
theorem dX3_slot_41 : decode cX3_slot 41 = .ok (.getfield 10, 3) := by decide +kernel
theorem dX3_slot_44 : decode cX3_slot 44 = .ok (.iload_n 1, 1) := by decide +kernel
theorem dX3_slot_45 : decode cX3_slot 45 = .ok (.invokevirtual 115, 3) := by decide +kernel
theorem dX3_slot_48 : decode cX3_slot 48 = .ok (.ireturn, 1) := by decide +kernel
theorem dX3_slot_49 : decode cX3_slot 49 = .ok (.aload_n 0, 1) := by decide +kernel
theorem dX3_slot_50 : decode cX3_slot 50 = .ok (.getfield 10, 3) := by decide +kernel
theorem dX3_slot_53 : decode cX3_slot 53 = .ok (.iload_n 1, 1) := by decide +kernel
theorem dX3_slot_54 : decode cX3_slot 54 = .ok (.invokevirtual 118, 3) := by decide +kernel
theorem dX3_slot_57 : decode cX3_slot 57 = .ok (.ireturn, 1) := by decide +kernel
theorem dX3_slot_58 : decode cX3_slot 58 = .ok (.iconst (-1), 1) := by decide +kernel
theorem dX3_slot_59 : decode cX3_slot 59 = .ok (.ireturn, 1) := by decide +kernel
set_option maxRecDepth 20000 in
theorem ggX3_word_J6_bitCount_0f7a4 : GoodIn wsX3_word wsJ6_bitCount_0f7a4 := goodIn_r _ [5, 6, 7, 8] (by decide +kernel) (by decide +kernel)
set_option maxRecDepth 20000 in
theorem gX3_word_J6_bitCount_0f7a4 : GoodIn wsX3_word (va_wsS RX3 98 yJ6_bitCount_0f7a4 wsJ6_bitCount_0f7a4) := goodIn_app (goodIn_of _ (by decide +kernel)) ggX3_word_J6_bitCount_0f7a4
set_option maxRecDepth 20000 in
theorem ggX3_word_X2_summaryBit : GoodIn wsX3_word wsX2_summaryBit := goodIn_r _ [13, 14, 34, 35, 36, 37, 38] (by decide +kernel) (by decide +kernel)
set_option maxRecDepth 20000 in
theorem gX3_word_X2_summaryBit : GoodIn wsX3_word (wsV RX3 125 RX2 yX2_summaryBit wsX2_summaryBit) := goodIn_app (goodIn_of _ (by decide +kernel)) ggX3_word_X2_summaryBit
set_option maxRecDepth 20000 in
theorem ggX3_word_X2_isFull : GoodIn wsX3_word wsX2_isFull := goodIn_r _ [18, 19, 34, 35, 36, 37, 38] (by decide +kernel) (by decide +kernel)
set_option maxRecDepth 20000 in
theorem gX3_word_X2_isFull : GoodIn wsX3_word (wsV RX3 128 RX2 yX2_isFull wsX2_isFull) := goodIn_app (goodIn_of _ (by decide +kernel)) ggX3_word_X2_isFull
set_option maxRecDepth 20000 in
theorem ggX3_word_X2_firstFree : GoodIn wsX3_word wsX2_firstFree := goodIn_r _ [23, 19, 24, 16, 17, 12, 18, 25, 26, 27, 2, 3, 4, 5, 6, 7, 8, 34, 35, 36, 37, 38] (by decide +kernel) (by decide +kernel)
set_option maxRecDepth 20000 in
theorem gX3_word_X2_firstFree : GoodIn wsX3_word (wsV RX3 132 RX2 yX2_firstFree wsX2_firstFree) := goodIn_app (goodIn_of _ (by decide +kernel)) ggX3_word_X2_firstFree
theorem dX3_word_0 : decode cX3_word 0 = .ok (.iload_n 1, 1) := by decide +kernel
theorem dX3_word_1 : decode cX3_word 1 = .ok (.ifCond .lt 9, 3) := by decide +kernel
theorem dX3_word_4 : decode cX3_word 4 = .ok (.iload_n 1, 1) := by decide +kernel
theorem dX3_word_5 : decode cX3_word 5 = .ok (.bipush 10, 2) := by decide +kernel
theorem dX3_word_7 : decode cX3_word 7 = .ok (.if_icmp .lt 5, 3) := by decide +kernel
theorem dX3_word_10 : decode cX3_word 10 = .ok (.iconst (-1), 1) := by decide +kernel
theorem dX3_word_11 : decode cX3_word 11 = .ok (.ireturn, 1) := by decide +kernel
theorem dX3_word_12 : decode cX3_word 12 = .ok (.iload_n 2, 1) := by decide +kernel
theorem dX3_word_13 : decode cX3_word 13 = .ok (.tableswitch 93 0 6 #[43, 43, 43, 43, 58, 67, 84], 43) := by decide +kernel
theorem dX3_word_56 : decode cX3_word 56 = .ok (.aload_n 0, 1) := by decide +kernel
theorem dX3_word_57 : decode cX3_word 57 = .ok (.getfield 10, 3) := by decide +kernel
theorem dX3_word_60 : decode cX3_word 60 = .ok (.getfield 121, 3) := by decide +kernel
theorem dX3_word_63 : decode cX3_word 63 = .ok (.iload_n 2, 1) := by decide +kernel
theorem dX3_word_64 : decode cX3_word 64 = .ok (.aaload, 1) := by decide +kernel
theorem dX3_word_65 : decode cX3_word 65 = .ok (.iload_n 1, 1) := by decide +kernel
theorem dX3_word_66 : decode cX3_word 66 = .ok (.iaload, 1) := by decide +kernel
theorem dX3_word_67 : decode cX3_word 67 = .ok (.invokestatic 98, 3) := by decide +kernel
theorem dX3_word_70 : decode cX3_word 70 = .ok (.ireturn, 1) := by decide +kernel
theorem dX3_word_71 : decode cX3_word 71 = .ok (.aload_n 0, 1) := by decide +kernel
theorem dX3_word_72 : decode cX3_word 72 = .ok (.getfield 10, 3) := by decide +kernel
theorem dX3_word_75 : decode cX3_word 75 = .ok (.iload_n 1, 1) := by decide +kernel
theorem dX3_word_76 : decode cX3_word 76 = .ok (.invokevirtual 125, 3) := by decide +kernel
theorem dX3_word_79 : decode cX3_word 79 = .ok (.ireturn, 1) := by decide +kernel
theorem dX3_word_80 : decode cX3_word 80 = .ok (.aload_n 0, 1) := by decide +kernel
theorem dX3_word_81 : decode cX3_word 81 = .ok (.getfield 10, 3) := by decide +kernel
theorem dX3_word_84 : decode cX3_word 84 = .ok (.iload_n 1, 1) := by decide +kernel
theorem dX3_word_85 : decode cX3_word 85 = .ok (.invokevirtual 128, 3) := by decide +kernel
theorem dX3_word_88 : decode cX3_word 88 = .ok (.ifCond .eq 7, 3) := by decide +kernel
theorem dX3_word_91 : decode cX3_word 91 = .ok (.iconst 1, 1) := by decide +kernel
theorem dX3_word_92 : decode cX3_word 92 = .ok (.goto 4, 3) := by decide +kernel
theorem dX3_word_95 : decode cX3_word 95 = .ok (.iconst 0, 1) := by decide +kernel
theorem dX3_word_96 : decode cX3_word 96 = .ok (.ireturn, 1) := by decide +kernel
theorem dX3_word_97 : decode cX3_word 97 = .ok (.aload_n 0, 1) := by decide +kernel
theorem dX3_word_98 : decode cX3_word 98 = .ok (.getfield 10, 3) := by decide +kernel
theorem dX3_word_101 : decode cX3_word 101 = .ok (.iload_n 1, 1) := by decide +kernel
theorem dX3_word_102 : decode cX3_word 102 = .ok (.invokevirtual 132, 3) := by decide +kernel
theorem dX3_word_105 : decode cX3_word 105 = .ok (.ireturn, 1) := by decide +kernel
theorem dX3_word_106 : decode cX3_word 106 = .ok (.iconst (-1), 1) := by decide +kernel
theorem dX3_word_107 : decode cX3_word 107 = .ok (.ireturn, 1) := by decide +kernel
set_option maxRecDepth 20000 in
theorem ggX3_block_X2_hasBlock : GoodIn wsX3_block wsX2_hasBlock := goodIn_r _ [6, 7, 43, 44, 45, 46, 47] (by decide +kernel) (by decide +kernel)
set_option maxRecDepth 20000 in
theorem gX3_block_X2_hasBlock : GoodIn wsX3_block (wsV RX3 135 RX2 yX2_hasBlock wsX2_hasBlock) := goodIn_app (goodIn_of _ (by decide +kernel)) ggX3_block_X2_hasBlock
set_option maxRecDepth 20000 in
theorem ggX3_block_X2_totalInBlock : GoodIn wsX3_block wsX2_totalInBlock := goodIn_r _ [11, 12, 13, 14, 15, 16, 17, 18, 19, 5, 20, 7, 21, 22, 23, 24, 25, 26, 27, 28, 29, 30, 31, 32, 33, 34, 35, 36, 43, 44, 45, 46, 47] (by decide +kernel) (by decide +kernel)
set_option maxRecDepth 20000 in
theorem gX3_block_X2_totalInBlock : GoodIn wsX3_block (wsV RX3 145 RX2 yX2_totalInBlock wsX2_totalInBlock) := goodIn_app (goodIn_of _ (by decide +kernel)) ggX3_block_X2_totalInBlock
theorem dX3_block_0 : decode cX3_block 0 = .ok (.iload_n 1, 1) := by decide +kernel
theorem dX3_block_1 : decode cX3_block 1 = .ok (.ifCond .lt 18, 3) := by decide +kernel
theorem dX3_block_4 : decode cX3_block 4 = .ok (.iload_n 1, 1) := by decide +kernel
theorem dX3_block_5 : decode cX3_block 5 = .ok (.bipush 8, 2) := by decide +kernel
theorem dX3_block_7 : decode cX3_block 7 = .ok (.if_icmp .ge 12, 3) := by decide +kernel
theorem dX3_block_10 : decode cX3_block 10 = .ok (.iload_n 2, 1) := by decide +kernel
theorem dX3_block_11 : decode cX3_block 11 = .ok (.ifCond .lt 8, 3) := by decide +kernel
theorem dX3_block_14 : decode cX3_block 14 = .ok (.iload_n 2, 1) := by decide +kernel
theorem dX3_block_15 : decode cX3_block 15 = .ok (.iconst 3, 1) := by decide +kernel
theorem dX3_block_16 : decode cX3_block 16 = .ok (.if_icmp .le 5, 3) := by decide +kernel
theorem dX3_block_19 : decode cX3_block 19 = .ok (.iconst (-1), 1) := by decide +kernel
theorem dX3_block_20 : decode cX3_block 20 = .ok (.ireturn, 1) := by decide +kernel
theorem dX3_block_21 : decode cX3_block 21 = .ok (.aload_n 0, 1) := by decide +kernel
theorem dX3_block_22 : decode cX3_block 22 = .ok (.getfield 10, 3) := by decide +kernel
theorem dX3_block_25 : decode cX3_block 25 = .ok (.iload_n 1, 1) := by decide +kernel
theorem dX3_block_26 : decode cX3_block 26 = .ok (.invokevirtual 135, 3) := by decide +kernel
theorem dX3_block_29 : decode cX3_block 29 = .ok (.ifCond .ne 6, 3) := by decide +kernel
theorem dX3_block_32 : decode cX3_block 32 = .ok (.bipush (-9), 2) := by decide +kernel
theorem dX3_block_34 : decode cX3_block 34 = .ok (.ireturn, 1) := by decide +kernel
theorem dX3_block_35 : decode cX3_block 35 = .ok (.iload_n 2, 1) := by decide +kernel
theorem dX3_block_36 : decode cX3_block 36 = .ok (.tableswitch 58 0 2 #[28, 38, 48], 28) := by decide +kernel
theorem dX3_block_64 : decode cX3_block 64 = .ok (.aload_n 0, 1) := by decide +kernel
theorem dX3_block_65 : decode cX3_block 65 = .ok (.getfield 10, 3) := by decide +kernel
theorem dX3_block_68 : decode cX3_block 68 = .ok (.getfield 138, 3) := by decide +kernel
theorem dX3_block_71 : decode cX3_block 71 = .ok (.iload_n 1, 1) := by decide +kernel
theorem dX3_block_72 : decode cX3_block 72 = .ok (.iaload, 1) := by decide +kernel
theorem dX3_block_73 : decode cX3_block 73 = .ok (.ireturn, 1) := by decide +kernel
theorem dX3_block_74 : decode cX3_block 74 = .ok (.aload_n 0, 1) := by decide +kernel
theorem dX3_block_75 : decode cX3_block 75 = .ok (.getfield 10, 3) := by decide +kernel
theorem dX3_block_78 : decode cX3_block 78 = .ok (.getfield 142, 3) := by decide +kernel
theorem dX3_block_81 : decode cX3_block 81 = .ok (.iload_n 1, 1) := by decide +kernel
theorem dX3_block_82 : decode cX3_block 82 = .ok (.iaload, 1) := by decide +kernel
theorem dX3_block_83 : decode cX3_block 83 = .ok (.ireturn, 1) := by decide +kernel
theorem dX3_block_84 : decode cX3_block 84 = .ok (.aload_n 0, 1) := by decide +kernel
theorem dX3_block_85 : decode cX3_block 85 = .ok (.getfield 10, 3) := by decide +kernel
theorem dX3_block_88 : decode cX3_block 88 = .ok (.iload_n 1, 1) := by decide +kernel
theorem dX3_block_89 : decode cX3_block 89 = .ok (.iconst 1, 1) := by decide +kernel
theorem dX3_block_90 : decode cX3_block 90 = .ok (.invokevirtual 145, 3) := by decide +kernel
theorem dX3_block_93 : decode cX3_block 93 = .ok (.ireturn, 1) := by decide +kernel
theorem dX3_block_94 : decode cX3_block 94 = .ok (.aload_n 0, 1) := by decide +kernel
theorem dX3_block_95 : decode cX3_block 95 = .ok (.getfield 10, 3) := by decide +kernel
theorem dX3_block_98 : decode cX3_block 98 = .ok (.iload_n 1, 1) := by decide +kernel
theorem dX3_block_99 : decode cX3_block 99 = .ok (.iconst 3, 1) := by decide +kernel
theorem dX3_block_100 : decode cX3_block 100 = .ok (.invokevirtual 145, 3) := by decide +kernel
theorem dX3_block_103 : decode cX3_block 103 = .ok (.ireturn, 1) := by decide +kernel
set_option maxRecDepth 20000 in
theorem ggX3_audit_X2_rightSummary : GoodIn wsX3_audit wsX2_rightSummary := goodIn_r _ [6, 7, 8, 9, 5, 10, 11, 29, 30, 31, 32, 33] (by decide +kernel) (by decide +kernel)
set_option maxRecDepth 20000 in
theorem gX3_audit_X2_rightSummary : GoodIn wsX3_audit (wsV RX3 103 RX2 yX2_rightSummary wsX2_rightSummary) := goodIn_app (goodIn_of _ (by decide +kernel)) ggX3_audit_X2_rightSummary
set_option maxRecDepth 20000 in
theorem ggX3_audit_J6_bitCount_0f7a4 : GoodIn wsX3_audit wsJ6_bitCount_0f7a4 := goodIn_r _ [15, 16, 17, 18] (by decide +kernel) (by decide +kernel)
set_option maxRecDepth 20000 in
theorem gX3_audit_J6_bitCount_0f7a4 : GoodIn wsX3_audit (va_wsS RX3 98 yJ6_bitCount_0f7a4 wsJ6_bitCount_0f7a4) := goodIn_app (goodIn_of _ (by decide +kernel)) ggX3_audit_J6_bitCount_0f7a4
set_option maxRecDepth 20000 in
theorem ggX3_audit_X3_lowestBit : GoodIn wsX3_audit wsX3_lowestBit := goodIn_r _ [22, 12, 13, 14, 15, 16, 17, 18] (by decide +kernel) (by decide +kernel)
set_option maxRecDepth 20000 in
theorem gX3_audit_X3_lowestBit : GoodIn wsX3_audit (va_wsS RX3 148 yX3_lowestBit wsX3_lowestBit) := goodIn_app (goodIn_of _ (by decide +kernel)) ggX3_audit_X3_lowestBit
theorem dX3_audit_0 : decode cX3_audit 0 = .ok (.aload_n 0, 1) := by decide +kernel
theorem dX3_audit_1 : decode cX3_audit 1 = .ok (.getfield 10, 3) := by decide +kernel
theorem dX3_audit_4 : decode cX3_audit 4 = .ok (.getfield 95, 3) := by decide +kernel
theorem dX3_audit_7 : decode cX3_audit 7 = .ok (.aload_n 0, 1) := by decide +kernel
theorem dX3_audit_8 : decode cX3_audit 8 = .ok (.getfield 10, 3) := by decide +kernel
theorem dX3_audit_11 : decode cX3_audit 11 = .ok (.invokevirtual 103, 3) := by decide +kernel
theorem dX3_audit_14 : decode cX3_audit 14 = .ok (.ixor, 1) := by decide +kernel
theorem dX3_audit_15 : decode cX3_audit 15 = .ok (.istore_n 2, 1) := by decide +kernel
theorem dX3_audit_16 : decode cX3_audit 16 = .ok (.iload_n 1, 1) := by decide +kernel
theorem dX3_audit_17 : decode cX3_audit 17 = .ok (.tableswitch 59 0 2 #[27, 32, 46], 27) := by decide +kernel
theorem dX3_audit_44 : decode cX3_audit 44 = .ok (.iload_n 2, 1) := by decide +kernel
theorem dX3_audit_45 : decode cX3_audit 45 = .ok (.invokestatic 98, 3) := by decide +kernel
theorem dX3_audit_48 : decode cX3_audit 48 = .ok (.ireturn, 1) := by decide +kernel
theorem dX3_audit_49 : decode cX3_audit 49 = .ok (.iload_n 2, 1) := by decide +kernel
theorem dX3_audit_50 : decode cX3_audit 50 = .ok (.ifCond .ne 8, 3) := by decide +kernel
theorem dX3_audit_53 : decode cX3_audit 53 = .ok (.bipush (-9), 2) := by decide +kernel
theorem dX3_audit_55 : decode cX3_audit 55 = .ok (.goto 7, 3) := by decide +kernel
theorem dX3_audit_58 : decode cX3_audit 58 = .ok (.iload_n 2, 1) := by decide +kernel
theorem dX3_audit_59 : decode cX3_audit 59 = .ok (.invokestatic 148, 3) := by decide +kernel
theorem dX3_audit_62 : decode cX3_audit 62 = .ok (.ireturn, 1) := by decide +kernel
theorem dX3_audit_63 : decode cX3_audit 63 = .ok (.iload_n 2, 1) := by decide +kernel
theorem dX3_audit_64 : decode cX3_audit 64 = .ok (.aload_n 0, 1) := by decide +kernel
theorem dX3_audit_65 : decode cX3_audit 65 = .ok (.getfield 10, 3) := by decide +kernel
theorem dX3_audit_68 : decode cX3_audit 68 = .ok (.getfield 95, 3) := by decide +kernel
theorem dX3_audit_71 : decode cX3_audit 71 = .ok (.iand, 1) := by decide +kernel
theorem dX3_audit_72 : decode cX3_audit 72 = .ok (.invokestatic 98, 3) := by decide +kernel
theorem dX3_audit_75 : decode cX3_audit 75 = .ok (.ireturn, 1) := by decide +kernel
theorem dX3_audit_76 : decode cX3_audit 76 = .ok (.iconst (-1), 1) := by decide +kernel
theorem dX3_audit_77 : decode cX3_audit 77 = .ok (.ireturn, 1) := by decide +kernel
set_option maxRecDepth 20000 in
theorem ggX3_next_X2_copyFrom : GoodIn wsX3_next wsX2_copyFrom := goodIn_r _ [7, 8, 9, 10, 11, 12, 13, 14, 15, 16, 64, 65, 66, 67, 68] (by decide +kernel) (by decide +kernel)
set_option maxRecDepth 20000 in
theorem gX3_next_X2_copyFrom : GoodIn wsX3_next (wsV RX3 151 RX2 yX2_copyFrom wsX2_copyFrom) := goodIn_app (goodIn_of _ (by decide +kernel)) ggX3_next_X2_copyFrom
set_option maxRecDepth 20000 in
theorem ggX3_next_X2_takeOne : GoodIn wsX3_next wsX2_takeOne := goodIn_r _ [20, 21, 22, 23, 6, 24, 16, 8, 15, 25, 26, 27, 28, 29, 30, 31, 32, 33, 34, 35, 36, 37, 38, 39, 40, 41, 42, 43, 44, 45, 46, 47, 48, 49, 50, 51, 52, 53, 64, 65, 66, 67, 68] (by decide +kernel) (by decide +kernel)
set_option maxRecDepth 20000 in
theorem gX3_next_X2_takeOne : GoodIn wsX3_next (wsV RX3 45 RX2 yX2_takeOne wsX2_takeOne) := goodIn_app (goodIn_of _ (by decide +kernel)) ggX3_next_X2_takeOne
set_option maxRecDepth 20000 in
theorem ggX3_next_X2_total : GoodIn wsX3_next wsX2_total := goodIn_r _ [57, 8, 53, 37, 38, 39, 40, 41, 42, 64, 65, 66, 67, 68] (by decide +kernel) (by decide +kernel)
set_option maxRecDepth 20000 in
theorem gX3_next_X2_total : GoodIn wsX3_next (wsV RX3 86 RX2 yX2_total wsX2_total) := goodIn_app (goodIn_of _ (by decide +kernel)) ggX3_next_X2_total
theorem dX3_next_0 : decode cX3_next 0 = .ok (.iload_n 1, 1) := by decide +kernel
theorem dX3_next_1 : decode cX3_next 1 = .ok (.ifCond .lt 8, 3) := by decide +kernel
theorem dX3_next_4 : decode cX3_next 4 = .ok (.iload_n 1, 1) := by decide +kernel
theorem dX3_next_5 : decode cX3_next 5 = .ok (.iconst 2, 1) := by decide +kernel
theorem dX3_next_6 : decode cX3_next 6 = .ok (.if_icmp .le 5, 3) := by decide +kernel
theorem dX3_next_9 : decode cX3_next 9 = .ok (.iconst (-1), 1) := by decide +kernel
theorem dX3_next_10 : decode cX3_next 10 = .ok (.ireturn, 1) := by decide +kernel
theorem dX3_next_11 : decode cX3_next 11 = .ok (.aload_n 0, 1) := by decide +kernel
theorem dX3_next_12 : decode cX3_next 12 = .ok (.getfield 16, 3) := by decide +kernel
theorem dX3_next_15 : decode cX3_next 15 = .ok (.aload_n 0, 1) := by decide +kernel
theorem dX3_next_16 : decode cX3_next 16 = .ok (.getfield 10, 3) := by decide +kernel
theorem dX3_next_19 : decode cX3_next 19 = .ok (.invokevirtual 151, 3) := by decide +kernel
theorem dX3_next_22 : decode cX3_next 22 = .ok (.aload_n 0, 1) := by decide +kernel
theorem dX3_next_23 : decode cX3_next 23 = .ok (.getfield 16, 3) := by decide +kernel
theorem dX3_next_26 : decode cX3_next 26 = .ok (.invokevirtual 45, 3) := by decide +kernel
theorem dX3_next_29 : decode cX3_next 29 = .ok (.istore_n 2, 1) := by decide +kernel
theorem dX3_next_30 : decode cX3_next 30 = .ok (.iload_n 2, 1) := by decide +kernel
theorem dX3_next_31 : decode cX3_next 31 = .ok (.ifCond .ge 6, 3) := by decide +kernel
theorem dX3_next_34 : decode cX3_next 34 = .ok (.bipush (-9), 2) := by decide +kernel
theorem dX3_next_36 : decode cX3_next 36 = .ok (.ireturn, 1) := by decide +kernel
theorem dX3_next_37 : decode cX3_next 37 = .ok (.iload_n 1, 1) := by decide +kernel
theorem dX3_next_38 : decode cX3_next 38 = .ok (.lookupswitch 44 #[(0, 26), (1, 28)], 26) := by decide +kernel
theorem dX3_next_64 : decode cX3_next 64 = .ok (.iload_n 2, 1) := by decide +kernel
theorem dX3_next_65 : decode cX3_next 65 = .ok (.ireturn, 1) := by decide +kernel
theorem dX3_next_66 : decode cX3_next 66 = .ok (.aload_n 0, 1) := by decide +kernel
theorem dX3_next_67 : decode cX3_next 67 = .ok (.getfield 16, 3) := by decide +kernel
theorem dX3_next_70 : decode cX3_next 70 = .ok (.getfield 92, 3) := by decide +kernel
theorem dX3_next_73 : decode cX3_next 73 = .ok (.aload_n 0, 1) := by decide +kernel
theorem dX3_next_74 : decode cX3_next 74 = .ok (.getfield 10, 3) := by decide +kernel
theorem dX3_next_77 : decode cX3_next 77 = .ok (.getfield 92, 3) := by decide +kernel
theorem dX3_next_80 : decode cX3_next 80 = .ok (.isub, 1) := by decide +kernel
theorem dX3_next_81 : decode cX3_next 81 = .ok (.ireturn, 1) := by decide +kernel
theorem dX3_next_82 : decode cX3_next 82 = .ok (.aload_n 0, 1) := by decide +kernel
theorem dX3_next_83 : decode cX3_next 83 = .ok (.getfield 16, 3) := by decide +kernel
theorem dX3_next_86 : decode cX3_next 86 = .ok (.iconst 2, 1) := by decide +kernel
theorem dX3_next_87 : decode cX3_next 87 = .ok (.invokevirtual 86, 3) := by decide +kernel
theorem dX3_next_90 : decode cX3_next 90 = .ok (.aload_n 0, 1) := by decide +kernel
theorem dX3_next_91 : decode cX3_next 91 = .ok (.getfield 10, 3) := by decide +kernel
theorem dX3_next_94 : decode cX3_next 94 = .ok (.iconst 2, 1) := by decide +kernel
theorem dX3_next_95 : decode cX3_next 95 = .ok (.invokevirtual 86, 3) := by decide +kernel
theorem dX3_next_98 : decode cX3_next 98 = .ok (.if_icmp .ge 7, 3) := by decide +kernel
theorem dX3_next_101 : decode cX3_next 101 = .ok (.iconst 1, 1) := by decide +kernel
theorem dX3_next_102 : decode cX3_next 102 = .ok (.goto 4, 3) := by decide +kernel
theorem dX3_next_105 : decode cX3_next 105 = .ok (.iconst 0, 1) := by decide +kernel
theorem dX3_next_106 : decode cX3_next 106 = .ok (.ireturn, 1) := by decide +kernel
set_option maxRecDepth 20000 in
theorem ggX3_runAt_X3_isRunLength : GoodIn wsX3_runAt wsX3_isRunLength := goodIn_r _ [5] (by decide +kernel) (by decide +kernel)
set_option maxRecDepth 20000 in
theorem gX3_runAt_X3_isRunLength : GoodIn wsX3_runAt (va_wsS RX3 154 yX3_isRunLength wsX3_isRunLength) := goodIn_app (goodIn_of _ (by decide +kernel)) ggX3_runAt_X3_isRunLength
set_option maxRecDepth 20000 in
theorem ggX3_runAt_X2_runStart : GoodIn wsX3_runAt wsX2_runStart := goodIn_r _ [10, 11, 12, 13, 9, 14, 15, 16, 4, 17, 18, 19, 26, 27, 28, 29, 30] (by decide +kernel) (by decide +kernel)
set_option maxRecDepth 20000 in
theorem gX3_runAt_X2_runStart : GoodIn wsX3_runAt (wsV RX3 157 RX2 yX2_runStart wsX2_runStart) := goodIn_app (goodIn_of _ (by decide +kernel)) ggX3_runAt_X2_runStart
theorem dX3_runAt_0 : decode cX3_runAt 0 = .ok (.iload_n 1, 1) := by decide +kernel
theorem dX3_runAt_1 : decode cX3_runAt 1 = .ok (.invokestatic 154, 3) := by decide +kernel
theorem dX3_runAt_4 : decode cX3_runAt 4 = .ok (.ifCond .eq 14, 3) := by decide +kernel
theorem dX3_runAt_7 : decode cX3_runAt 7 = .ok (.aload_n 0, 1) := by decide +kernel
theorem dX3_runAt_8 : decode cX3_runAt 8 = .ok (.getfield 10, 3) := by decide +kernel
theorem dX3_runAt_11 : decode cX3_runAt 11 = .ok (.iload_n 1, 1) := by decide +kernel
theorem dX3_runAt_12 : decode cX3_runAt 12 = .ok (.invokevirtual 157, 3) := by decide +kernel
theorem dX3_runAt_15 : decode cX3_runAt 15 = .ok (.goto 4, 3) := by decide +kernel
theorem dX3_runAt_18 : decode cX3_runAt 18 = .ok (.iconst (-1), 1) := by decide +kernel
theorem dX3_runAt_19 : decode cX3_runAt 19 = .ok (.ireturn, 1) := by decide +kernel
set_option maxRecDepth 20000 in
theorem ggX3_placeFor_X3_isBlockSize : GoodIn wsX3_placeFor wsX3_isBlockSize := goodIn_r _ [5] (by decide +kernel) (by decide +kernel)
set_option maxRecDepth 20000 in
theorem gX3_placeFor_X3_isBlockSize : GoodIn wsX3_placeFor (va_wsS RX3 160 yX3_isBlockSize wsX3_isBlockSize) := goodIn_app (goodIn_of _ (by decide +kernel)) ggX3_placeFor_X3_isBlockSize
set_option maxRecDepth 20000 in
theorem ggX3_placeFor_X2_placeStart : GoodIn wsX3_placeFor wsX2_placeStart := goodIn_r _ [10, 11, 12, 4, 13, 14, 15, 16, 17, 18, 19, 20, 21, 22, 29, 30, 31, 32, 33] (by decide +kernel) (by decide +kernel)
set_option maxRecDepth 20000 in
theorem gX3_placeFor_X2_placeStart : GoodIn wsX3_placeFor (wsV RX3 163 RX2 yX2_placeStart wsX2_placeStart) := goodIn_app (goodIn_of _ (by decide +kernel)) ggX3_placeFor_X2_placeStart
theorem dX3_placeFor_0 : decode cX3_placeFor 0 = .ok (.iload_n 1, 1) := by decide +kernel
theorem dX3_placeFor_1 : decode cX3_placeFor 1 = .ok (.invokestatic 160, 3) := by decide +kernel
theorem dX3_placeFor_4 : decode cX3_placeFor 4 = .ok (.ifCond .eq 14, 3) := by decide +kernel
theorem dX3_placeFor_7 : decode cX3_placeFor 7 = .ok (.aload_n 0, 1) := by decide +kernel
theorem dX3_placeFor_8 : decode cX3_placeFor 8 = .ok (.getfield 10, 3) := by decide +kernel
theorem dX3_placeFor_11 : decode cX3_placeFor 11 = .ok (.iload_n 1, 1) := by decide +kernel
theorem dX3_placeFor_12 : decode cX3_placeFor 12 = .ok (.invokevirtual 163, 3) := by decide +kernel
theorem dX3_placeFor_15 : decode cX3_placeFor 15 = .ok (.goto 4, 3) := by decide +kernel
theorem dX3_placeFor_18 : decode cX3_placeFor 18 = .ok (.iconst (-1), 1) := by decide +kernel
theorem dX3_placeFor_19 : decode cX3_placeFor 19 = .ok (.ireturn, 1) := by decide +kernel
set_option maxRecDepth 20000 in
theorem ggX3_takes_X2_reachable : GoodIn wsX3_takes wsX2_reachable := goodIn_r _ [6, 7, 8, 9, 10, 5, 11, 12, 13, 14, 15, 16, 17, 18, 19, 26, 27, 28, 29, 30] (by decide +kernel) (by decide +kernel)
set_option maxRecDepth 20000 in
theorem gX3_takes_X2_reachable : GoodIn wsX3_takes (wsV RX3 166 RX2 yX2_reachable wsX2_reachable) := goodIn_app (goodIn_of _ (by decide +kernel)) ggX3_takes_X2_reachable
theorem dX3_takes_0 : decode cX3_takes 0 = .ok (.aload_n 0, 1) := by decide +kernel
theorem dX3_takes_1 : decode cX3_takes 1 = .ok (.getfield 10, 3) := by decide +kernel
theorem dX3_takes_4 : decode cX3_takes 4 = .ok (.invokevirtual 166, 3) := by decide +kernel
theorem dX3_takes_7 : decode cX3_takes 7 = .ok (.ireturn, 1) := by decide +kernel
set_option maxRecDepth 20000 in
theorem ggX3_settle_X0_takeBack : GoodIn wsX3_settle wsX0_takeBack := goodIn_r _ [7, 8, 9, 10, 11, 6, 12, 13, 14, 15, 16, 17, 18, 19, 20, 21, 22, 23, 24, 25, 26, 27, 28, 39, 40, 41, 42, 43, 44, 45, 46] (by decide +kernel) (by decide +kernel)
set_option maxRecDepth 20000 in
theorem gX3_settle_X0_takeBack : GoodIn wsX3_settle (wsV RX3 169 RX0 yX0_takeBack wsX0_takeBack) := goodIn_app (goodIn_of _ (by decide +kernel)) ggX3_settle_X0_takeBack
set_option maxRecDepth 20000 in
theorem ggX3_settle_X0_keep : GoodIn wsX3_settle wsX0_keep := goodIn_r _ [32, 14, 13, 39, 40, 41] (by decide +kernel) (by decide +kernel)
set_option maxRecDepth 20000 in
theorem gX3_settle_X0_keep : GoodIn wsX3_settle (wsV RX3 172 RX0 yX0_keep wsX0_keep) := goodIn_app (goodIn_of _ (by decide +kernel)) ggX3_settle_X0_keep
theorem dX3_settle_0 : decode cX3_settle 0 = .ok (.iload_n 1, 1) := by decide +kernel
theorem dX3_settle_1 : decode cX3_settle 1 = .ok (.ifCond .ge 17, 3) := by decide +kernel
theorem dX3_settle_4 : decode cX3_settle 4 = .ok (.aload_n 0, 1) := by decide +kernel
theorem dX3_settle_5 : decode cX3_settle 5 = .ok (.getfield 22, 3) := by decide +kernel
theorem dX3_settle_8 : decode cX3_settle 8 = .ok (.aload_n 0, 1) := by decide +kernel
theorem dX3_settle_9 : decode cX3_settle 9 = .ok (.getfield 10, 3) := by decide +kernel
theorem dX3_settle_12 : decode cX3_settle 12 = .ok (.invokevirtual 169, 3) := by decide +kernel
theorem dX3_settle_15 : decode cX3_settle 15 = .ok (.goto 10, 3) := by decide +kernel
theorem dX3_settle_18 : decode cX3_settle 18 = .ok (.aload_n 0, 1) := by decide +kernel
theorem dX3_settle_19 : decode cX3_settle 19 = .ok (.getfield 22, 3) := by decide +kernel
theorem dX3_settle_22 : decode cX3_settle 22 = .ok (.invokevirtual 172, 3) := by decide +kernel
theorem dX3_settle_25 : decode cX3_settle 25 = .ok (.iload_n 1, 1) := by decide +kernel
theorem dX3_settle_26 : decode cX3_settle 26 = .ok (.ireturn, 1) := by decide +kernel
theorem dX3_isRunLength_0 : decode cX3_isRunLength 0 = .ok (.iload_n 0, 1) := by decide +kernel
theorem dX3_isRunLength_1 : decode cX3_isRunLength 1 = .ok (.iconst 1, 1) := by decide +kernel
theorem dX3_isRunLength_2 : decode cX3_isRunLength 2 = .ok (.if_icmp .lt 13, 3) := by decide +kernel
theorem dX3_isRunLength_5 : decode cX3_isRunLength 5 = .ok (.iload_n 0, 1) := by decide +kernel
theorem dX3_isRunLength_6 : decode cX3_isRunLength 6 = .ok (.bipush 64, 2) := by decide +kernel
theorem dX3_isRunLength_8 : decode cX3_isRunLength 8 = .ok (.if_icmp .gt 7, 3) := by decide +kernel
theorem dX3_isRunLength_11 : decode cX3_isRunLength 11 = .ok (.iconst 1, 1) := by decide +kernel
theorem dX3_isRunLength_12 : decode cX3_isRunLength 12 = .ok (.goto 4, 3) := by decide +kernel
theorem dX3_isRunLength_15 : decode cX3_isRunLength 15 = .ok (.iconst 0, 1) := by decide +kernel
theorem dX3_isRunLength_16 : decode cX3_isRunLength 16 = .ok (.ireturn, 1) := by decide +kernel
theorem dX3_isBlockSize_0 : decode cX3_isBlockSize 0 = .ok (.iload_n 0, 1) := by decide +kernel
theorem dX3_isBlockSize_1 : decode cX3_isBlockSize 1 = .ok (.iconst 4, 1) := by decide +kernel
theorem dX3_isBlockSize_2 : decode cX3_isBlockSize 2 = .ok (.if_icmp .eq 21, 3) := by decide +kernel
theorem dX3_isBlockSize_5 : decode cX3_isBlockSize 5 = .ok (.iload_n 0, 1) := by decide +kernel
theorem dX3_isBlockSize_6 : decode cX3_isBlockSize 6 = .ok (.bipush 8, 2) := by decide +kernel
theorem dX3_isBlockSize_8 : decode cX3_isBlockSize 8 = .ok (.if_icmp .eq 15, 3) := by decide +kernel
theorem dX3_isBlockSize_11 : decode cX3_isBlockSize 11 = .ok (.iload_n 0, 1) := by decide +kernel
theorem dX3_isBlockSize_12 : decode cX3_isBlockSize 12 = .ok (.bipush 16, 2) := by decide +kernel
theorem dX3_isBlockSize_14 : decode cX3_isBlockSize 14 = .ok (.if_icmp .eq 9, 3) := by decide +kernel
theorem dX3_isBlockSize_17 : decode cX3_isBlockSize 17 = .ok (.iload_n 0, 1) := by decide +kernel
theorem dX3_isBlockSize_18 : decode cX3_isBlockSize 18 = .ok (.bipush 32, 2) := by decide +kernel
theorem dX3_isBlockSize_20 : decode cX3_isBlockSize 20 = .ok (.if_icmp .ne 7, 3) := by decide +kernel
theorem dX3_isBlockSize_23 : decode cX3_isBlockSize 23 = .ok (.iconst 1, 1) := by decide +kernel
theorem dX3_isBlockSize_24 : decode cX3_isBlockSize 24 = .ok (.goto 4, 3) := by decide +kernel
theorem dX3_isBlockSize_27 : decode cX3_isBlockSize 27 = .ok (.iconst 0, 1) := by decide +kernel
theorem dX3_isBlockSize_28 : decode cX3_isBlockSize 28 = .ok (.ireturn, 1) := by decide +kernel
theorem dX3_wordOf_0 : decode cX3_wordOf 0 = .ok (.iload_n 0, 1) := by decide +kernel
theorem dX3_wordOf_1 : decode cX3_wordOf 1 = .ok (.bipush 32, 2) := by decide +kernel
theorem dX3_wordOf_3 : decode cX3_wordOf 3 = .ok (.idiv, 1) := by decide +kernel
theorem dX3_wordOf_4 : decode cX3_wordOf 4 = .ok (.ireturn, 1) := by decide +kernel
theorem dX3_bitOf_0 : decode cX3_bitOf 0 = .ok (.iconst 1, 1) := by decide +kernel
theorem dX3_bitOf_1 : decode cX3_bitOf 1 = .ok (.iload_n 0, 1) := by decide +kernel
theorem dX3_bitOf_2 : decode cX3_bitOf 2 = .ok (.bipush 32, 2) := by decide +kernel
theorem dX3_bitOf_4 : decode cX3_bitOf 4 = .ok (.irem, 1) := by decide +kernel
theorem dX3_bitOf_5 : decode cX3_bitOf 5 = .ok (.ishl, 1) := by decide +kernel
theorem dX3_bitOf_6 : decode cX3_bitOf 6 = .ok (.ireturn, 1) := by decide +kernel
set_option maxRecDepth 20000 in
theorem ggX3_lowestBit_J6_bitCount_0f7a4 : GoodIn wsX3_lowestBit wsJ6_bitCount_0f7a4 := goodIn_r _ [4, 5, 6, 7] (by decide +kernel) (by decide +kernel)
set_option maxRecDepth 20000 in
theorem gX3_lowestBit_J6_bitCount_0f7a4 : GoodIn wsX3_lowestBit (va_wsS RX3 98 yJ6_bitCount_0f7a4 wsJ6_bitCount_0f7a4) := goodIn_app (goodIn_of _ (by decide +kernel)) ggX3_lowestBit_J6_bitCount_0f7a4
theorem dX3_lowestBit_0 : decode cX3_lowestBit 0 = .ok (.iload_n 0, 1) := by decide +kernel
theorem dX3_lowestBit_1 : decode cX3_lowestBit 1 = .ok (.iconst (-1), 1) := by decide +kernel
theorem dX3_lowestBit_2 : decode cX3_lowestBit 2 = .ok (.ixor, 1) := by decide +kernel
theorem dX3_lowestBit_3 : decode cX3_lowestBit 3 = .ok (.iload_n 0, 1) := by decide +kernel
theorem dX3_lowestBit_4 : decode cX3_lowestBit 4 = .ok (.iconst 1, 1) := by decide +kernel
theorem dX3_lowestBit_5 : decode cX3_lowestBit 5 = .ok (.isub, 1) := by decide +kernel
theorem dX3_lowestBit_6 : decode cX3_lowestBit 6 = .ok (.iand, 1) := by decide +kernel
theorem dX3_lowestBit_7 : decode cX3_lowestBit 7 = .ok (.invokestatic 98, 3) := by decide +kernel
theorem dX3_lowestBit_10 : decode cX3_lowestBit 10 = .ok (.ireturn, 1) := by decide +kernel
theorem dX3_rangeBits_0 : decode cX3_rangeBits 0 = .ok (.iload_n 1, 1) := by decide +kernel
theorem dX3_rangeBits_1 : decode cX3_rangeBits 1 = .ok (.iload_n 0, 1) := by decide +kernel
theorem dX3_rangeBits_2 : decode cX3_rangeBits 2 = .ok (.bipush 32, 2) := by decide +kernel
theorem dX3_rangeBits_4 : decode cX3_rangeBits 4 = .ok (.imul, 1) := by decide +kernel
theorem dX3_rangeBits_5 : decode cX3_rangeBits 5 = .ok (.isub, 1) := by decide +kernel
theorem dX3_rangeBits_6 : decode cX3_rangeBits 6 = .ok (.iconst 0, 1) := by decide +kernel
theorem dX3_rangeBits_7 : decode cX3_rangeBits 7 = .ok (.invokestatic 175, 3) := by decide +kernel
theorem dX3_rangeBits_10 : decode cX3_rangeBits 10 = .ok (.istore_n 3, 1) := by decide +kernel
theorem dX3_rangeBits_11 : decode cX3_rangeBits 11 = .ok (.iload_n 2, 1) := by decide +kernel
theorem dX3_rangeBits_12 : decode cX3_rangeBits 12 = .ok (.iload_n 0, 1) := by decide +kernel
theorem dX3_rangeBits_13 : decode cX3_rangeBits 13 = .ok (.bipush 32, 2) := by decide +kernel
theorem dX3_rangeBits_15 : decode cX3_rangeBits 15 = .ok (.imul, 1) := by decide +kernel
theorem dX3_rangeBits_16 : decode cX3_rangeBits 16 = .ok (.isub, 1) := by decide +kernel
theorem dX3_rangeBits_17 : decode cX3_rangeBits 17 = .ok (.bipush 31, 2) := by decide +kernel
theorem dX3_rangeBits_19 : decode cX3_rangeBits 19 = .ok (.invokestatic 180, 3) := by decide +kernel
theorem dX3_rangeBits_22 : decode cX3_rangeBits 22 = .ok (.istore 4, 2) := by decide +kernel
theorem dX3_rangeBits_24 : decode cX3_rangeBits 24 = .ok (.iload_n 3, 1) := by decide +kernel
theorem dX3_rangeBits_25 : decode cX3_rangeBits 25 = .ok (.iload 4, 2) := by decide +kernel
theorem dX3_rangeBits_27 : decode cX3_rangeBits 27 = .ok (.if_icmp .le 7, 3) := by decide +kernel
theorem dX3_rangeBits_30 : decode cX3_rangeBits 30 = .ok (.iconst 0, 1) := by decide +kernel
theorem dX3_rangeBits_31 : decode cX3_rangeBits 31 = .ok (.goto 14, 3) := by decide +kernel
theorem dX3_rangeBits_34 : decode cX3_rangeBits 34 = .ok (.iconst (-1), 1) := by decide +kernel
theorem dX3_rangeBits_35 : decode cX3_rangeBits 35 = .ok (.iload_n 3, 1) := by decide +kernel
theorem dX3_rangeBits_36 : decode cX3_rangeBits 36 = .ok (.ishl, 1) := by decide +kernel
theorem dX3_rangeBits_37 : decode cX3_rangeBits 37 = .ok (.iconst (-1), 1) := by decide +kernel
theorem dX3_rangeBits_38 : decode cX3_rangeBits 38 = .ok (.bipush 31, 2) := by decide +kernel
theorem dX3_rangeBits_40 : decode cX3_rangeBits 40 = .ok (.iload 4, 2) := by decide +kernel
theorem dX3_rangeBits_42 : decode cX3_rangeBits 42 = .ok (.isub, 1) := by decide +kernel
theorem dX3_rangeBits_43 : decode cX3_rangeBits 43 = .ok (.iushr, 1) := by decide +kernel
theorem dX3_rangeBits_44 : decode cX3_rangeBits 44 = .ok (.iand, 1) := by decide +kernel
theorem dX3_rangeBits_45 : decode cX3_rangeBits 45 = .ok (.ireturn, 1) := by decide +kernel
theorem dX4_init_0 : decode cX4_init 0 = .ok (.aload_n 0, 1) := by decide +kernel
theorem dX4_init_1 : decode cX4_init 1 = .ok (.invokespecial 1, 3) := by decide +kernel
theorem dX4_init_4 : decode cX4_init 4 = .ok (.aload_n 0, 1) := by decide +kernel
theorem dX4_init_5 : decode cX4_init 5 = .ok (.sipush 667, 3) := by decide +kernel
theorem dX4_init_8 : decode cX4_init 8 = .ok (.newarray .int, 2) := by decide +kernel
theorem dX4_init_10 : decode cX4_init 10 = .ok (.putfield 7, 3) := by decide +kernel
theorem dX4_init_13 : decode cX4_init 13 = .ok (.aload_n 0, 1) := by decide +kernel
theorem dX4_init_14 : decode cX4_init 14 = .ok (.sipush 3335, 3) := by decide +kernel
theorem dX4_init_17 : decode cX4_init 17 = .ok (.newarray .int, 2) := by decide +kernel
theorem dX4_init_19 : decode cX4_init 19 = .ok (.putfield 13, 3) := by decide +kernel
theorem dX4_init_22 : decode cX4_init 22 = .ok (.aload_n 0, 1) := by decide +kernel
theorem dX4_init_23 : decode cX4_init 23 = .ok (.sipush 667, 3) := by decide +kernel
theorem dX4_init_26 : decode cX4_init 26 = .ok (.newarray .int, 2) := by decide +kernel
theorem dX4_init_28 : decode cX4_init 28 = .ok (.putfield 16, 3) := by decide +kernel
theorem dX4_init_31 : decode cX4_init 31 = .ok (.aload_n 0, 1) := by decide +kernel
theorem dX4_init_32 : decode cX4_init 32 = .ok (.sipush 667, 3) := by decide +kernel
theorem dX4_init_35 : decode cX4_init 35 = .ok (.newarray .int, 2) := by decide +kernel
theorem dX4_init_37 : decode cX4_init 37 = .ok (.putfield 19, 3) := by decide +kernel
theorem dX4_init_40 : decode cX4_init 40 = .ok (.aload_n 0, 1) := by decide +kernel
theorem dX4_init_41 : decode cX4_init 41 = .ok (.bipush 80, 2) := by decide +kernel
theorem dX4_init_43 : decode cX4_init 43 = .ok (.newarray .int, 2) := by decide +kernel
theorem dX4_init_45 : decode cX4_init 45 = .ok (.putfield 22, 3) := by decide +kernel
theorem dX4_init_48 : decode cX4_init 48 = .ok (.return_, 1) := by decide +kernel
theorem dX4_in_0 : decode cX4_in 0 = .ok (.iload_n 0, 1) := by decide +kernel
theorem dX4_in_1 : decode cX4_in 1 = .ok (.iload_n 1, 1) := by decide +kernel
theorem dX4_in_2 : decode cX4_in 2 = .ok (.if_icmp .lt 12, 3) := by decide +kernel
theorem dX4_in_5 : decode cX4_in 5 = .ok (.iload_n 0, 1) := by decide +kernel
theorem dX4_in_6 : decode cX4_in 6 = .ok (.iload_n 2, 1) := by decide +kernel
theorem dX4_in_7 : decode cX4_in 7 = .ok (.if_icmp .gt 7, 3) := by decide +kernel
theorem dX4_in_10 : decode cX4_in 10 = .ok (.iconst 1, 1) := by decide +kernel
theorem dX4_in_11 : decode cX4_in 11 = .ok (.goto 4, 3) := by decide +kernel
theorem dX4_in_14 : decode cX4_in 14 = .ok (.iconst 0, 1) := by decide +kernel
theorem dX4_in_15 : decode cX4_in 15 = .ok (.ireturn, 1) := by decide +kernel
theorem dX4_copies_0 : decode cX4_copies 0 = .ok (.iconst 0, 1) := by decide +kernel
theorem dX4_copies_1 : decode cX4_copies 1 = .ok (.istore 4, 2) := by decide +kernel
theorem dX4_copies_3 : decode cX4_copies 3 = .ok (.iload 4, 2) := by decide +kernel
theorem dX4_copies_5 : decode cX4_copies 5 = .ok (.sipush 667, 3) := by decide +kernel
theorem dX4_copies_8 : decode cX4_copies 8 = .ok (.if_icmp .ge 21, 3) := by decide +kernel
theorem dX4_copies_11 : decode cX4_copies 11 = .ok (.aload_n 2, 1) := by decide +kernel
theorem dX4_copies_12 : decode cX4_copies 12 = .ok (.iload_n 3, 1) := by decide +kernel
theorem dX4_copies_13 : decode cX4_copies 13 = .ok (.iload 4, 2) := by decide +kernel
theorem dX4_copies_15 : decode cX4_copies 15 = .ok (.iadd, 1) := by decide +kernel
theorem dX4_copies_16 : decode cX4_copies 16 = .ok (.aload_n 0, 1) := by decide +kernel
theorem dX4_copies_17 : decode cX4_copies 17 = .ok (.iload_n 1, 1) := by decide +kernel
theorem dX4_copies_18 : decode cX4_copies 18 = .ok (.iload 4, 2) := by decide +kernel
theorem dX4_copies_20 : decode cX4_copies 20 = .ok (.iadd, 1) := by decide +kernel
theorem dX4_copies_21 : decode cX4_copies 21 = .ok (.iaload, 1) := by decide +kernel
theorem dX4_copies_22 : decode cX4_copies 22 = .ok (.iastore, 1) := by decide +kernel
theorem dX4_copies_23 : decode cX4_copies 23 = .ok (.iinc 4 1, 3) := by decide +kernel
theorem dX4_copies_26 : decode cX4_copies 26 = .ok (.goto (-23), 3) := by decide +kernel
theorem dX4_copies_29 : decode cX4_copies 29 = .ok (.return_, 1) := by decide +kernel
set_option maxRecDepth 20000 in
theorem ggX4_notes_X4_copies : GoodIn wsX4_notes wsX4_copies := goodIn_r _ [6] (by decide +kernel) (by decide +kernel)
set_option maxRecDepth 20000 in
theorem gX4_notes_X4_copies : GoodIn wsX4_notes (va_wsS RX4 25 yX4_copies wsX4_copies) := goodIn_app (goodIn_of _ (by decide +kernel)) ggX4_notes_X4_copies
theorem dX4_notes_0 : decode cX4_notes 0 = .ok (.aload_n 0, 1) := by decide +kernel
theorem dX4_notes_1 : decode cX4_notes 1 = .ok (.getfield 7, 3) := by decide +kernel
theorem dX4_notes_4 : decode cX4_notes 4 = .ok (.iconst 0, 1) := by decide +kernel
theorem dX4_notes_5 : decode cX4_notes 5 = .ok (.aload_n 0, 1) := by decide +kernel
theorem dX4_notes_6 : decode cX4_notes 6 = .ok (.getfield 16, 3) := by decide +kernel
theorem dX4_notes_9 : decode cX4_notes 9 = .ok (.iconst 0, 1) := by decide +kernel
theorem dX4_notes_10 : decode cX4_notes 10 = .ok (.invokestatic 25, 3) := by decide +kernel
theorem dX4_notes_13 : decode cX4_notes 13 = .ok (.return_, 1) := by decide +kernel
set_option maxRecDepth 20000 in
theorem ggX4_ends_X4_copies : GoodIn wsX4_ends wsX4_copies := goodIn_r _ [8] (by decide +kernel) (by decide +kernel)
set_option maxRecDepth 20000 in
theorem gX4_ends_X4_copies : GoodIn wsX4_ends (va_wsS RX4 25 yX4_copies wsX4_copies) := goodIn_app (goodIn_of _ (by decide +kernel)) ggX4_ends_X4_copies
theorem dX4_ends_0 : decode cX4_ends 0 = .ok (.iload_n 1, 1) := by decide +kernel
theorem dX4_ends_1 : decode cX4_ends 1 = .ok (.ifCond .ge 18, 3) := by decide +kernel
theorem dX4_ends_4 : decode cX4_ends 4 = .ok (.aload_n 0, 1) := by decide +kernel
theorem dX4_ends_5 : decode cX4_ends 5 = .ok (.getfield 16, 3) := by decide +kernel
theorem dX4_ends_8 : decode cX4_ends 8 = .ok (.iconst 0, 1) := by decide +kernel
theorem dX4_ends_9 : decode cX4_ends 9 = .ok (.aload_n 0, 1) := by decide +kernel
theorem dX4_ends_10 : decode cX4_ends 10 = .ok (.getfield 7, 3) := by decide +kernel
theorem dX4_ends_13 : decode cX4_ends 13 = .ok (.iconst 0, 1) := by decide +kernel
theorem dX4_ends_14 : decode cX4_ends 14 = .ok (.invokestatic 25, 3) := by decide +kernel
theorem dX4_ends_17 : decode cX4_ends 17 = .ok (.iload_n 1, 1) := by decide +kernel
theorem dX4_ends_18 : decode cX4_ends 18 = .ok (.ireturn, 1) := by decide +kernel
theorem dX4_ends_19 : decode cX4_ends 19 = .ok (.aload_n 0, 1) := by decide +kernel
theorem dX4_ends_20 : decode cX4_ends 20 = .ok (.getfield 29, 3) := by decide +kernel
theorem dX4_ends_23 : decode cX4_ends 23 = .ok (.iconst 5, 1) := by decide +kernel
theorem dX4_ends_24 : decode cX4_ends 24 = .ok (.if_icmp .ne 39, 3) := by decide +kernel
theorem dX4_ends_27 : decode cX4_ends 27 = .ok (.iconst 0, 1) := by decide +kernel
theorem dX4_ends_28 : decode cX4_ends 28 = .ok (.istore_n 2, 1) := by decide +kernel
theorem dX4_ends_29 : decode cX4_ends 29 = .ok (.iload_n 2, 1) := by decide +kernel
theorem dX4_ends_30 : decode cX4_ends 30 = .ok (.sipush 2668, 3) := by decide +kernel
theorem dX4_ends_33 : decode cX4_ends 33 = .ok (.if_icmp .ge 25, 3) := by decide +kernel
theorem dX4_ends_36 : decode cX4_ends 36 = .ok (.aload_n 0, 1) := by decide +kernel
theorem dX4_ends_37 : decode cX4_ends 37 = .ok (.getfield 13, 3) := by decide +kernel
theorem dX4_ends_40 : decode cX4_ends 40 = .ok (.iload_n 2, 1) := by decide +kernel
theorem dX4_ends_41 : decode cX4_ends 41 = .ok (.aload_n 0, 1) := by decide +kernel
theorem dX4_ends_42 : decode cX4_ends 42 = .ok (.getfield 13, 3) := by decide +kernel
theorem dX4_ends_45 : decode cX4_ends 45 = .ok (.iload_n 2, 1) := by decide +kernel
theorem dX4_ends_46 : decode cX4_ends 46 = .ok (.sipush 667, 3) := by decide +kernel
theorem dX4_ends_49 : decode cX4_ends 49 = .ok (.iadd, 1) := by decide +kernel
theorem dX4_ends_50 : decode cX4_ends 50 = .ok (.iaload, 1) := by decide +kernel
theorem dX4_ends_51 : decode cX4_ends 51 = .ok (.iastore, 1) := by decide +kernel
theorem dX4_ends_52 : decode cX4_ends 52 = .ok (.iinc 2 1, 3) := by decide +kernel
theorem dX4_ends_55 : decode cX4_ends 55 = .ok (.goto (-26), 3) := by decide +kernel
theorem dX4_ends_58 : decode cX4_ends 58 = .ok (.aload_n 0, 1) := by decide +kernel
theorem dX4_ends_59 : decode cX4_ends 59 = .ok (.iconst 4, 1) := by decide +kernel
theorem dX4_ends_60 : decode cX4_ends 60 = .ok (.putfield 29, 3) := by decide +kernel
theorem dX4_ends_63 : decode cX4_ends 63 = .ok (.aload_n 0, 1) := by decide +kernel
theorem dX4_ends_64 : decode cX4_ends 64 = .ok (.getfield 16, 3) := by decide +kernel
theorem dX4_ends_67 : decode cX4_ends 67 = .ok (.iconst 0, 1) := by decide +kernel
theorem dX4_ends_68 : decode cX4_ends 68 = .ok (.aload_n 0, 1) := by decide +kernel
theorem dX4_ends_69 : decode cX4_ends 69 = .ok (.getfield 13, 3) := by decide +kernel
theorem dX4_ends_72 : decode cX4_ends 72 = .ok (.aload_n 0, 1) := by decide +kernel
theorem dX4_ends_73 : decode cX4_ends 73 = .ok (.getfield 29, 3) := by decide +kernel
theorem dX4_ends_76 : decode cX4_ends 76 = .ok (.sipush 667, 3) := by decide +kernel
theorem dX4_ends_79 : decode cX4_ends 79 = .ok (.imul, 1) := by decide +kernel
theorem dX4_ends_80 : decode cX4_ends 80 = .ok (.invokestatic 25, 3) := by decide +kernel
theorem dX4_ends_83 : decode cX4_ends 83 = .ok (.aload_n 0, 1) := by decide +kernel
theorem dX4_ends_84 : decode cX4_ends 84 = .ok (.dup, 1) := by decide +kernel
theorem dX4_ends_85 : decode cX4_ends 85 = .ok (.getfield 29, 3) := by decide +kernel
theorem dX4_ends_88 : decode cX4_ends 88 = .ok (.iconst 1, 1) := by decide +kernel
theorem dX4_ends_89 : decode cX4_ends 89 = .ok (.iadd, 1) := by decide +kernel
theorem dX4_ends_90 : decode cX4_ends 90 = .ok (.putfield 29, 3) := by decide +kernel
theorem dX4_ends_93 : decode cX4_ends 93 = .ok (.iload_n 1, 1) := by decide +kernel
theorem dX4_ends_94 : decode cX4_ends 94 = .ok (.ireturn, 1) := by decide +kernel
theorem dX4_inWord_0 : decode cX4_inWord 0 = .ok (.iconst 0, 1) := by decide +kernel
theorem dX4_inWord_1 : decode cX4_inWord 1 = .ok (.istore_n 3, 1) := by decide +kernel
theorem dX4_inWord_2 : decode cX4_inWord 2 = .ok (.bipush 32, 2) := by decide +kernel
theorem dX4_inWord_4 : decode cX4_inWord 4 = .ok (.iload_n 1, 1) := by decide +kernel
theorem dX4_inWord_5 : decode cX4_inWord 5 = .ok (.imul, 1) := by decide +kernel
theorem dX4_inWord_6 : decode cX4_inWord 6 = .ok (.istore 4, 2) := by decide +kernel
theorem dX4_inWord_8 : decode cX4_inWord 8 = .ok (.iload 4, 2) := by decide +kernel
theorem dX4_inWord_10 : decode cX4_inWord 10 = .ok (.bipush 32, 2) := by decide +kernel
theorem dX4_inWord_12 : decode cX4_inWord 12 = .ok (.iload_n 1, 1) := by decide +kernel
theorem dX4_inWord_13 : decode cX4_inWord 13 = .ok (.imul, 1) := by decide +kernel
theorem dX4_inWord_14 : decode cX4_inWord 14 = .ok (.bipush 32, 2) := by decide +kernel
theorem dX4_inWord_16 : decode cX4_inWord 16 = .ok (.iadd, 1) := by decide +kernel
theorem dX4_inWord_17 : decode cX4_inWord 17 = .ok (.if_icmp .ge 28, 3) := by decide +kernel
theorem dX4_inWord_20 : decode cX4_inWord 20 = .ok (.iload_n 3, 1) := by decide +kernel
theorem dX4_inWord_21 : decode cX4_inWord 21 = .ok (.aload_n 0, 1) := by decide +kernel
theorem dX4_inWord_22 : decode cX4_inWord 22 = .ok (.getfield 7, 3) := by decide +kernel
theorem dX4_inWord_25 : decode cX4_inWord 25 = .ok (.iload 4, 2) := by decide +kernel
theorem dX4_inWord_27 : decode cX4_inWord 27 = .ok (.iaload, 1) := by decide +kernel
theorem dX4_inWord_28 : decode cX4_inWord 28 = .ok (.iload_n 2, 1) := by decide +kernel
theorem dX4_inWord_29 : decode cX4_inWord 29 = .ok (.if_icmp .ne 7, 3) := by decide +kernel
theorem dX4_inWord_32 : decode cX4_inWord 32 = .ok (.iconst 1, 1) := by decide +kernel
theorem dX4_inWord_33 : decode cX4_inWord 33 = .ok (.goto 4, 3) := by decide +kernel
theorem dX4_inWord_36 : decode cX4_inWord 36 = .ok (.iconst 0, 1) := by decide +kernel
theorem dX4_inWord_37 : decode cX4_inWord 37 = .ok (.iadd, 1) := by decide +kernel
theorem dX4_inWord_38 : decode cX4_inWord 38 = .ok (.istore_n 3, 1) := by decide +kernel
theorem dX4_inWord_39 : decode cX4_inWord 39 = .ok (.iinc 4 1, 3) := by decide +kernel
theorem dX4_inWord_42 : decode cX4_inWord 42 = .ok (.goto (-34), 3) := by decide +kernel
theorem dX4_inWord_45 : decode cX4_inWord 45 = .ok (.iload_n 3, 1) := by decide +kernel
theorem dX4_inWord_46 : decode cX4_inWord 46 = .ok (.ireturn, 1) := by decide +kernel
set_option maxRecDepth 20000 in
theorem ggX4_inAll_X4_inWord : GoodIn wsX4_inAll wsX4_inWord := goodIn_r _ [5, 6, 7, 8, 9, 10, 11, 12, 13, 14] (by decide +kernel) (by decide +kernel)
set_option maxRecDepth 20000 in
theorem gX4_inAll_X4_inWord : GoodIn wsX4_inAll (wsV RX4 33 RX4 yX4_inWord wsX4_inWord) := goodIn_app (goodIn_of _ (by decide +kernel)) ggX4_inAll_X4_inWord
theorem dX4_inAll_0 : decode cX4_inAll 0 = .ok (.iconst 0, 1) := by decide +kernel
theorem dX4_inAll_1 : decode cX4_inAll 1 = .ok (.istore_n 2, 1) := by decide +kernel
theorem dX4_inAll_2 : decode cX4_inAll 2 = .ok (.iconst 0, 1) := by decide +kernel
theorem dX4_inAll_3 : decode cX4_inAll 3 = .ok (.istore_n 3, 1) := by decide +kernel
theorem dX4_inAll_4 : decode cX4_inAll 4 = .ok (.iload_n 3, 1) := by decide +kernel
theorem dX4_inAll_5 : decode cX4_inAll 5 = .ok (.bipush 10, 2) := by decide +kernel
theorem dX4_inAll_7 : decode cX4_inAll 7 = .ok (.if_icmp .ge 18, 3) := by decide +kernel
theorem dX4_inAll_10 : decode cX4_inAll 10 = .ok (.iload_n 2, 1) := by decide +kernel
theorem dX4_inAll_11 : decode cX4_inAll 11 = .ok (.aload_n 0, 1) := by decide +kernel
theorem dX4_inAll_12 : decode cX4_inAll 12 = .ok (.iload_n 3, 1) := by decide +kernel
theorem dX4_inAll_13 : decode cX4_inAll 13 = .ok (.iload_n 1, 1) := by decide +kernel
theorem dX4_inAll_14 : decode cX4_inAll 14 = .ok (.invokevirtual 33, 3) := by decide +kernel
theorem dX4_inAll_17 : decode cX4_inAll 17 = .ok (.iadd, 1) := by decide +kernel
theorem dX4_inAll_18 : decode cX4_inAll 18 = .ok (.istore_n 2, 1) := by decide +kernel
theorem dX4_inAll_19 : decode cX4_inAll 19 = .ok (.iinc 3 1, 3) := by decide +kernel
theorem dX4_inAll_22 : decode cX4_inAll 22 = .ok (.goto (-18), 3) := by decide +kernel
theorem dX4_inAll_25 : decode cX4_inAll 25 = .ok (.iload_n 2, 1) := by decide +kernel
theorem dX4_inAll_26 : decode cX4_inAll 26 = .ok (.ireturn, 1) := by decide +kernel
set_option maxRecDepth 20000 in
theorem ggX4_right_X4_inWord : GoodIn wsX4_right wsX4_inWord := goodIn_r _ [5, 6, 7, 8, 9, 10, 11, 12, 13, 14] (by decide +kernel) (by decide +kernel)
set_option maxRecDepth 20000 in
theorem gX4_right_X4_inWord : GoodIn wsX4_right (wsV RX4 33 RX4 yX4_inWord wsX4_inWord) := goodIn_app (goodIn_of _ (by decide +kernel)) ggX4_right_X4_inWord
theorem dX4_right_0 : decode cX4_right 0 = .ok (.aload_n 0, 1) := by decide +kernel
theorem dX4_right_1 : decode cX4_right 1 = .ok (.iload_n 1, 1) := by decide +kernel
theorem dX4_right_2 : decode cX4_right 2 = .ok (.iconst 0, 1) := by decide +kernel
theorem dX4_right_3 : decode cX4_right 3 = .ok (.invokevirtual 33, 3) := by decide +kernel
theorem dX4_right_6 : decode cX4_right 6 = .ok (.ifCond .ne 7, 3) := by decide +kernel
theorem dX4_right_9 : decode cX4_right 9 = .ok (.iconst 1, 1) := by decide +kernel
theorem dX4_right_10 : decode cX4_right 10 = .ok (.goto 4, 3) := by decide +kernel
theorem dX4_right_13 : decode cX4_right 13 = .ok (.iconst 0, 1) := by decide +kernel
theorem dX4_right_14 : decode cX4_right 14 = .ok (.ireturn, 1) := by decide +kernel
set_option maxRecDepth 20000 in
theorem ggX4_becomes_X4_right : GoodIn wsX4_becomes wsX4_right := goodIn_r _ [6, 7, 8, 9, 5, 10, 1, 11, 12, 13, 14, 15, 16, 17, 18] (by decide +kernel) (by decide +kernel)
set_option maxRecDepth 20000 in
theorem gX4_becomes_X4_right : GoodIn wsX4_becomes (wsV RX4 37 RX4 yX4_right wsX4_right) := goodIn_app (goodIn_of _ (by decide +kernel)) ggX4_becomes_X4_right
theorem dX4_becomes_0 : decode cX4_becomes 0 = .ok (.aload_n 0, 1) := by decide +kernel
theorem dX4_becomes_1 : decode cX4_becomes 1 = .ok (.getfield 7, 3) := by decide +kernel
theorem dX4_becomes_4 : decode cX4_becomes 4 = .ok (.iload_n 1, 1) := by decide +kernel
theorem dX4_becomes_5 : decode cX4_becomes 5 = .ok (.iload_n 2, 1) := by decide +kernel
theorem dX4_becomes_6 : decode cX4_becomes 6 = .ok (.iastore, 1) := by decide +kernel
theorem dX4_becomes_7 : decode cX4_becomes 7 = .ok (.aload_n 0, 1) := by decide +kernel
theorem dX4_becomes_8 : decode cX4_becomes 8 = .ok (.getfield 7, 3) := by decide +kernel
theorem dX4_becomes_11 : decode cX4_becomes 11 = .ok (.sipush 640, 3) := by decide +kernel
theorem dX4_becomes_14 : decode cX4_becomes 14 = .ok (.iload_n 1, 1) := by decide +kernel
theorem dX4_becomes_15 : decode cX4_becomes 15 = .ok (.bipush 32, 2) := by decide +kernel
theorem dX4_becomes_17 : decode cX4_becomes 17 = .ok (.idiv, 1) := by decide +kernel
theorem dX4_becomes_18 : decode cX4_becomes 18 = .ok (.iadd, 1) := by decide +kernel
theorem dX4_becomes_19 : decode cX4_becomes 19 = .ok (.aload_n 0, 1) := by decide +kernel
theorem dX4_becomes_20 : decode cX4_becomes 20 = .ok (.iload_n 1, 1) := by decide +kernel
theorem dX4_becomes_21 : decode cX4_becomes 21 = .ok (.bipush 32, 2) := by decide +kernel
theorem dX4_becomes_23 : decode cX4_becomes 23 = .ok (.idiv, 1) := by decide +kernel
theorem dX4_becomes_24 : decode cX4_becomes 24 = .ok (.invokevirtual 37, 3) := by decide +kernel
theorem dX4_becomes_27 : decode cX4_becomes 27 = .ok (.iastore, 1) := by decide +kernel
theorem dX4_becomes_28 : decode cX4_becomes 28 = .ok (.return_, 1) := by decide +kernel
theorem dX4_firstIn_0 : decode cX4_firstIn 0 = .ok (.bipush 32, 2) := by decide +kernel
theorem dX4_firstIn_2 : decode cX4_firstIn 2 = .ok (.iload_n 1, 1) := by decide +kernel
theorem dX4_firstIn_3 : decode cX4_firstIn 3 = .ok (.imul, 1) := by decide +kernel
theorem dX4_firstIn_4 : decode cX4_firstIn 4 = .ok (.istore_n 2, 1) := by decide +kernel
theorem dX4_firstIn_5 : decode cX4_firstIn 5 = .ok (.iload_n 2, 1) := by decide +kernel
theorem dX4_firstIn_6 : decode cX4_firstIn 6 = .ok (.bipush 32, 2) := by decide +kernel
theorem dX4_firstIn_8 : decode cX4_firstIn 8 = .ok (.iload_n 1, 1) := by decide +kernel
theorem dX4_firstIn_9 : decode cX4_firstIn 9 = .ok (.imul, 1) := by decide +kernel
theorem dX4_firstIn_10 : decode cX4_firstIn 10 = .ok (.bipush 32, 2) := by decide +kernel
theorem dX4_firstIn_12 : decode cX4_firstIn 12 = .ok (.iadd, 1) := by decide +kernel
theorem dX4_firstIn_13 : decode cX4_firstIn 13 = .ok (.if_icmp .ge 20, 3) := by decide +kernel
theorem dX4_firstIn_16 : decode cX4_firstIn 16 = .ok (.aload_n 0, 1) := by decide +kernel
theorem dX4_firstIn_17 : decode cX4_firstIn 17 = .ok (.getfield 7, 3) := by decide +kernel
theorem dX4_firstIn_20 : decode cX4_firstIn 20 = .ok (.iload_n 2, 1) := by decide +kernel
theorem dX4_firstIn_21 : decode cX4_firstIn 21 = .ok (.iaload, 1) := by decide +kernel
theorem dX4_firstIn_22 : decode cX4_firstIn 22 = .ok (.ifCond .ne 5, 3) := by decide +kernel
theorem dX4_firstIn_25 : decode cX4_firstIn 25 = .ok (.iload_n 2, 1) := by decide +kernel
theorem dX4_firstIn_26 : decode cX4_firstIn 26 = .ok (.ireturn, 1) := by decide +kernel
theorem dX4_firstIn_27 : decode cX4_firstIn 27 = .ok (.iinc 2 1, 3) := by decide +kernel
theorem dX4_firstIn_30 : decode cX4_firstIn 30 = .ok (.goto (-25), 3) := by decide +kernel
theorem dX4_firstIn_33 : decode cX4_firstIn 33 = .ok (.bipush (-9), 2) := by decide +kernel
theorem dX4_firstIn_35 : decode cX4_firstIn 35 = .ok (.ireturn, 1) := by decide +kernel
set_option maxRecDepth 20000 in
theorem ggX4_goesThrough_X4_firstIn : GoodIn wsX4_goesThrough wsX4_firstIn := goodIn_r _ [6, 1, 19, 20, 21, 22, 23, 24, 25, 26] (by decide +kernel) (by decide +kernel)
set_option maxRecDepth 20000 in
theorem gX4_goesThrough_X4_firstIn : GoodIn wsX4_goesThrough (wsV RX4 41 RX4 yX4_firstIn wsX4_firstIn) := goodIn_app (goodIn_of _ (by decide +kernel)) ggX4_goesThrough_X4_firstIn
set_option maxRecDepth 20000 in
theorem ggX4_goesThrough_X4_becomes : GoodIn wsX4_goesThrough wsX4_becomes := goodIn_r _ [10, 1, 11, 12, 13, 5, 14, 15, 16, 17, 18, 19, 20, 21, 22, 23, 24, 25, 26] (by decide +kernel) (by decide +kernel)
set_option maxRecDepth 20000 in
theorem gX4_goesThrough_X4_becomes : GoodIn wsX4_goesThrough (wsV RX4 44 RX4 yX4_becomes wsX4_becomes) := goodIn_app (goodIn_of _ (by decide +kernel)) ggX4_goesThrough_X4_becomes
theorem dX4_goesThrough_0 : decode cX4_goesThrough 0 = .ok (.iconst 0, 1) := by decide +kernel
theorem dX4_goesThrough_1 : decode cX4_goesThrough 1 = .ok (.istore_n 1, 1) := by decide +kernel
theorem dX4_goesThrough_2 : decode cX4_goesThrough 2 = .ok (.iload_n 1, 1) := by decide +kernel
theorem dX4_goesThrough_3 : decode cX4_goesThrough 3 = .ok (.bipush 10, 2) := by decide +kernel
theorem dX4_goesThrough_5 : decode cX4_goesThrough 5 = .ok (.if_icmp .ge 65, 3) := by decide +kernel
theorem dX4_goesThrough_8 : decode cX4_goesThrough 8 = .ok (.aload_n 0, 1) := by decide +kernel
theorem dX4_goesThrough_9 : decode cX4_goesThrough 9 = .ok (.getfield 7, 3) := by decide +kernel
theorem dX4_goesThrough_12 : decode cX4_goesThrough 12 = .ok (.sipush 640, 3) := by decide +kernel
theorem dX4_goesThrough_15 : decode cX4_goesThrough 15 = .ok (.iload_n 1, 1) := by decide +kernel
theorem dX4_goesThrough_16 : decode cX4_goesThrough 16 = .ok (.iadd, 1) := by decide +kernel
theorem dX4_goesThrough_17 : decode cX4_goesThrough 17 = .ok (.iaload, 1) := by decide +kernel
theorem dX4_goesThrough_18 : decode cX4_goesThrough 18 = .ok (.ifCond .ne 46, 3) := by decide +kernel
theorem dX4_goesThrough_21 : decode cX4_goesThrough 21 = .ok (.aload_n 0, 1) := by decide +kernel
theorem dX4_goesThrough_22 : decode cX4_goesThrough 22 = .ok (.getfield 7, 3) := by decide +kernel
theorem dX4_goesThrough_25 : decode cX4_goesThrough 25 = .ok (.sipush 666, 3) := by decide +kernel
theorem dX4_goesThrough_28 : decode cX4_goesThrough 28 = .ok (.dup2, 1) := by decide +kernel
theorem dX4_goesThrough_29 : decode cX4_goesThrough 29 = .ok (.iaload, 1) := by decide +kernel
theorem dX4_goesThrough_30 : decode cX4_goesThrough 30 = .ok (.iconst 1, 1) := by decide +kernel
theorem dX4_goesThrough_31 : decode cX4_goesThrough 31 = .ok (.iadd, 1) := by decide +kernel
theorem dX4_goesThrough_32 : decode cX4_goesThrough 32 = .ok (.iastore, 1) := by decide +kernel
theorem dX4_goesThrough_33 : decode cX4_goesThrough 33 = .ok (.aload_n 0, 1) := by decide +kernel
theorem dX4_goesThrough_34 : decode cX4_goesThrough 34 = .ok (.iload_n 1, 1) := by decide +kernel
theorem dX4_goesThrough_35 : decode cX4_goesThrough 35 = .ok (.invokevirtual 41, 3) := by decide +kernel
theorem dX4_goesThrough_38 : decode cX4_goesThrough 38 = .ok (.istore_n 2, 1) := by decide +kernel
theorem dX4_goesThrough_39 : decode cX4_goesThrough 39 = .ok (.iload_n 2, 1) := by decide +kernel
theorem dX4_goesThrough_40 : decode cX4_goesThrough 40 = .ok (.bipush (-9), 2) := by decide +kernel
theorem dX4_goesThrough_42 : decode cX4_goesThrough 42 = .ok (.if_icmp .eq 11, 3) := by decide +kernel
theorem dX4_goesThrough_45 : decode cX4_goesThrough 45 = .ok (.aload_n 0, 1) := by decide +kernel
theorem dX4_goesThrough_46 : decode cX4_goesThrough 46 = .ok (.iload_n 2, 1) := by decide +kernel
theorem dX4_goesThrough_47 : decode cX4_goesThrough 47 = .ok (.iconst 1, 1) := by decide +kernel
theorem dX4_goesThrough_48 : decode cX4_goesThrough 48 = .ok (.invokevirtual 44, 3) := by decide +kernel
theorem dX4_goesThrough_51 : decode cX4_goesThrough 51 = .ok (.iload_n 2, 1) := by decide +kernel
theorem dX4_goesThrough_52 : decode cX4_goesThrough 52 = .ok (.ireturn, 1) := by decide +kernel
theorem dX4_goesThrough_53 : decode cX4_goesThrough 53 = .ok (.aload_n 0, 1) := by decide +kernel
theorem dX4_goesThrough_54 : decode cX4_goesThrough 54 = .ok (.getfield 7, 3) := by decide +kernel
theorem dX4_goesThrough_57 : decode cX4_goesThrough 57 = .ok (.sipush 640, 3) := by decide +kernel
theorem dX4_goesThrough_60 : decode cX4_goesThrough 60 = .ok (.iload_n 1, 1) := by decide +kernel
theorem dX4_goesThrough_61 : decode cX4_goesThrough 61 = .ok (.iadd, 1) := by decide +kernel
theorem dX4_goesThrough_62 : decode cX4_goesThrough 62 = .ok (.iconst 1, 1) := by decide +kernel
theorem dX4_goesThrough_63 : decode cX4_goesThrough 63 = .ok (.iastore, 1) := by decide +kernel
theorem dX4_goesThrough_64 : decode cX4_goesThrough 64 = .ok (.iinc 1 1, 3) := by decide +kernel
theorem dX4_goesThrough_67 : decode cX4_goesThrough 67 = .ok (.goto (-65), 3) := by decide +kernel
theorem dX4_goesThrough_70 : decode cX4_goesThrough 70 = .ok (.bipush (-9), 2) := by decide +kernel
theorem dX4_goesThrough_72 : decode cX4_goesThrough 72 = .ok (.ireturn, 1) := by decide +kernel
set_option maxRecDepth 20000 in
theorem ggX4_clears_X4_inWord : GoodIn wsX4_clears wsX4_inWord := goodIn_r _ [6, 1, 15, 16, 17, 18, 19, 20, 21, 22] (by decide +kernel) (by decide +kernel)
set_option maxRecDepth 20000 in
theorem gX4_clears_X4_inWord : GoodIn wsX4_clears (wsV RX4 33 RX4 yX4_inWord wsX4_inWord) := goodIn_app (goodIn_of _ (by decide +kernel)) ggX4_clears_X4_inWord
set_option maxRecDepth 20000 in
theorem ggX4_clears_X4_becomes : GoodIn wsX4_clears wsX4_becomes := goodIn_r _ [10, 1, 11, 12, 13, 5, 14, 2, 3, 4, 6, 15, 16, 17, 18, 19, 20, 21, 22] (by decide +kernel) (by decide +kernel)
set_option maxRecDepth 20000 in
theorem gX4_clears_X4_becomes : GoodIn wsX4_clears (wsV RX4 44 RX4 yX4_becomes wsX4_becomes) := goodIn_app (goodIn_of _ (by decide +kernel)) ggX4_clears_X4_becomes
theorem dX4_clears_0 : decode cX4_clears 0 = .ok (.iconst 0, 1) := by decide +kernel
theorem dX4_clears_1 : decode cX4_clears 1 = .ok (.istore_n 2, 1) := by decide +kernel
theorem dX4_clears_2 : decode cX4_clears 2 = .ok (.iload_n 1, 1) := by decide +kernel
theorem dX4_clears_3 : decode cX4_clears 3 = .ok (.istore_n 3, 1) := by decide +kernel
theorem dX4_clears_4 : decode cX4_clears 4 = .ok (.iconst 0, 1) := by decide +kernel
theorem dX4_clears_5 : decode cX4_clears 5 = .ok (.istore 4, 2) := by decide +kernel
theorem dX4_clears_7 : decode cX4_clears 7 = .ok (.iload 4, 2) := by decide +kernel
theorem dX4_clears_9 : decode cX4_clears 9 = .ok (.bipush 10, 2) := by decide +kernel
theorem dX4_clears_11 : decode cX4_clears 11 = .ok (.if_icmp .ge 78, 3) := by decide +kernel
theorem dX4_clears_14 : decode cX4_clears 14 = .ok (.iload_n 3, 1) := by decide +kernel
theorem dX4_clears_15 : decode cX4_clears 15 = .ok (.ifCond .le 74, 3) := by decide +kernel
theorem dX4_clears_18 : decode cX4_clears 18 = .ok (.iload_n 3, 1) := by decide +kernel
theorem dX4_clears_19 : decode cX4_clears 19 = .ok (.aload_n 0, 1) := by decide +kernel
theorem dX4_clears_20 : decode cX4_clears 20 = .ok (.iload 4, 2) := by decide +kernel
theorem dX4_clears_22 : decode cX4_clears 22 = .ok (.iconst 2, 1) := by decide +kernel
theorem dX4_clears_23 : decode cX4_clears 23 = .ok (.invokevirtual 33, 3) := by decide +kernel
theorem dX4_clears_26 : decode cX4_clears 26 = .ok (.ifCond .le 7, 3) := by decide +kernel
theorem dX4_clears_29 : decode cX4_clears 29 = .ok (.iconst 1, 1) := by decide +kernel
theorem dX4_clears_30 : decode cX4_clears 30 = .ok (.goto 4, 3) := by decide +kernel
theorem dX4_clears_33 : decode cX4_clears 33 = .ok (.iconst 0, 1) := by decide +kernel
theorem dX4_clears_34 : decode cX4_clears 34 = .ok (.isub, 1) := by decide +kernel
theorem dX4_clears_35 : decode cX4_clears 35 = .ok (.istore_n 3, 1) := by decide +kernel
theorem dX4_clears_36 : decode cX4_clears 36 = .ok (.bipush 32, 2) := by decide +kernel
theorem dX4_clears_38 : decode cX4_clears 38 = .ok (.iload 4, 2) := by decide +kernel
theorem dX4_clears_40 : decode cX4_clears 40 = .ok (.imul, 1) := by decide +kernel
theorem dX4_clears_41 : decode cX4_clears 41 = .ok (.istore 5, 2) := by decide +kernel
theorem dX4_clears_43 : decode cX4_clears 43 = .ok (.iload 5, 2) := by decide +kernel
theorem dX4_clears_45 : decode cX4_clears 45 = .ok (.bipush 32, 2) := by decide +kernel
theorem dX4_clears_47 : decode cX4_clears 47 = .ok (.iload 4, 2) := by decide +kernel
theorem dX4_clears_49 : decode cX4_clears 49 = .ok (.imul, 1) := by decide +kernel
theorem dX4_clears_50 : decode cX4_clears 50 = .ok (.bipush 32, 2) := by decide +kernel
theorem dX4_clears_52 : decode cX4_clears 52 = .ok (.iadd, 1) := by decide +kernel
theorem dX4_clears_53 : decode cX4_clears 53 = .ok (.if_icmp .ge 30, 3) := by decide +kernel
theorem dX4_clears_56 : decode cX4_clears 56 = .ok (.aload_n 0, 1) := by decide +kernel
theorem dX4_clears_57 : decode cX4_clears 57 = .ok (.getfield 7, 3) := by decide +kernel
theorem dX4_clears_60 : decode cX4_clears 60 = .ok (.iload 5, 2) := by decide +kernel
theorem dX4_clears_62 : decode cX4_clears 62 = .ok (.iaload, 1) := by decide +kernel
theorem dX4_clears_63 : decode cX4_clears 63 = .ok (.iconst 2, 1) := by decide +kernel
theorem dX4_clears_64 : decode cX4_clears 64 = .ok (.if_icmp .ne 13, 3) := by decide +kernel
theorem dX4_clears_67 : decode cX4_clears 67 = .ok (.aload_n 0, 1) := by decide +kernel
theorem dX4_clears_68 : decode cX4_clears 68 = .ok (.iload 5, 2) := by decide +kernel
theorem dX4_clears_70 : decode cX4_clears 70 = .ok (.iconst 0, 1) := by decide +kernel
theorem dX4_clears_71 : decode cX4_clears 71 = .ok (.invokevirtual 44, 3) := by decide +kernel
theorem dX4_clears_74 : decode cX4_clears 74 = .ok (.iinc 2 1, 3) := by decide +kernel
theorem dX4_clears_77 : decode cX4_clears 77 = .ok (.iinc 5 1, 3) := by decide +kernel
theorem dX4_clears_80 : decode cX4_clears 80 = .ok (.goto (-37), 3) := by decide +kernel
theorem dX4_clears_83 : decode cX4_clears 83 = .ok (.iinc 4 1, 3) := by decide +kernel
theorem dX4_clears_86 : decode cX4_clears 86 = .ok (.goto (-79), 3) := by decide +kernel
theorem dX4_clears_89 : decode cX4_clears 89 = .ok (.iload_n 2, 1) := by decide +kernel
theorem dX4_clears_90 : decode cX4_clears 90 = .ok (.ireturn, 1) := by decide +kernel
set_option maxRecDepth 20000 in
theorem ggX4_takes1_X4_goesThrough : GoodIn wsX4_takes1 wsX4_goesThrough := goodIn_r _ [5, 6, 7, 8, 9, 4, 10, 11, 12, 13, 14, 15, 16, 17, 18, 19, 20, 21, 22, 27, 28, 29, 30, 31, 32, 33, 34] (by decide +kernel) (by decide +kernel)
set_option maxRecDepth 20000 in
theorem gX4_takes1_X4_goesThrough : GoodIn wsX4_takes1 (wsV RX4 48 RX4 yX4_goesThrough wsX4_goesThrough) := goodIn_app (goodIn_of _ (by decide +kernel)) ggX4_takes1_X4_goesThrough
set_option maxRecDepth 20000 in
theorem ggX4_takes1_X4_clears : GoodIn wsX4_takes1 wsX4_clears := goodIn_r _ [26, 6, 19, 20, 21, 4, 22, 11, 12, 13, 14, 15, 16, 17, 18, 27, 28, 29, 30, 31, 32, 33, 34] (by decide +kernel) (by decide +kernel)
set_option maxRecDepth 20000 in
theorem gX4_takes1_X4_clears : GoodIn wsX4_takes1 (wsV RX4 52 RX4 yX4_clears wsX4_clears) := goodIn_app (goodIn_of _ (by decide +kernel)) ggX4_takes1_X4_clears
theorem dX4_takes1_0 : decode cX4_takes1 0 = .ok (.aload_n 0, 1) := by decide +kernel
theorem dX4_takes1_1 : decode cX4_takes1 1 = .ok (.invokevirtual 48, 3) := by decide +kernel
theorem dX4_takes1_4 : decode cX4_takes1 4 = .ok (.istore_n 1, 1) := by decide +kernel
theorem dX4_takes1_5 : decode cX4_takes1 5 = .ok (.iload_n 1, 1) := by decide +kernel
theorem dX4_takes1_6 : decode cX4_takes1 6 = .ok (.bipush (-9), 2) := by decide +kernel
theorem dX4_takes1_8 : decode cX4_takes1 8 = .ok (.if_icmp .ne 17, 3) := by decide +kernel
theorem dX4_takes1_11 : decode cX4_takes1 11 = .ok (.aload_n 0, 1) := by decide +kernel
theorem dX4_takes1_12 : decode cX4_takes1 12 = .ok (.bipush 10, 2) := by decide +kernel
theorem dX4_takes1_14 : decode cX4_takes1 14 = .ok (.invokevirtual 52, 3) := by decide +kernel
theorem dX4_takes1_17 : decode cX4_takes1 17 = .ok (.ifCond .le 8, 3) := by decide +kernel
theorem dX4_takes1_20 : decode cX4_takes1 20 = .ok (.aload_n 0, 1) := by decide +kernel
theorem dX4_takes1_21 : decode cX4_takes1 21 = .ok (.invokevirtual 48, 3) := by decide +kernel
theorem dX4_takes1_24 : decode cX4_takes1 24 = .ok (.istore_n 1, 1) := by decide +kernel
theorem dX4_takes1_25 : decode cX4_takes1 25 = .ok (.iload_n 1, 1) := by decide +kernel
theorem dX4_takes1_26 : decode cX4_takes1 26 = .ok (.bipush (-9), 2) := by decide +kernel
theorem dX4_takes1_28 : decode cX4_takes1 28 = .ok (.if_icmp .ne 8, 3) := by decide +kernel
theorem dX4_takes1_31 : decode cX4_takes1 31 = .ok (.bipush (-3), 2) := by decide +kernel
theorem dX4_takes1_33 : decode cX4_takes1 33 = .ok (.goto 4, 3) := by decide +kernel
theorem dX4_takes1_36 : decode cX4_takes1 36 = .ok (.iload_n 1, 1) := by decide +kernel
theorem dX4_takes1_37 : decode cX4_takes1 37 = .ok (.ireturn, 1) := by decide +kernel
set_option maxRecDepth 20000 in
theorem ggX4_take_X4_notes : GoodIn wsX4_take wsX4_notes := goodIn_r _ [5, 6, 7, 8, 9, 4, 10, 45, 46, 47, 48, 49, 50, 51, 52] (by decide +kernel) (by decide +kernel)
set_option maxRecDepth 20000 in
theorem gX4_take_X4_notes : GoodIn wsX4_take (wsV RX4 55 RX4 yX4_notes wsX4_notes) := goodIn_app (goodIn_of _ (by decide +kernel)) ggX4_take_X4_notes
set_option maxRecDepth 20000 in
theorem ggX4_take_X4_takes1 : GoodIn wsX4_take wsX4_takes1 := goodIn_r _ [14, 15, 16, 17, 4, 18, 6, 19, 20, 21, 22, 23, 24, 25, 26, 27, 28, 29, 30, 31, 32, 33, 34, 35, 36, 37, 38, 45, 46, 47, 48, 49, 50, 51, 52] (by decide +kernel) (by decide +kernel)
set_option maxRecDepth 20000 in
theorem gX4_take_X4_takes1 : GoodIn wsX4_take (wsV RX4 58 RX4 yX4_takes1 wsX4_takes1) := goodIn_app (goodIn_of _ (by decide +kernel)) ggX4_take_X4_takes1
set_option maxRecDepth 20000 in
theorem ggX4_take_X4_ends : GoodIn wsX4_take wsX4_ends := goodIn_r _ [42, 7, 6, 43, 44, 8, 9, 4, 10, 45, 46, 47, 48, 49, 50, 51, 52] (by decide +kernel) (by decide +kernel)
set_option maxRecDepth 20000 in
theorem gX4_take_X4_ends : GoodIn wsX4_take (wsV RX4 61 RX4 yX4_ends wsX4_ends) := goodIn_app (goodIn_of _ (by decide +kernel)) ggX4_take_X4_ends
theorem dX4_take_0 : decode cX4_take 0 = .ok (.aload_n 0, 1) := by decide +kernel
theorem dX4_take_1 : decode cX4_take 1 = .ok (.invokevirtual 55, 3) := by decide +kernel
theorem dX4_take_4 : decode cX4_take 4 = .ok (.aload_n 0, 1) := by decide +kernel
theorem dX4_take_5 : decode cX4_take 5 = .ok (.aload_n 0, 1) := by decide +kernel
theorem dX4_take_6 : decode cX4_take 6 = .ok (.invokevirtual 58, 3) := by decide +kernel
theorem dX4_take_9 : decode cX4_take 9 = .ok (.invokevirtual 61, 3) := by decide +kernel
theorem dX4_take_12 : decode cX4_take 12 = .ok (.ireturn, 1) := by decide +kernel
theorem dX4_runFrom_0 : decode cX4_runFrom 0 = .ok (.iconst 0, 1) := by decide +kernel
theorem dX4_runFrom_1 : decode cX4_runFrom 1 = .ok (.istore_n 2, 1) := by decide +kernel
theorem dX4_runFrom_2 : decode cX4_runFrom 2 = .ok (.iconst 0, 1) := by decide +kernel
theorem dX4_runFrom_3 : decode cX4_runFrom 3 = .ok (.istore_n 3, 1) := by decide +kernel
theorem dX4_runFrom_4 : decode cX4_runFrom 4 = .ok (.iload_n 3, 1) := by decide +kernel
theorem dX4_runFrom_5 : decode cX4_runFrom 5 = .ok (.sipush 320, 3) := by decide +kernel
theorem dX4_runFrom_8 : decode cX4_runFrom 8 = .ok (.if_icmp .ge 37, 3) := by decide +kernel
theorem dX4_runFrom_11 : decode cX4_runFrom 11 = .ok (.aload_n 0, 1) := by decide +kernel
theorem dX4_runFrom_12 : decode cX4_runFrom 12 = .ok (.getfield 7, 3) := by decide +kernel
theorem dX4_runFrom_15 : decode cX4_runFrom 15 = .ok (.iload_n 3, 1) := by decide +kernel
theorem dX4_runFrom_16 : decode cX4_runFrom 16 = .ok (.iaload, 1) := by decide +kernel
theorem dX4_runFrom_17 : decode cX4_runFrom 17 = .ok (.ifCond .ne 9, 3) := by decide +kernel
theorem dX4_runFrom_20 : decode cX4_runFrom 20 = .ok (.iload_n 2, 1) := by decide +kernel
theorem dX4_runFrom_21 : decode cX4_runFrom 21 = .ok (.iconst 1, 1) := by decide +kernel
theorem dX4_runFrom_22 : decode cX4_runFrom 22 = .ok (.iadd, 1) := by decide +kernel
theorem dX4_runFrom_23 : decode cX4_runFrom 23 = .ok (.goto 4, 3) := by decide +kernel
theorem dX4_runFrom_26 : decode cX4_runFrom 26 = .ok (.iconst 0, 1) := by decide +kernel
theorem dX4_runFrom_27 : decode cX4_runFrom 27 = .ok (.istore_n 2, 1) := by decide +kernel
theorem dX4_runFrom_28 : decode cX4_runFrom 28 = .ok (.iload_n 2, 1) := by decide +kernel
theorem dX4_runFrom_29 : decode cX4_runFrom 29 = .ok (.iload_n 1, 1) := by decide +kernel
theorem dX4_runFrom_30 : decode cX4_runFrom 30 = .ok (.if_icmp .ne 9, 3) := by decide +kernel
theorem dX4_runFrom_33 : decode cX4_runFrom 33 = .ok (.iload_n 3, 1) := by decide +kernel
theorem dX4_runFrom_34 : decode cX4_runFrom 34 = .ok (.iload_n 1, 1) := by decide +kernel
theorem dX4_runFrom_35 : decode cX4_runFrom 35 = .ok (.isub, 1) := by decide +kernel
theorem dX4_runFrom_36 : decode cX4_runFrom 36 = .ok (.iconst 1, 1) := by decide +kernel
theorem dX4_runFrom_37 : decode cX4_runFrom 37 = .ok (.iadd, 1) := by decide +kernel
theorem dX4_runFrom_38 : decode cX4_runFrom 38 = .ok (.ireturn, 1) := by decide +kernel
theorem dX4_runFrom_39 : decode cX4_runFrom 39 = .ok (.iinc 3 1, 3) := by decide +kernel
theorem dX4_runFrom_42 : decode cX4_runFrom 42 = .ok (.goto (-38), 3) := by decide +kernel
theorem dX4_runFrom_45 : decode cX4_runFrom 45 = .ok (.bipush (-9), 2) := by decide +kernel
theorem dX4_runFrom_47 : decode cX4_runFrom 47 = .ok (.ireturn, 1) := by decide +kernel
set_option maxRecDepth 20000 in
theorem ggX4_takeRun_X4_in : GoodIn wsX4_takeRun wsX4_in := goodIn_r _ [5] (by decide +kernel) (by decide +kernel)
set_option maxRecDepth 20000 in
theorem gX4_takeRun_X4_in : GoodIn wsX4_takeRun (va_wsS RX4 64 yX4_in wsX4_in) := goodIn_app (goodIn_of _ (by decide +kernel)) ggX4_takeRun_X4_in
set_option maxRecDepth 20000 in
theorem ggX4_takeRun_X4_runFrom : GoodIn wsX4_takeRun wsX4_runFrom := goodIn_r _ [9, 1, 36, 37, 38, 39, 40, 41, 42, 43] (by decide +kernel) (by decide +kernel)
set_option maxRecDepth 20000 in
theorem gX4_takeRun_X4_runFrom : GoodIn wsX4_takeRun (wsV RX4 68 RX4 yX4_runFrom wsX4_runFrom) := goodIn_app (goodIn_of _ (by decide +kernel)) ggX4_takeRun_X4_runFrom
set_option maxRecDepth 20000 in
theorem ggX4_takeRun_X4_notes : GoodIn wsX4_takeRun wsX4_notes := goodIn_r _ [13, 1, 14, 15, 16, 4, 17, 36, 37, 38, 39, 40, 41, 42, 43] (by decide +kernel) (by decide +kernel)
set_option maxRecDepth 20000 in
theorem gX4_takeRun_X4_notes : GoodIn wsX4_takeRun (wsV RX4 55 RX4 yX4_notes wsX4_notes) := goodIn_app (goodIn_of _ (by decide +kernel)) ggX4_takeRun_X4_notes
set_option maxRecDepth 20000 in
theorem ggX4_takeRun_X4_becomes : GoodIn wsX4_takeRun wsX4_becomes := goodIn_r _ [21, 1, 22, 23, 24, 4, 25, 26, 27, 28, 29, 36, 37, 38, 39, 40, 41, 42, 43] (by decide +kernel) (by decide +kernel)
set_option maxRecDepth 20000 in
theorem gX4_takeRun_X4_becomes : GoodIn wsX4_takeRun (wsV RX4 44 RX4 yX4_becomes wsX4_becomes) := goodIn_app (goodIn_of _ (by decide +kernel)) ggX4_takeRun_X4_becomes
set_option maxRecDepth 20000 in
theorem ggX4_takeRun_X4_ends : GoodIn wsX4_takeRun wsX4_ends := goodIn_r _ [33, 14, 1, 34, 35, 15, 16, 4, 17, 36, 37, 38, 39, 40, 41, 42, 43] (by decide +kernel) (by decide +kernel)
set_option maxRecDepth 20000 in
theorem gX4_takeRun_X4_ends : GoodIn wsX4_takeRun (wsV RX4 61 RX4 yX4_ends wsX4_ends) := goodIn_app (goodIn_of _ (by decide +kernel)) ggX4_takeRun_X4_ends
theorem dX4_takeRun_0 : decode cX4_takeRun 0 = .ok (.iload_n 1, 1) := by decide +kernel
theorem dX4_takeRun_1 : decode cX4_takeRun 1 = .ok (.iconst 1, 1) := by decide +kernel
theorem dX4_takeRun_2 : decode cX4_takeRun 2 = .ok (.bipush 64, 2) := by decide +kernel
theorem dX4_takeRun_4 : decode cX4_takeRun 4 = .ok (.invokestatic 64, 3) := by decide +kernel
theorem dX4_takeRun_7 : decode cX4_takeRun 7 = .ok (.ifCond .ne 5, 3) := by decide +kernel
theorem dX4_takeRun_10 : decode cX4_takeRun 10 = .ok (.iconst (-1), 1) := by decide +kernel
theorem dX4_takeRun_11 : decode cX4_takeRun 11 = .ok (.ireturn, 1) := by decide +kernel
theorem dX4_takeRun_12 : decode cX4_takeRun 12 = .ok (.aload_n 0, 1) := by decide +kernel
theorem dX4_takeRun_13 : decode cX4_takeRun 13 = .ok (.iload_n 1, 1) := by decide +kernel
theorem dX4_takeRun_14 : decode cX4_takeRun 14 = .ok (.invokevirtual 68, 3) := by decide +kernel
theorem dX4_takeRun_17 : decode cX4_takeRun 17 = .ok (.istore_n 2, 1) := by decide +kernel
theorem dX4_takeRun_18 : decode cX4_takeRun 18 = .ok (.iload_n 2, 1) := by decide +kernel
theorem dX4_takeRun_19 : decode cX4_takeRun 19 = .ok (.bipush (-9), 2) := by decide +kernel
theorem dX4_takeRun_21 : decode cX4_takeRun 21 = .ok (.if_icmp .ne 6, 3) := by decide +kernel
theorem dX4_takeRun_24 : decode cX4_takeRun 24 = .ok (.bipush (-3), 2) := by decide +kernel
theorem dX4_takeRun_26 : decode cX4_takeRun 26 = .ok (.ireturn, 1) := by decide +kernel
theorem dX4_takeRun_27 : decode cX4_takeRun 27 = .ok (.aload_n 0, 1) := by decide +kernel
theorem dX4_takeRun_28 : decode cX4_takeRun 28 = .ok (.invokevirtual 55, 3) := by decide +kernel
theorem dX4_takeRun_31 : decode cX4_takeRun 31 = .ok (.aload_n 0, 1) := by decide +kernel
theorem dX4_takeRun_32 : decode cX4_takeRun 32 = .ok (.getfield 7, 3) := by decide +kernel
theorem dX4_takeRun_35 : decode cX4_takeRun 35 = .ok (.sipush 666, 3) := by decide +kernel
theorem dX4_takeRun_38 : decode cX4_takeRun 38 = .ok (.dup2, 1) := by decide +kernel
theorem dX4_takeRun_39 : decode cX4_takeRun 39 = .ok (.iaload, 1) := by decide +kernel
theorem dX4_takeRun_40 : decode cX4_takeRun 40 = .ok (.iload_n 2, 1) := by decide +kernel
theorem dX4_takeRun_41 : decode cX4_takeRun 41 = .ok (.iload_n 1, 1) := by decide +kernel
theorem dX4_takeRun_42 : decode cX4_takeRun 42 = .ok (.iadd, 1) := by decide +kernel
theorem dX4_takeRun_43 : decode cX4_takeRun 43 = .ok (.iconst 1, 1) := by decide +kernel
theorem dX4_takeRun_44 : decode cX4_takeRun 44 = .ok (.isub, 1) := by decide +kernel
theorem dX4_takeRun_45 : decode cX4_takeRun 45 = .ok (.bipush 32, 2) := by decide +kernel
theorem dX4_takeRun_47 : decode cX4_takeRun 47 = .ok (.idiv, 1) := by decide +kernel
theorem dX4_takeRun_48 : decode cX4_takeRun 48 = .ok (.iconst 1, 1) := by decide +kernel
theorem dX4_takeRun_49 : decode cX4_takeRun 49 = .ok (.iadd, 1) := by decide +kernel
theorem dX4_takeRun_50 : decode cX4_takeRun 50 = .ok (.iadd, 1) := by decide +kernel
theorem dX4_takeRun_51 : decode cX4_takeRun 51 = .ok (.iastore, 1) := by decide +kernel
theorem dX4_takeRun_52 : decode cX4_takeRun 52 = .ok (.iload_n 2, 1) := by decide +kernel
theorem dX4_takeRun_53 : decode cX4_takeRun 53 = .ok (.istore_n 3, 1) := by decide +kernel
theorem dX4_takeRun_54 : decode cX4_takeRun 54 = .ok (.iload_n 3, 1) := by decide +kernel
theorem dX4_takeRun_55 : decode cX4_takeRun 55 = .ok (.iload_n 2, 1) := by decide +kernel
theorem dX4_takeRun_56 : decode cX4_takeRun 56 = .ok (.iload_n 1, 1) := by decide +kernel
theorem dX4_takeRun_57 : decode cX4_takeRun 57 = .ok (.iadd, 1) := by decide +kernel
theorem dX4_takeRun_58 : decode cX4_takeRun 58 = .ok (.if_icmp .ge 15, 3) := by decide +kernel
theorem dX4_takeRun_61 : decode cX4_takeRun 61 = .ok (.aload_n 0, 1) := by decide +kernel
theorem dX4_takeRun_62 : decode cX4_takeRun 62 = .ok (.iload_n 3, 1) := by decide +kernel
theorem dX4_takeRun_63 : decode cX4_takeRun 63 = .ok (.iconst 1, 1) := by decide +kernel
theorem dX4_takeRun_64 : decode cX4_takeRun 64 = .ok (.invokevirtual 44, 3) := by decide +kernel
theorem dX4_takeRun_67 : decode cX4_takeRun 67 = .ok (.iinc 3 1, 3) := by decide +kernel
theorem dX4_takeRun_70 : decode cX4_takeRun 70 = .ok (.goto (-16), 3) := by decide +kernel
theorem dX4_takeRun_73 : decode cX4_takeRun 73 = .ok (.aload_n 0, 1) := by decide +kernel
theorem dX4_takeRun_74 : decode cX4_takeRun 74 = .ok (.iload_n 2, 1) := by decide +kernel
theorem dX4_takeRun_75 : decode cX4_takeRun 75 = .ok (.invokevirtual 61, 3) := by decide +kernel
theorem dX4_takeRun_78 : decode cX4_takeRun 78 = .ok (.ireturn, 1) := by decide +kernel
set_option maxRecDepth 20000 in
theorem ggX4_givesBack_X4_in : GoodIn wsX4_givesBack wsX4_in := goodIn_r _ [5] (by decide +kernel) (by decide +kernel)
set_option maxRecDepth 20000 in
theorem gX4_givesBack_X4_in : GoodIn wsX4_givesBack (va_wsS RX4 64 yX4_in wsX4_in) := goodIn_app (goodIn_of _ (by decide +kernel)) ggX4_givesBack_X4_in
set_option maxRecDepth 20000 in
theorem ggX4_givesBack_X4_becomes : GoodIn wsX4_givesBack wsX4_becomes := goodIn_r _ [9, 1, 10, 11, 12, 4, 13, 14, 15, 16, 17, 18, 19, 20, 21, 22, 23, 24, 25] (by decide +kernel) (by decide +kernel)
set_option maxRecDepth 20000 in
theorem gX4_givesBack_X4_becomes : GoodIn wsX4_givesBack (wsV RX4 44 RX4 yX4_becomes wsX4_becomes) := goodIn_app (goodIn_of _ (by decide +kernel)) ggX4_givesBack_X4_becomes
theorem dX4_givesBack_0 : decode cX4_givesBack 0 = .ok (.iload_n 1, 1) := by decide +kernel
theorem dX4_givesBack_1 : decode cX4_givesBack 1 = .ok (.iconst 0, 1) := by decide +kernel
theorem dX4_givesBack_2 : decode cX4_givesBack 2 = .ok (.sipush 319, 3) := by decide +kernel
theorem dX4_givesBack_5 : decode cX4_givesBack 5 = .ok (.invokestatic 64, 3) := by decide +kernel
theorem dX4_givesBack_8 : decode cX4_givesBack 8 = .ok (.ifCond .eq 14, 3) := by decide +kernel
theorem dX4_givesBack_11 : decode cX4_givesBack 11 = .ok (.iload_n 2, 1) := by decide +kernel
theorem dX4_givesBack_12 : decode cX4_givesBack 12 = .ok (.iload_n 1, 1) := by decide +kernel
theorem dX4_givesBack_13 : decode cX4_givesBack 13 = .ok (.sipush 319, 3) := by decide +kernel
theorem dX4_givesBack_16 : decode cX4_givesBack 16 = .ok (.invokestatic 64, 3) := by decide +kernel
theorem dX4_givesBack_19 : decode cX4_givesBack 19 = .ok (.ifCond .ne 5, 3) := by decide +kernel
theorem dX4_givesBack_22 : decode cX4_givesBack 22 = .ok (.iconst (-1), 1) := by decide +kernel
theorem dX4_givesBack_23 : decode cX4_givesBack 23 = .ok (.ireturn, 1) := by decide +kernel
theorem dX4_givesBack_24 : decode cX4_givesBack 24 = .ok (.iconst 0, 1) := by decide +kernel
theorem dX4_givesBack_25 : decode cX4_givesBack 25 = .ok (.istore_n 3, 1) := by decide +kernel
theorem dX4_givesBack_26 : decode cX4_givesBack 26 = .ok (.iload_n 1, 1) := by decide +kernel
theorem dX4_givesBack_27 : decode cX4_givesBack 27 = .ok (.istore 4, 2) := by decide +kernel
theorem dX4_givesBack_29 : decode cX4_givesBack 29 = .ok (.iload 4, 2) := by decide +kernel
theorem dX4_givesBack_31 : decode cX4_givesBack 31 = .ok (.iload_n 2, 1) := by decide +kernel
theorem dX4_givesBack_32 : decode cX4_givesBack 32 = .ok (.if_icmp .gt 48, 3) := by decide +kernel
theorem dX4_givesBack_35 : decode cX4_givesBack 35 = .ok (.aload_n 0, 1) := by decide +kernel
theorem dX4_givesBack_36 : decode cX4_givesBack 36 = .ok (.getfield 7, 3) := by decide +kernel
theorem dX4_givesBack_39 : decode cX4_givesBack 39 = .ok (.iload 4, 2) := by decide +kernel
theorem dX4_givesBack_41 : decode cX4_givesBack 41 = .ok (.iaload, 1) := by decide +kernel
theorem dX4_givesBack_42 : decode cX4_givesBack 42 = .ok (.iconst 1, 1) := by decide +kernel
theorem dX4_givesBack_43 : decode cX4_givesBack 43 = .ok (.if_icmp .ne 31, 3) := by decide +kernel
theorem dX4_givesBack_46 : decode cX4_givesBack 46 = .ok (.aload_n 0, 1) := by decide +kernel
theorem dX4_givesBack_47 : decode cX4_givesBack 47 = .ok (.iload 4, 2) := by decide +kernel
theorem dX4_givesBack_49 : decode cX4_givesBack 49 = .ok (.aload_n 0, 1) := by decide +kernel
theorem dX4_givesBack_50 : decode cX4_givesBack 50 = .ok (.getfield 7, 3) := by decide +kernel
theorem dX4_givesBack_53 : decode cX4_givesBack 53 = .ok (.sipush 320, 3) := by decide +kernel
theorem dX4_givesBack_56 : decode cX4_givesBack 56 = .ok (.iload 4, 2) := by decide +kernel
theorem dX4_givesBack_58 : decode cX4_givesBack 58 = .ok (.iadd, 1) := by decide +kernel
theorem dX4_givesBack_59 : decode cX4_givesBack 59 = .ok (.iaload, 1) := by decide +kernel
theorem dX4_givesBack_60 : decode cX4_givesBack 60 = .ok (.ifCond .le 7, 3) := by decide +kernel
theorem dX4_givesBack_63 : decode cX4_givesBack 63 = .ok (.iconst 3, 1) := by decide +kernel
theorem dX4_givesBack_64 : decode cX4_givesBack 64 = .ok (.goto 4, 3) := by decide +kernel
theorem dX4_givesBack_67 : decode cX4_givesBack 67 = .ok (.iconst 2, 1) := by decide +kernel
theorem dX4_givesBack_68 : decode cX4_givesBack 68 = .ok (.invokevirtual 44, 3) := by decide +kernel
theorem dX4_givesBack_71 : decode cX4_givesBack 71 = .ok (.iinc 3 1, 3) := by decide +kernel
theorem dX4_givesBack_74 : decode cX4_givesBack 74 = .ok (.iinc 4 1, 3) := by decide +kernel
theorem dX4_givesBack_77 : decode cX4_givesBack 77 = .ok (.goto (-48), 3) := by decide +kernel
theorem dX4_givesBack_80 : decode cX4_givesBack 80 = .ok (.iload_n 3, 1) := by decide +kernel
theorem dX4_givesBack_81 : decode cX4_givesBack 81 = .ok (.ifCond .ne 8, 3) := by decide +kernel
theorem dX4_givesBack_84 : decode cX4_givesBack 84 = .ok (.bipush (-2), 2) := by decide +kernel
theorem dX4_givesBack_86 : decode cX4_givesBack 86 = .ok (.goto 4, 3) := by decide +kernel
theorem dX4_givesBack_89 : decode cX4_givesBack 89 = .ok (.iload_n 3, 1) := by decide +kernel
theorem dX4_givesBack_90 : decode cX4_givesBack 90 = .ok (.ireturn, 1) := by decide +kernel
set_option maxRecDepth 20000 in
theorem ggX4_giveBack_X4_notes : GoodIn wsX4_giveBack wsX4_notes := goodIn_r _ [5, 6, 7, 8, 9, 4, 10, 36, 37, 38, 39, 40, 41, 42, 43] (by decide +kernel) (by decide +kernel)
set_option maxRecDepth 20000 in
theorem gX4_giveBack_X4_notes : GoodIn wsX4_giveBack (wsV RX4 55 RX4 yX4_notes wsX4_notes) := goodIn_app (goodIn_of _ (by decide +kernel)) ggX4_giveBack_X4_notes
set_option maxRecDepth 20000 in
theorem ggX4_giveBack_X4_givesBack : GoodIn wsX4_giveBack wsX4_givesBack := goodIn_r _ [14, 6, 15, 16, 4, 17, 18, 19, 20, 21, 22, 23, 24, 25, 26, 27, 28, 29, 36, 37, 38, 39, 40, 41, 42, 43] (by decide +kernel) (by decide +kernel)
set_option maxRecDepth 20000 in
theorem gX4_giveBack_X4_givesBack : GoodIn wsX4_giveBack (wsV RX4 71 RX4 yX4_givesBack wsX4_givesBack) := goodIn_app (goodIn_of _ (by decide +kernel)) ggX4_giveBack_X4_givesBack
set_option maxRecDepth 20000 in
theorem ggX4_giveBack_X4_ends : GoodIn wsX4_giveBack wsX4_ends := goodIn_r _ [33, 7, 6, 34, 35, 8, 9, 4, 10, 36, 37, 38, 39, 40, 41, 42, 43] (by decide +kernel) (by decide +kernel)
set_option maxRecDepth 20000 in
theorem gX4_giveBack_X4_ends : GoodIn wsX4_giveBack (wsV RX4 61 RX4 yX4_ends wsX4_ends) := goodIn_app (goodIn_of _ (by decide +kernel)) ggX4_giveBack_X4_ends
theorem dX4_giveBack_0 : decode cX4_giveBack 0 = .ok (.aload_n 0, 1) := by decide +kernel
theorem dX4_giveBack_1 : decode cX4_giveBack 1 = .ok (.invokevirtual 55, 3) := by decide +kernel
theorem dX4_giveBack_4 : decode cX4_giveBack 4 = .ok (.aload_n 0, 1) := by decide +kernel
theorem dX4_giveBack_5 : decode cX4_giveBack 5 = .ok (.aload_n 0, 1) := by decide +kernel
theorem dX4_giveBack_6 : decode cX4_giveBack 6 = .ok (.iload_n 1, 1) := by decide +kernel
theorem dX4_giveBack_7 : decode cX4_giveBack 7 = .ok (.iload_n 2, 1) := by decide +kernel
theorem dX4_giveBack_8 : decode cX4_giveBack 8 = .ok (.invokevirtual 71, 3) := by decide +kernel
theorem dX4_giveBack_11 : decode cX4_giveBack 11 = .ok (.invokevirtual 61, 3) := by decide +kernel
theorem dX4_giveBack_14 : decode cX4_giveBack 14 = .ok (.ireturn, 1) := by decide +kernel
set_option maxRecDepth 20000 in
theorem ggX4_clearsSome_X4_in : GoodIn wsX4_clearsSome wsX4_in := goodIn_r _ [4] (by decide +kernel) (by decide +kernel)
set_option maxRecDepth 20000 in
theorem gX4_clearsSome_X4_in : GoodIn wsX4_clearsSome (va_wsS RX4 64 yX4_in wsX4_in) := goodIn_app (goodIn_of _ (by decide +kernel)) ggX4_clearsSome_X4_in
set_option maxRecDepth 20000 in
theorem ggX4_clearsSome_X4_clears : GoodIn wsX4_clearsSome wsX4_clears := goodIn_r _ [8, 9, 10, 11, 12, 3, 13, 14, 15, 16, 17, 18, 19, 20, 21, 22, 23, 24, 25, 26, 27, 28, 29] (by decide +kernel) (by decide +kernel)
set_option maxRecDepth 20000 in
theorem gX4_clearsSome_X4_clears : GoodIn wsX4_clearsSome (wsV RX4 52 RX4 yX4_clears wsX4_clears) := goodIn_app (goodIn_of _ (by decide +kernel)) ggX4_clearsSome_X4_clears
theorem dX4_clearsSome_0 : decode cX4_clearsSome 0 = .ok (.iload_n 1, 1) := by decide +kernel
theorem dX4_clearsSome_1 : decode cX4_clearsSome 1 = .ok (.iconst 1, 1) := by decide +kernel
theorem dX4_clearsSome_2 : decode cX4_clearsSome 2 = .ok (.bipush 10, 2) := by decide +kernel
theorem dX4_clearsSome_4 : decode cX4_clearsSome 4 = .ok (.invokestatic 64, 3) := by decide +kernel
theorem dX4_clearsSome_7 : decode cX4_clearsSome 7 = .ok (.ifCond .eq 11, 3) := by decide +kernel
theorem dX4_clearsSome_10 : decode cX4_clearsSome 10 = .ok (.aload_n 0, 1) := by decide +kernel
theorem dX4_clearsSome_11 : decode cX4_clearsSome 11 = .ok (.iload_n 1, 1) := by decide +kernel
theorem dX4_clearsSome_12 : decode cX4_clearsSome 12 = .ok (.invokevirtual 52, 3) := by decide +kernel
theorem dX4_clearsSome_15 : decode cX4_clearsSome 15 = .ok (.goto 4, 3) := by decide +kernel
theorem dX4_clearsSome_18 : decode cX4_clearsSome 18 = .ok (.iconst (-1), 1) := by decide +kernel
theorem dX4_clearsSome_19 : decode cX4_clearsSome 19 = .ok (.ireturn, 1) := by decide +kernel
set_option maxRecDepth 20000 in
theorem ggX4_clear_X4_notes : GoodIn wsX4_clear wsX4_notes := goodIn_r _ [5, 6, 7, 8, 9, 4, 10, 40, 41, 42, 43, 44, 45, 46, 47] (by decide +kernel) (by decide +kernel)
set_option maxRecDepth 20000 in
theorem gX4_clear_X4_notes : GoodIn wsX4_clear (wsV RX4 55 RX4 yX4_notes wsX4_notes) := goodIn_app (goodIn_of _ (by decide +kernel)) ggX4_clear_X4_notes
set_option maxRecDepth 20000 in
theorem ggX4_clear_X4_clearsSome : GoodIn wsX4_clear wsX4_clearsSome := goodIn_r _ [14, 15, 16, 4, 17, 18, 19, 20, 21, 6, 22, 23, 24, 25, 26, 27, 28, 29, 30, 31, 32, 33, 40, 41, 42, 43, 44, 45, 46, 47] (by decide +kernel) (by decide +kernel)
set_option maxRecDepth 20000 in
theorem gX4_clear_X4_clearsSome : GoodIn wsX4_clear (wsV RX4 74 RX4 yX4_clearsSome wsX4_clearsSome) := goodIn_app (goodIn_of _ (by decide +kernel)) ggX4_clear_X4_clearsSome
set_option maxRecDepth 20000 in
theorem ggX4_clear_X4_ends : GoodIn wsX4_clear wsX4_ends := goodIn_r _ [37, 7, 6, 38, 39, 8, 9, 4, 10, 40, 41, 42, 43, 44, 45, 46, 47] (by decide +kernel) (by decide +kernel)
set_option maxRecDepth 20000 in
theorem gX4_clear_X4_ends : GoodIn wsX4_clear (wsV RX4 61 RX4 yX4_ends wsX4_ends) := goodIn_app (goodIn_of _ (by decide +kernel)) ggX4_clear_X4_ends
theorem dX4_clear_0 : decode cX4_clear 0 = .ok (.aload_n 0, 1) := by decide +kernel
theorem dX4_clear_1 : decode cX4_clear 1 = .ok (.invokevirtual 55, 3) := by decide +kernel
theorem dX4_clear_4 : decode cX4_clear 4 = .ok (.aload_n 0, 1) := by decide +kernel
theorem dX4_clear_5 : decode cX4_clear 5 = .ok (.aload_n 0, 1) := by decide +kernel
theorem dX4_clear_6 : decode cX4_clear 6 = .ok (.iload_n 1, 1) := by decide +kernel
theorem dX4_clear_7 : decode cX4_clear 7 = .ok (.invokevirtual 74, 3) := by decide +kernel
theorem dX4_clear_10 : decode cX4_clear 10 = .ok (.invokevirtual 61, 3) := by decide +kernel
theorem dX4_clear_13 : decode cX4_clear 13 = .ok (.ireturn, 1) := by decide +kernel
set_option maxRecDepth 20000 in
theorem ggX4_isBlock_X4_in : GoodIn wsX4_isBlock wsX4_in := goodIn_r _ [5] (by decide +kernel) (by decide +kernel)
set_option maxRecDepth 20000 in
theorem gX4_isBlock_X4_in : GoodIn wsX4_isBlock (va_wsS RX4 64 yX4_in wsX4_in) := goodIn_app (goodIn_of _ (by decide +kernel)) ggX4_isBlock_X4_in
theorem dX4_isBlock_0 : decode cX4_isBlock 0 = .ok (.iload_n 1, 1) := by decide +kernel
theorem dX4_isBlock_1 : decode cX4_isBlock 1 = .ok (.iconst 0, 1) := by decide +kernel
theorem dX4_isBlock_2 : decode cX4_isBlock 2 = .ok (.bipush 7, 2) := by decide +kernel
theorem dX4_isBlock_4 : decode cX4_isBlock 4 = .ok (.invokestatic 64, 3) := by decide +kernel
theorem dX4_isBlock_7 : decode cX4_isBlock 7 = .ok (.ifCond .eq 24, 3) := by decide +kernel
theorem dX4_isBlock_10 : decode cX4_isBlock 10 = .ok (.aload_n 0, 1) := by decide +kernel
theorem dX4_isBlock_11 : decode cX4_isBlock 11 = .ok (.getfield 7, 3) := by decide +kernel
theorem dX4_isBlock_14 : decode cX4_isBlock 14 = .ok (.sipush 650, 3) := by decide +kernel
theorem dX4_isBlock_17 : decode cX4_isBlock 17 = .ok (.iconst 2, 1) := by decide +kernel
theorem dX4_isBlock_18 : decode cX4_isBlock 18 = .ok (.iload_n 1, 1) := by decide +kernel
theorem dX4_isBlock_19 : decode cX4_isBlock 19 = .ok (.imul, 1) := by decide +kernel
theorem dX4_isBlock_20 : decode cX4_isBlock 20 = .ok (.iadd, 1) := by decide +kernel
theorem dX4_isBlock_21 : decode cX4_isBlock 21 = .ok (.iconst 1, 1) := by decide +kernel
theorem dX4_isBlock_22 : decode cX4_isBlock 22 = .ok (.iadd, 1) := by decide +kernel
theorem dX4_isBlock_23 : decode cX4_isBlock 23 = .ok (.iaload, 1) := by decide +kernel
theorem dX4_isBlock_24 : decode cX4_isBlock 24 = .ok (.ifCond .le 7, 3) := by decide +kernel
theorem dX4_isBlock_27 : decode cX4_isBlock 27 = .ok (.iconst 1, 1) := by decide +kernel
theorem dX4_isBlock_28 : decode cX4_isBlock 28 = .ok (.goto 4, 3) := by decide +kernel
theorem dX4_isBlock_31 : decode cX4_isBlock 31 = .ok (.iconst 0, 1) := by decide +kernel
theorem dX4_isBlock_32 : decode cX4_isBlock 32 = .ok (.ireturn, 1) := by decide +kernel
theorem dX4_isSize_0 : decode cX4_isSize 0 = .ok (.iload_n 0, 1) := by decide +kernel
theorem dX4_isSize_1 : decode cX4_isSize 1 = .ok (.iconst 4, 1) := by decide +kernel
theorem dX4_isSize_2 : decode cX4_isSize 2 = .ok (.if_icmp .eq 21, 3) := by decide +kernel
theorem dX4_isSize_5 : decode cX4_isSize 5 = .ok (.iload_n 0, 1) := by decide +kernel
theorem dX4_isSize_6 : decode cX4_isSize 6 = .ok (.bipush 8, 2) := by decide +kernel
theorem dX4_isSize_8 : decode cX4_isSize 8 = .ok (.if_icmp .eq 15, 3) := by decide +kernel
theorem dX4_isSize_11 : decode cX4_isSize 11 = .ok (.iload_n 0, 1) := by decide +kernel
theorem dX4_isSize_12 : decode cX4_isSize 12 = .ok (.bipush 16, 2) := by decide +kernel
theorem dX4_isSize_14 : decode cX4_isSize 14 = .ok (.if_icmp .eq 9, 3) := by decide +kernel
theorem dX4_isSize_17 : decode cX4_isSize 17 = .ok (.iload_n 0, 1) := by decide +kernel
theorem dX4_isSize_18 : decode cX4_isSize 18 = .ok (.bipush 32, 2) := by decide +kernel
theorem dX4_isSize_20 : decode cX4_isSize 20 = .ok (.if_icmp .ne 7, 3) := by decide +kernel
theorem dX4_isSize_23 : decode cX4_isSize 23 = .ok (.iconst 1, 1) := by decide +kernel
theorem dX4_isSize_24 : decode cX4_isSize 24 = .ok (.goto 4, 3) := by decide +kernel
theorem dX4_isSize_27 : decode cX4_isSize 27 = .ok (.iconst 0, 1) := by decide +kernel
theorem dX4_isSize_28 : decode cX4_isSize 28 = .ok (.ireturn, 1) := by decide +kernel
theorem dX4_placeOf_0 : decode cX4_placeOf 0 = .ok (.iconst 0, 1) := by decide +kernel
theorem dX4_placeOf_1 : decode cX4_placeOf 1 = .ok (.istore_n 2, 1) := by decide +kernel
theorem dX4_placeOf_2 : decode cX4_placeOf 2 = .ok (.iload_n 2, 1) := by decide +kernel
theorem dX4_placeOf_3 : decode cX4_placeOf 3 = .ok (.sipush 320, 3) := by decide +kernel
theorem dX4_placeOf_6 : decode cX4_placeOf 6 = .ok (.if_icmp .ge 54, 3) := by decide +kernel
theorem dX4_placeOf_9 : decode cX4_placeOf 9 = .ok (.iconst 0, 1) := by decide +kernel
theorem dX4_placeOf_10 : decode cX4_placeOf 10 = .ok (.istore_n 3, 1) := by decide +kernel
theorem dX4_placeOf_11 : decode cX4_placeOf 11 = .ok (.iload_n 2, 1) := by decide +kernel
theorem dX4_placeOf_12 : decode cX4_placeOf 12 = .ok (.istore 4, 2) := by decide +kernel
theorem dX4_placeOf_14 : decode cX4_placeOf 14 = .ok (.iload 4, 2) := by decide +kernel
theorem dX4_placeOf_16 : decode cX4_placeOf 16 = .ok (.iload_n 2, 1) := by decide +kernel
theorem dX4_placeOf_17 : decode cX4_placeOf 17 = .ok (.iload_n 1, 1) := by decide +kernel
theorem dX4_placeOf_18 : decode cX4_placeOf 18 = .ok (.iadd, 1) := by decide +kernel
theorem dX4_placeOf_19 : decode cX4_placeOf 19 = .ok (.if_icmp .ge 27, 3) := by decide +kernel
theorem dX4_placeOf_22 : decode cX4_placeOf 22 = .ok (.iload_n 3, 1) := by decide +kernel
theorem dX4_placeOf_23 : decode cX4_placeOf 23 = .ok (.aload_n 0, 1) := by decide +kernel
theorem dX4_placeOf_24 : decode cX4_placeOf 24 = .ok (.getfield 7, 3) := by decide +kernel
theorem dX4_placeOf_27 : decode cX4_placeOf 27 = .ok (.iload 4, 2) := by decide +kernel
theorem dX4_placeOf_29 : decode cX4_placeOf 29 = .ok (.iaload, 1) := by decide +kernel
theorem dX4_placeOf_30 : decode cX4_placeOf 30 = .ok (.ifCond .ne 7, 3) := by decide +kernel
theorem dX4_placeOf_33 : decode cX4_placeOf 33 = .ok (.iconst 1, 1) := by decide +kernel
theorem dX4_placeOf_34 : decode cX4_placeOf 34 = .ok (.goto 4, 3) := by decide +kernel
theorem dX4_placeOf_37 : decode cX4_placeOf 37 = .ok (.iconst 0, 1) := by decide +kernel
theorem dX4_placeOf_38 : decode cX4_placeOf 38 = .ok (.iadd, 1) := by decide +kernel
theorem dX4_placeOf_39 : decode cX4_placeOf 39 = .ok (.istore_n 3, 1) := by decide +kernel
theorem dX4_placeOf_40 : decode cX4_placeOf 40 = .ok (.iinc 4 1, 3) := by decide +kernel
theorem dX4_placeOf_43 : decode cX4_placeOf 43 = .ok (.goto (-29), 3) := by decide +kernel
theorem dX4_placeOf_46 : decode cX4_placeOf 46 = .ok (.iload_n 3, 1) := by decide +kernel
theorem dX4_placeOf_47 : decode cX4_placeOf 47 = .ok (.iload_n 1, 1) := by decide +kernel
theorem dX4_placeOf_48 : decode cX4_placeOf 48 = .ok (.if_icmp .ne 5, 3) := by decide +kernel
theorem dX4_placeOf_51 : decode cX4_placeOf 51 = .ok (.iload_n 2, 1) := by decide +kernel
theorem dX4_placeOf_52 : decode cX4_placeOf 52 = .ok (.ireturn, 1) := by decide +kernel
theorem dX4_placeOf_53 : decode cX4_placeOf 53 = .ok (.iload_n 2, 1) := by decide +kernel
theorem dX4_placeOf_54 : decode cX4_placeOf 54 = .ok (.iload_n 1, 1) := by decide +kernel
theorem dX4_placeOf_55 : decode cX4_placeOf 55 = .ok (.iadd, 1) := by decide +kernel
theorem dX4_placeOf_56 : decode cX4_placeOf 56 = .ok (.istore_n 2, 1) := by decide +kernel
theorem dX4_placeOf_57 : decode cX4_placeOf 57 = .ok (.goto (-55), 3) := by decide +kernel
theorem dX4_placeOf_60 : decode cX4_placeOf 60 = .ok (.bipush (-9), 2) := by decide +kernel
theorem dX4_placeOf_62 : decode cX4_placeOf 62 = .ok (.ireturn, 1) := by decide +kernel
set_option maxRecDepth 20000 in
theorem ggX4_reserves_X4_isSize : GoodIn wsX4_reserves wsX4_isSize := goodIn_r _ [5] (by decide +kernel) (by decide +kernel)
set_option maxRecDepth 20000 in
theorem gX4_reserves_X4_isSize : GoodIn wsX4_reserves (va_wsS RX4 77 yX4_isSize wsX4_isSize) := goodIn_app (goodIn_of _ (by decide +kernel)) ggX4_reserves_X4_isSize
set_option maxRecDepth 20000 in
theorem ggX4_reserves_X4_isBlock : GoodIn wsX4_reserves wsX4_isBlock := goodIn_r _ [9, 1, 10, 11, 4, 12, 29, 30, 31, 32, 33, 34, 35, 36] (by decide +kernel) (by decide +kernel)
set_option maxRecDepth 20000 in
theorem gX4_reserves_X4_isBlock : GoodIn wsX4_reserves (wsV RX4 81 RX4 yX4_isBlock wsX4_isBlock) := goodIn_app (goodIn_of _ (by decide +kernel)) ggX4_reserves_X4_isBlock
set_option maxRecDepth 20000 in
theorem ggX4_reserves_X4_placeOf : GoodIn wsX4_reserves wsX4_placeOf := goodIn_r _ [16, 1, 29, 30, 31, 32, 33, 34, 35, 36] (by decide +kernel) (by decide +kernel)
set_option maxRecDepth 20000 in
theorem gX4_reserves_X4_placeOf : GoodIn wsX4_reserves (wsV RX4 84 RX4 yX4_placeOf wsX4_placeOf) := goodIn_app (goodIn_of _ (by decide +kernel)) ggX4_reserves_X4_placeOf
set_option maxRecDepth 20000 in
theorem ggX4_reserves_X4_becomes : GoodIn wsX4_reserves wsX4_becomes := goodIn_r _ [20, 1, 21, 22, 23, 4, 24, 25, 26, 27, 28, 29, 30, 31, 32, 33, 34, 35, 36] (by decide +kernel) (by decide +kernel)
set_option maxRecDepth 20000 in
theorem gX4_reserves_X4_becomes : GoodIn wsX4_reserves (wsV RX4 44 RX4 yX4_becomes wsX4_becomes) := goodIn_app (goodIn_of _ (by decide +kernel)) ggX4_reserves_X4_becomes
theorem dX4_reserves_0 : decode cX4_reserves 0 = .ok (.iload_n 1, 1) := by decide +kernel
theorem dX4_reserves_1 : decode cX4_reserves 1 = .ok (.invokestatic 77, 3) := by decide +kernel
theorem dX4_reserves_4 : decode cX4_reserves 4 = .ok (.ifCond .ne 5, 3) := by decide +kernel
theorem dX4_reserves_7 : decode cX4_reserves 7 = .ok (.iconst (-1), 1) := by decide +kernel
theorem dX4_reserves_8 : decode cX4_reserves 8 = .ok (.ireturn, 1) := by decide +kernel
theorem dX4_reserves_9 : decode cX4_reserves 9 = .ok (.iconst 0, 1) := by decide +kernel
theorem dX4_reserves_10 : decode cX4_reserves 10 = .ok (.istore_n 2, 1) := by decide +kernel
theorem dX4_reserves_11 : decode cX4_reserves 11 = .ok (.aload_n 0, 1) := by decide +kernel
theorem dX4_reserves_12 : decode cX4_reserves 12 = .ok (.iload_n 2, 1) := by decide +kernel
theorem dX4_reserves_13 : decode cX4_reserves 13 = .ok (.invokevirtual 81, 3) := by decide +kernel
theorem dX4_reserves_16 : decode cX4_reserves 16 = .ok (.ifCond .eq 9, 3) := by decide +kernel
theorem dX4_reserves_19 : decode cX4_reserves 19 = .ok (.iinc 2 1, 3) := by decide +kernel
theorem dX4_reserves_22 : decode cX4_reserves 22 = .ok (.goto (-11), 3) := by decide +kernel
theorem dX4_reserves_25 : decode cX4_reserves 25 = .ok (.aload_n 0, 1) := by decide +kernel
theorem dX4_reserves_26 : decode cX4_reserves 26 = .ok (.iload_n 1, 1) := by decide +kernel
theorem dX4_reserves_27 : decode cX4_reserves 27 = .ok (.invokevirtual 84, 3) := by decide +kernel
theorem dX4_reserves_30 : decode cX4_reserves 30 = .ok (.istore_n 3, 1) := by decide +kernel
theorem dX4_reserves_31 : decode cX4_reserves 31 = .ok (.iload_n 2, 1) := by decide +kernel
theorem dX4_reserves_32 : decode cX4_reserves 32 = .ok (.bipush 8, 2) := by decide +kernel
theorem dX4_reserves_34 : decode cX4_reserves 34 = .ok (.if_icmp .eq 9, 3) := by decide +kernel
theorem dX4_reserves_37 : decode cX4_reserves 37 = .ok (.iload_n 3, 1) := by decide +kernel
theorem dX4_reserves_38 : decode cX4_reserves 38 = .ok (.bipush (-9), 2) := by decide +kernel
theorem dX4_reserves_40 : decode cX4_reserves 40 = .ok (.if_icmp .ne 6, 3) := by decide +kernel
theorem dX4_reserves_43 : decode cX4_reserves 43 = .ok (.bipush (-3), 2) := by decide +kernel
theorem dX4_reserves_45 : decode cX4_reserves 45 = .ok (.ireturn, 1) := by decide +kernel
theorem dX4_reserves_46 : decode cX4_reserves 46 = .ok (.aload_n 0, 1) := by decide +kernel
theorem dX4_reserves_47 : decode cX4_reserves 47 = .ok (.getfield 7, 3) := by decide +kernel
theorem dX4_reserves_50 : decode cX4_reserves 50 = .ok (.sipush 650, 3) := by decide +kernel
theorem dX4_reserves_53 : decode cX4_reserves 53 = .ok (.iconst 2, 1) := by decide +kernel
theorem dX4_reserves_54 : decode cX4_reserves 54 = .ok (.iload_n 2, 1) := by decide +kernel
theorem dX4_reserves_55 : decode cX4_reserves 55 = .ok (.imul, 1) := by decide +kernel
theorem dX4_reserves_56 : decode cX4_reserves 56 = .ok (.iadd, 1) := by decide +kernel
theorem dX4_reserves_57 : decode cX4_reserves 57 = .ok (.iload_n 3, 1) := by decide +kernel
theorem dX4_reserves_58 : decode cX4_reserves 58 = .ok (.iastore, 1) := by decide +kernel
theorem dX4_reserves_59 : decode cX4_reserves 59 = .ok (.aload_n 0, 1) := by decide +kernel
theorem dX4_reserves_60 : decode cX4_reserves 60 = .ok (.getfield 7, 3) := by decide +kernel
theorem dX4_reserves_63 : decode cX4_reserves 63 = .ok (.sipush 650, 3) := by decide +kernel
theorem dX4_reserves_66 : decode cX4_reserves 66 = .ok (.iconst 2, 1) := by decide +kernel
theorem dX4_reserves_67 : decode cX4_reserves 67 = .ok (.iload_n 2, 1) := by decide +kernel
theorem dX4_reserves_68 : decode cX4_reserves 68 = .ok (.imul, 1) := by decide +kernel
theorem dX4_reserves_69 : decode cX4_reserves 69 = .ok (.iadd, 1) := by decide +kernel
theorem dX4_reserves_70 : decode cX4_reserves 70 = .ok (.iconst 1, 1) := by decide +kernel
theorem dX4_reserves_71 : decode cX4_reserves 71 = .ok (.iadd, 1) := by decide +kernel
theorem dX4_reserves_72 : decode cX4_reserves 72 = .ok (.iload_n 1, 1) := by decide +kernel
theorem dX4_reserves_73 : decode cX4_reserves 73 = .ok (.iastore, 1) := by decide +kernel
theorem dX4_reserves_74 : decode cX4_reserves 74 = .ok (.iload_n 3, 1) := by decide +kernel
theorem dX4_reserves_75 : decode cX4_reserves 75 = .ok (.istore 4, 2) := by decide +kernel
theorem dX4_reserves_77 : decode cX4_reserves 77 = .ok (.iload 4, 2) := by decide +kernel
theorem dX4_reserves_79 : decode cX4_reserves 79 = .ok (.iload_n 3, 1) := by decide +kernel
theorem dX4_reserves_80 : decode cX4_reserves 80 = .ok (.iload_n 1, 1) := by decide +kernel
theorem dX4_reserves_81 : decode cX4_reserves 81 = .ok (.iadd, 1) := by decide +kernel
theorem dX4_reserves_82 : decode cX4_reserves 82 = .ok (.if_icmp .ge 30, 3) := by decide +kernel
theorem dX4_reserves_85 : decode cX4_reserves 85 = .ok (.aload_n 0, 1) := by decide +kernel
theorem dX4_reserves_86 : decode cX4_reserves 86 = .ok (.getfield 7, 3) := by decide +kernel
theorem dX4_reserves_89 : decode cX4_reserves 89 = .ok (.sipush 320, 3) := by decide +kernel
theorem dX4_reserves_92 : decode cX4_reserves 92 = .ok (.iload 4, 2) := by decide +kernel
theorem dX4_reserves_94 : decode cX4_reserves 94 = .ok (.iadd, 1) := by decide +kernel
theorem dX4_reserves_95 : decode cX4_reserves 95 = .ok (.iload_n 2, 1) := by decide +kernel
theorem dX4_reserves_96 : decode cX4_reserves 96 = .ok (.iconst 1, 1) := by decide +kernel
theorem dX4_reserves_97 : decode cX4_reserves 97 = .ok (.iadd, 1) := by decide +kernel
theorem dX4_reserves_98 : decode cX4_reserves 98 = .ok (.iastore, 1) := by decide +kernel
theorem dX4_reserves_99 : decode cX4_reserves 99 = .ok (.aload_n 0, 1) := by decide +kernel
theorem dX4_reserves_100 : decode cX4_reserves 100 = .ok (.iload 4, 2) := by decide +kernel
theorem dX4_reserves_102 : decode cX4_reserves 102 = .ok (.iconst 3, 1) := by decide +kernel
theorem dX4_reserves_103 : decode cX4_reserves 103 = .ok (.invokevirtual 44, 3) := by decide +kernel
theorem dX4_reserves_106 : decode cX4_reserves 106 = .ok (.iinc 4 1, 3) := by decide +kernel
theorem dX4_reserves_109 : decode cX4_reserves 109 = .ok (.goto (-32), 3) := by decide +kernel
theorem dX4_reserves_112 : decode cX4_reserves 112 = .ok (.iload_n 2, 1) := by decide +kernel
theorem dX4_reserves_113 : decode cX4_reserves 113 = .ok (.ireturn, 1) := by decide +kernel
set_option maxRecDepth 20000 in
theorem ggX4_reserve_X4_notes : GoodIn wsX4_reserve wsX4_notes := goodIn_r _ [5, 6, 7, 8, 9, 4, 10, 47, 48, 49, 50, 51, 52, 53, 54] (by decide +kernel) (by decide +kernel)
set_option maxRecDepth 20000 in
theorem gX4_reserve_X4_notes : GoodIn wsX4_reserve (wsV RX4 55 RX4 yX4_notes wsX4_notes) := goodIn_app (goodIn_of _ (by decide +kernel)) ggX4_reserve_X4_notes
set_option maxRecDepth 20000 in
theorem ggX4_reserve_X4_reserves : GoodIn wsX4_reserve wsX4_reserves := goodIn_r _ [14, 6, 15, 16, 4, 17, 18, 19, 20, 21, 22, 23, 24, 25, 26, 27, 28, 29, 30, 31, 32, 33, 34, 35, 36, 37, 38, 39, 40, 47, 48, 49, 50, 51, 52, 53, 54] (by decide +kernel) (by decide +kernel)
set_option maxRecDepth 20000 in
theorem gX4_reserve_X4_reserves : GoodIn wsX4_reserve (wsV RX4 87 RX4 yX4_reserves wsX4_reserves) := goodIn_app (goodIn_of _ (by decide +kernel)) ggX4_reserve_X4_reserves
set_option maxRecDepth 20000 in
theorem ggX4_reserve_X4_ends : GoodIn wsX4_reserve wsX4_ends := goodIn_r _ [44, 7, 6, 45, 46, 8, 9, 4, 10, 47, 48, 49, 50, 51, 52, 53, 54] (by decide +kernel) (by decide +kernel)
set_option maxRecDepth 20000 in
theorem gX4_reserve_X4_ends : GoodIn wsX4_reserve (wsV RX4 61 RX4 yX4_ends wsX4_ends) := goodIn_app (goodIn_of _ (by decide +kernel)) ggX4_reserve_X4_ends
theorem dX4_reserve_0 : decode cX4_reserve 0 = .ok (.aload_n 0, 1) := by decide +kernel
theorem dX4_reserve_1 : decode cX4_reserve 1 = .ok (.invokevirtual 55, 3) := by decide +kernel
theorem dX4_reserve_4 : decode cX4_reserve 4 = .ok (.aload_n 0, 1) := by decide +kernel
theorem dX4_reserve_5 : decode cX4_reserve 5 = .ok (.aload_n 0, 1) := by decide +kernel
theorem dX4_reserve_6 : decode cX4_reserve 6 = .ok (.iload_n 1, 1) := by decide +kernel
theorem dX4_reserve_7 : decode cX4_reserve 7 = .ok (.invokevirtual 87, 3) := by decide +kernel
theorem dX4_reserve_10 : decode cX4_reserve 10 = .ok (.invokevirtual 61, 3) := by decide +kernel
theorem dX4_reserve_13 : decode cX4_reserve 13 = .ok (.ireturn, 1) := by decide +kernel
set_option maxRecDepth 20000 in
theorem ggX4_takesIn_X4_isBlock : GoodIn wsX4_takesIn wsX4_isBlock := goodIn_r _ [6, 1, 7, 8, 5, 9, 22, 23, 24, 25, 26, 27, 28, 29] (by decide +kernel) (by decide +kernel)
set_option maxRecDepth 20000 in
theorem gX4_takesIn_X4_isBlock : GoodIn wsX4_takesIn (wsV RX4 81 RX4 yX4_isBlock wsX4_isBlock) := goodIn_app (goodIn_of _ (by decide +kernel)) ggX4_takesIn_X4_isBlock
set_option maxRecDepth 20000 in
theorem ggX4_takesIn_X4_becomes : GoodIn wsX4_takesIn wsX4_becomes := goodIn_r _ [13, 1, 14, 15, 16, 5, 17, 18, 19, 20, 21, 22, 23, 24, 25, 26, 27, 28, 29] (by decide +kernel) (by decide +kernel)
set_option maxRecDepth 20000 in
theorem gX4_takesIn_X4_becomes : GoodIn wsX4_takesIn (wsV RX4 44 RX4 yX4_becomes wsX4_becomes) := goodIn_app (goodIn_of _ (by decide +kernel)) ggX4_takesIn_X4_becomes
theorem dX4_takesIn_0 : decode cX4_takesIn 0 = .ok (.aload_n 0, 1) := by decide +kernel
theorem dX4_takesIn_1 : decode cX4_takesIn 1 = .ok (.iload_n 1, 1) := by decide +kernel
theorem dX4_takesIn_2 : decode cX4_takesIn 2 = .ok (.invokevirtual 81, 3) := by decide +kernel
theorem dX4_takesIn_5 : decode cX4_takesIn 5 = .ok (.ifCond .ne 5, 3) := by decide +kernel
theorem dX4_takesIn_8 : decode cX4_takesIn 8 = .ok (.iconst (-1), 1) := by decide +kernel
theorem dX4_takesIn_9 : decode cX4_takesIn 9 = .ok (.ireturn, 1) := by decide +kernel
theorem dX4_takesIn_10 : decode cX4_takesIn 10 = .ok (.aload_n 0, 1) := by decide +kernel
theorem dX4_takesIn_11 : decode cX4_takesIn 11 = .ok (.getfield 7, 3) := by decide +kernel
theorem dX4_takesIn_14 : decode cX4_takesIn 14 = .ok (.sipush 650, 3) := by decide +kernel
theorem dX4_takesIn_17 : decode cX4_takesIn 17 = .ok (.iconst 2, 1) := by decide +kernel
theorem dX4_takesIn_18 : decode cX4_takesIn 18 = .ok (.iload_n 1, 1) := by decide +kernel
theorem dX4_takesIn_19 : decode cX4_takesIn 19 = .ok (.imul, 1) := by decide +kernel
theorem dX4_takesIn_20 : decode cX4_takesIn 20 = .ok (.iadd, 1) := by decide +kernel
theorem dX4_takesIn_21 : decode cX4_takesIn 21 = .ok (.iaload, 1) := by decide +kernel
theorem dX4_takesIn_22 : decode cX4_takesIn 22 = .ok (.istore_n 2, 1) := by decide +kernel
theorem dX4_takesIn_23 : decode cX4_takesIn 23 = .ok (.iload_n 2, 1) := by decide +kernel
theorem dX4_takesIn_24 : decode cX4_takesIn 24 = .ok (.istore_n 3, 1) := by decide +kernel
theorem dX4_takesIn_25 : decode cX4_takesIn 25 = .ok (.iload_n 3, 1) := by decide +kernel
theorem dX4_takesIn_26 : decode cX4_takesIn 26 = .ok (.iload_n 2, 1) := by decide +kernel
theorem dX4_takesIn_27 : decode cX4_takesIn 27 = .ok (.aload_n 0, 1) := by decide +kernel
theorem dX4_takesIn_28 : decode cX4_takesIn 28 = .ok (.getfield 7, 3) := by decide +kernel
theorem dX4_takesIn_31 : decode cX4_takesIn 31 = .ok (.sipush 650, 3) := by decide +kernel
theorem dX4_takesIn_34 : decode cX4_takesIn 34 = .ok (.iconst 2, 1) := by decide +kernel
theorem dX4_takesIn_35 : decode cX4_takesIn 35 = .ok (.iload_n 1, 1) := by decide +kernel
theorem dX4_takesIn_36 : decode cX4_takesIn 36 = .ok (.imul, 1) := by decide +kernel
theorem dX4_takesIn_37 : decode cX4_takesIn 37 = .ok (.iadd, 1) := by decide +kernel
theorem dX4_takesIn_38 : decode cX4_takesIn 38 = .ok (.iconst 1, 1) := by decide +kernel
theorem dX4_takesIn_39 : decode cX4_takesIn 39 = .ok (.iadd, 1) := by decide +kernel
theorem dX4_takesIn_40 : decode cX4_takesIn 40 = .ok (.iaload, 1) := by decide +kernel
theorem dX4_takesIn_41 : decode cX4_takesIn 41 = .ok (.iadd, 1) := by decide +kernel
theorem dX4_takesIn_42 : decode cX4_takesIn 42 = .ok (.if_icmp .ge 27, 3) := by decide +kernel
theorem dX4_takesIn_45 : decode cX4_takesIn 45 = .ok (.aload_n 0, 1) := by decide +kernel
theorem dX4_takesIn_46 : decode cX4_takesIn 46 = .ok (.getfield 7, 3) := by decide +kernel
theorem dX4_takesIn_49 : decode cX4_takesIn 49 = .ok (.iload_n 3, 1) := by decide +kernel
theorem dX4_takesIn_50 : decode cX4_takesIn 50 = .ok (.iaload, 1) := by decide +kernel
theorem dX4_takesIn_51 : decode cX4_takesIn 51 = .ok (.iconst 3, 1) := by decide +kernel
theorem dX4_takesIn_52 : decode cX4_takesIn 52 = .ok (.if_icmp .ne 11, 3) := by decide +kernel
theorem dX4_takesIn_55 : decode cX4_takesIn 55 = .ok (.aload_n 0, 1) := by decide +kernel
theorem dX4_takesIn_56 : decode cX4_takesIn 56 = .ok (.iload_n 3, 1) := by decide +kernel
theorem dX4_takesIn_57 : decode cX4_takesIn 57 = .ok (.iconst 1, 1) := by decide +kernel
theorem dX4_takesIn_58 : decode cX4_takesIn 58 = .ok (.invokevirtual 44, 3) := by decide +kernel
theorem dX4_takesIn_61 : decode cX4_takesIn 61 = .ok (.iload_n 3, 1) := by decide +kernel
theorem dX4_takesIn_62 : decode cX4_takesIn 62 = .ok (.ireturn, 1) := by decide +kernel
theorem dX4_takesIn_63 : decode cX4_takesIn 63 = .ok (.iinc 3 1, 3) := by decide +kernel
theorem dX4_takesIn_66 : decode cX4_takesIn 66 = .ok (.goto (-41), 3) := by decide +kernel
theorem dX4_takesIn_69 : decode cX4_takesIn 69 = .ok (.bipush (-3), 2) := by decide +kernel
theorem dX4_takesIn_71 : decode cX4_takesIn 71 = .ok (.ireturn, 1) := by decide +kernel
set_option maxRecDepth 20000 in
theorem ggX4_takeIn_X4_notes : GoodIn wsX4_takeIn wsX4_notes := goodIn_r _ [5, 6, 7, 8, 9, 4, 10, 40, 41, 42, 43, 44, 45, 46, 47] (by decide +kernel) (by decide +kernel)
set_option maxRecDepth 20000 in
theorem gX4_takeIn_X4_notes : GoodIn wsX4_takeIn (wsV RX4 55 RX4 yX4_notes wsX4_notes) := goodIn_app (goodIn_of _ (by decide +kernel)) ggX4_takeIn_X4_notes
set_option maxRecDepth 20000 in
theorem ggX4_takeIn_X4_takesIn : GoodIn wsX4_takeIn wsX4_takesIn := goodIn_r _ [14, 6, 15, 16, 17, 4, 18, 19, 20, 21, 22, 23, 24, 25, 26, 27, 28, 29, 30, 31, 32, 33, 40, 41, 42, 43, 44, 45, 46, 47] (by decide +kernel) (by decide +kernel)
set_option maxRecDepth 20000 in
theorem gX4_takeIn_X4_takesIn : GoodIn wsX4_takeIn (wsV RX4 90 RX4 yX4_takesIn wsX4_takesIn) := goodIn_app (goodIn_of _ (by decide +kernel)) ggX4_takeIn_X4_takesIn
set_option maxRecDepth 20000 in
theorem ggX4_takeIn_X4_ends : GoodIn wsX4_takeIn wsX4_ends := goodIn_r _ [37, 7, 6, 38, 39, 8, 9, 4, 10, 40, 41, 42, 43, 44, 45, 46, 47] (by decide +kernel) (by decide +kernel)
set_option maxRecDepth 20000 in
theorem gX4_takeIn_X4_ends : GoodIn wsX4_takeIn (wsV RX4 61 RX4 yX4_ends wsX4_ends) := goodIn_app (goodIn_of _ (by decide +kernel)) ggX4_takeIn_X4_ends
theorem dX4_takeIn_0 : decode cX4_takeIn 0 = .ok (.aload_n 0, 1) := by decide +kernel
theorem dX4_takeIn_1 : decode cX4_takeIn 1 = .ok (.invokevirtual 55, 3) := by decide +kernel
theorem dX4_takeIn_4 : decode cX4_takeIn 4 = .ok (.aload_n 0, 1) := by decide +kernel
theorem dX4_takeIn_5 : decode cX4_takeIn 5 = .ok (.aload_n 0, 1) := by decide +kernel
theorem dX4_takeIn_6 : decode cX4_takeIn 6 = .ok (.iload_n 1, 1) := by decide +kernel
theorem dX4_takeIn_7 : decode cX4_takeIn 7 = .ok (.invokevirtual 90, 3) := by decide +kernel
theorem dX4_takeIn_10 : decode cX4_takeIn 10 = .ok (.invokevirtual 61, 3) := by decide +kernel
theorem dX4_takeIn_13 : decode cX4_takeIn 13 = .ok (.ireturn, 1) := by decide +kernel
set_option maxRecDepth 20000 in
theorem ggX4_giveUp_X4_isBlock : GoodIn wsX4_giveUp wsX4_isBlock := goodIn_r _ [6, 1, 7, 8, 5, 9, 36, 37, 38, 39, 40, 41, 42, 43] (by decide +kernel) (by decide +kernel)
set_option maxRecDepth 20000 in
theorem gX4_giveUp_X4_isBlock : GoodIn wsX4_giveUp (wsV RX4 81 RX4 yX4_isBlock wsX4_isBlock) := goodIn_app (goodIn_of _ (by decide +kernel)) ggX4_giveUp_X4_isBlock
set_option maxRecDepth 20000 in
theorem ggX4_giveUp_X4_notes : GoodIn wsX4_giveUp wsX4_notes := goodIn_r _ [13, 1, 14, 15, 16, 5, 17, 36, 37, 38, 39, 40, 41, 42, 43] (by decide +kernel) (by decide +kernel)
set_option maxRecDepth 20000 in
theorem gX4_giveUp_X4_notes : GoodIn wsX4_giveUp (wsV RX4 55 RX4 yX4_notes wsX4_notes) := goodIn_app (goodIn_of _ (by decide +kernel)) ggX4_giveUp_X4_notes
set_option maxRecDepth 20000 in
theorem ggX4_giveUp_X4_becomes : GoodIn wsX4_giveUp wsX4_becomes := goodIn_r _ [21, 1, 22, 23, 24, 5, 25, 26, 27, 28, 29, 36, 37, 38, 39, 40, 41, 42, 43] (by decide +kernel) (by decide +kernel)
set_option maxRecDepth 20000 in
theorem gX4_giveUp_X4_becomes : GoodIn wsX4_giveUp (wsV RX4 44 RX4 yX4_becomes wsX4_becomes) := goodIn_app (goodIn_of _ (by decide +kernel)) ggX4_giveUp_X4_becomes
set_option maxRecDepth 20000 in
theorem ggX4_giveUp_X4_ends : GoodIn wsX4_giveUp wsX4_ends := goodIn_r _ [33, 14, 1, 34, 35, 15, 16, 5, 17, 36, 37, 38, 39, 40, 41, 42, 43] (by decide +kernel) (by decide +kernel)
set_option maxRecDepth 20000 in
theorem gX4_giveUp_X4_ends : GoodIn wsX4_giveUp (wsV RX4 61 RX4 yX4_ends wsX4_ends) := goodIn_app (goodIn_of _ (by decide +kernel)) ggX4_giveUp_X4_ends
theorem dX4_giveUp_0 : decode cX4_giveUp 0 = .ok (.aload_n 0, 1) := by decide +kernel
theorem dX4_giveUp_1 : decode cX4_giveUp 1 = .ok (.iload_n 1, 1) := by decide +kernel
theorem dX4_giveUp_2 : decode cX4_giveUp 2 = .ok (.invokevirtual 81, 3) := by decide +kernel
theorem dX4_giveUp_5 : decode cX4_giveUp 5 = .ok (.ifCond .ne 5, 3) := by decide +kernel
theorem dX4_giveUp_8 : decode cX4_giveUp 8 = .ok (.iconst (-1), 1) := by decide +kernel
theorem dX4_giveUp_9 : decode cX4_giveUp 9 = .ok (.ireturn, 1) := by decide +kernel
theorem dX4_giveUp_10 : decode cX4_giveUp 10 = .ok (.aload_n 0, 1) := by decide +kernel
theorem dX4_giveUp_11 : decode cX4_giveUp 11 = .ok (.invokevirtual 55, 3) := by decide +kernel
theorem dX4_giveUp_14 : decode cX4_giveUp 14 = .ok (.iconst 0, 1) := by decide +kernel
theorem dX4_giveUp_15 : decode cX4_giveUp 15 = .ok (.istore_n 2, 1) := by decide +kernel
theorem dX4_giveUp_16 : decode cX4_giveUp 16 = .ok (.aload_n 0, 1) := by decide +kernel
theorem dX4_giveUp_17 : decode cX4_giveUp 17 = .ok (.getfield 7, 3) := by decide +kernel
theorem dX4_giveUp_20 : decode cX4_giveUp 20 = .ok (.sipush 650, 3) := by decide +kernel
theorem dX4_giveUp_23 : decode cX4_giveUp 23 = .ok (.iconst 2, 1) := by decide +kernel
theorem dX4_giveUp_24 : decode cX4_giveUp 24 = .ok (.iload_n 1, 1) := by decide +kernel
theorem dX4_giveUp_25 : decode cX4_giveUp 25 = .ok (.imul, 1) := by decide +kernel
theorem dX4_giveUp_26 : decode cX4_giveUp 26 = .ok (.iadd, 1) := by decide +kernel
theorem dX4_giveUp_27 : decode cX4_giveUp 27 = .ok (.iaload, 1) := by decide +kernel
theorem dX4_giveUp_28 : decode cX4_giveUp 28 = .ok (.istore_n 3, 1) := by decide +kernel
theorem dX4_giveUp_29 : decode cX4_giveUp 29 = .ok (.iload_n 3, 1) := by decide +kernel
theorem dX4_giveUp_30 : decode cX4_giveUp 30 = .ok (.istore 4, 2) := by decide +kernel
theorem dX4_giveUp_32 : decode cX4_giveUp 32 = .ok (.iload 4, 2) := by decide +kernel
theorem dX4_giveUp_34 : decode cX4_giveUp 34 = .ok (.iload_n 3, 1) := by decide +kernel
theorem dX4_giveUp_35 : decode cX4_giveUp 35 = .ok (.aload_n 0, 1) := by decide +kernel
theorem dX4_giveUp_36 : decode cX4_giveUp 36 = .ok (.getfield 7, 3) := by decide +kernel
theorem dX4_giveUp_39 : decode cX4_giveUp 39 = .ok (.sipush 650, 3) := by decide +kernel
theorem dX4_giveUp_42 : decode cX4_giveUp 42 = .ok (.iconst 2, 1) := by decide +kernel
theorem dX4_giveUp_43 : decode cX4_giveUp 43 = .ok (.iload_n 1, 1) := by decide +kernel
theorem dX4_giveUp_44 : decode cX4_giveUp 44 = .ok (.imul, 1) := by decide +kernel
theorem dX4_giveUp_45 : decode cX4_giveUp 45 = .ok (.iadd, 1) := by decide +kernel
theorem dX4_giveUp_46 : decode cX4_giveUp 46 = .ok (.iconst 1, 1) := by decide +kernel
theorem dX4_giveUp_47 : decode cX4_giveUp 47 = .ok (.iadd, 1) := by decide +kernel
theorem dX4_giveUp_48 : decode cX4_giveUp 48 = .ok (.iaload, 1) := by decide +kernel
theorem dX4_giveUp_49 : decode cX4_giveUp 49 = .ok (.iadd, 1) := by decide +kernel
theorem dX4_giveUp_50 : decode cX4_giveUp 50 = .ok (.if_icmp .ge 42, 3) := by decide +kernel
theorem dX4_giveUp_53 : decode cX4_giveUp 53 = .ok (.aload_n 0, 1) := by decide +kernel
theorem dX4_giveUp_54 : decode cX4_giveUp 54 = .ok (.getfield 7, 3) := by decide +kernel
theorem dX4_giveUp_57 : decode cX4_giveUp 57 = .ok (.sipush 320, 3) := by decide +kernel
theorem dX4_giveUp_60 : decode cX4_giveUp 60 = .ok (.iload 4, 2) := by decide +kernel
theorem dX4_giveUp_62 : decode cX4_giveUp 62 = .ok (.iadd, 1) := by decide +kernel
theorem dX4_giveUp_63 : decode cX4_giveUp 63 = .ok (.iconst 0, 1) := by decide +kernel
theorem dX4_giveUp_64 : decode cX4_giveUp 64 = .ok (.iastore, 1) := by decide +kernel
theorem dX4_giveUp_65 : decode cX4_giveUp 65 = .ok (.aload_n 0, 1) := by decide +kernel
theorem dX4_giveUp_66 : decode cX4_giveUp 66 = .ok (.getfield 7, 3) := by decide +kernel
theorem dX4_giveUp_69 : decode cX4_giveUp 69 = .ok (.iload 4, 2) := by decide +kernel
theorem dX4_giveUp_71 : decode cX4_giveUp 71 = .ok (.iaload, 1) := by decide +kernel
theorem dX4_giveUp_72 : decode cX4_giveUp 72 = .ok (.iconst 3, 1) := by decide +kernel
theorem dX4_giveUp_73 : decode cX4_giveUp 73 = .ok (.if_icmp .ne 13, 3) := by decide +kernel
theorem dX4_giveUp_76 : decode cX4_giveUp 76 = .ok (.aload_n 0, 1) := by decide +kernel
theorem dX4_giveUp_77 : decode cX4_giveUp 77 = .ok (.iload 4, 2) := by decide +kernel
theorem dX4_giveUp_79 : decode cX4_giveUp 79 = .ok (.iconst 0, 1) := by decide +kernel
theorem dX4_giveUp_80 : decode cX4_giveUp 80 = .ok (.invokevirtual 44, 3) := by decide +kernel
theorem dX4_giveUp_83 : decode cX4_giveUp 83 = .ok (.iinc 2 1, 3) := by decide +kernel
theorem dX4_giveUp_86 : decode cX4_giveUp 86 = .ok (.iinc 4 1, 3) := by decide +kernel
theorem dX4_giveUp_89 : decode cX4_giveUp 89 = .ok (.goto (-57), 3) := by decide +kernel
theorem dX4_giveUp_92 : decode cX4_giveUp 92 = .ok (.aload_n 0, 1) := by decide +kernel
theorem dX4_giveUp_93 : decode cX4_giveUp 93 = .ok (.getfield 7, 3) := by decide +kernel
theorem dX4_giveUp_96 : decode cX4_giveUp 96 = .ok (.sipush 650, 3) := by decide +kernel
theorem dX4_giveUp_99 : decode cX4_giveUp 99 = .ok (.iconst 2, 1) := by decide +kernel
theorem dX4_giveUp_100 : decode cX4_giveUp 100 = .ok (.iload_n 1, 1) := by decide +kernel
theorem dX4_giveUp_101 : decode cX4_giveUp 101 = .ok (.imul, 1) := by decide +kernel
theorem dX4_giveUp_102 : decode cX4_giveUp 102 = .ok (.iadd, 1) := by decide +kernel
theorem dX4_giveUp_103 : decode cX4_giveUp 103 = .ok (.iconst 0, 1) := by decide +kernel
theorem dX4_giveUp_104 : decode cX4_giveUp 104 = .ok (.iastore, 1) := by decide +kernel
theorem dX4_giveUp_105 : decode cX4_giveUp 105 = .ok (.aload_n 0, 1) := by decide +kernel
theorem dX4_giveUp_106 : decode cX4_giveUp 106 = .ok (.getfield 7, 3) := by decide +kernel
theorem dX4_giveUp_109 : decode cX4_giveUp 109 = .ok (.sipush 650, 3) := by decide +kernel
theorem dX4_giveUp_112 : decode cX4_giveUp 112 = .ok (.iconst 2, 1) := by decide +kernel
theorem dX4_giveUp_113 : decode cX4_giveUp 113 = .ok (.iload_n 1, 1) := by decide +kernel
theorem dX4_giveUp_114 : decode cX4_giveUp 114 = .ok (.imul, 1) := by decide +kernel
theorem dX4_giveUp_115 : decode cX4_giveUp 115 = .ok (.iadd, 1) := by decide +kernel
theorem dX4_giveUp_116 : decode cX4_giveUp 116 = .ok (.iconst 1, 1) := by decide +kernel
theorem dX4_giveUp_117 : decode cX4_giveUp 117 = .ok (.iadd, 1) := by decide +kernel
theorem dX4_giveUp_118 : decode cX4_giveUp 118 = .ok (.iconst 0, 1) := by decide +kernel
theorem dX4_giveUp_119 : decode cX4_giveUp 119 = .ok (.iastore, 1) := by decide +kernel
theorem dX4_giveUp_120 : decode cX4_giveUp 120 = .ok (.aload_n 0, 1) := by decide +kernel
theorem dX4_giveUp_121 : decode cX4_giveUp 121 = .ok (.iload_n 2, 1) := by decide +kernel
theorem dX4_giveUp_122 : decode cX4_giveUp 122 = .ok (.invokevirtual 61, 3) := by decide +kernel
theorem dX4_giveUp_125 : decode cX4_giveUp 125 = .ok (.ireturn, 1) := by decide +kernel
set_option maxRecDepth 20000 in
theorem ggX4_isWord_X4_in : GoodIn wsX4_isWord wsX4_in := goodIn_r _ [4] (by decide +kernel) (by decide +kernel)
set_option maxRecDepth 20000 in
theorem gX4_isWord_X4_in : GoodIn wsX4_isWord (va_wsS RX4 64 yX4_in wsX4_in) := goodIn_app (goodIn_of _ (by decide +kernel)) ggX4_isWord_X4_in
theorem dX4_isWord_0 : decode cX4_isWord 0 = .ok (.iload_n 0, 1) := by decide +kernel
theorem dX4_isWord_1 : decode cX4_isWord 1 = .ok (.iconst 0, 1) := by decide +kernel
theorem dX4_isWord_2 : decode cX4_isWord 2 = .ok (.bipush 9, 2) := by decide +kernel
theorem dX4_isWord_4 : decode cX4_isWord 4 = .ok (.invokestatic 64, 3) := by decide +kernel
theorem dX4_isWord_7 : decode cX4_isWord 7 = .ok (.ireturn, 1) := by decide +kernel
set_option maxRecDepth 20000 in
theorem ggX4_damages_X4_isWord : GoodIn wsX4_damages wsX4_isWord := goodIn_r _ [5, 6, 7, 4, 8] (by decide +kernel) (by decide +kernel)
set_option maxRecDepth 20000 in
theorem gX4_damages_X4_isWord : GoodIn wsX4_damages (va_wsS RX4 93 yX4_isWord wsX4_isWord) := goodIn_app (goodIn_of _ (by decide +kernel)) ggX4_damages_X4_isWord
theorem dX4_damages_0 : decode cX4_damages 0 = .ok (.iload_n 1, 1) := by decide +kernel
theorem dX4_damages_1 : decode cX4_damages 1 = .ok (.invokestatic 93, 3) := by decide +kernel
theorem dX4_damages_4 : decode cX4_damages 4 = .ok (.ifCond .ne 5, 3) := by decide +kernel
theorem dX4_damages_7 : decode cX4_damages 7 = .ok (.iconst (-1), 1) := by decide +kernel
theorem dX4_damages_8 : decode cX4_damages 8 = .ok (.ireturn, 1) := by decide +kernel
theorem dX4_damages_9 : decode cX4_damages 9 = .ok (.aload_n 0, 1) := by decide +kernel
theorem dX4_damages_10 : decode cX4_damages 10 = .ok (.getfield 7, 3) := by decide +kernel
theorem dX4_damages_13 : decode cX4_damages 13 = .ok (.sipush 640, 3) := by decide +kernel
theorem dX4_damages_16 : decode cX4_damages 16 = .ok (.iload_n 1, 1) := by decide +kernel
theorem dX4_damages_17 : decode cX4_damages 17 = .ok (.iadd, 1) := by decide +kernel
theorem dX4_damages_18 : decode cX4_damages 18 = .ok (.iconst 1, 1) := by decide +kernel
theorem dX4_damages_19 : decode cX4_damages 19 = .ok (.aload_n 0, 1) := by decide +kernel
theorem dX4_damages_20 : decode cX4_damages 20 = .ok (.getfield 7, 3) := by decide +kernel
theorem dX4_damages_23 : decode cX4_damages 23 = .ok (.sipush 640, 3) := by decide +kernel
theorem dX4_damages_26 : decode cX4_damages 26 = .ok (.iload_n 1, 1) := by decide +kernel
theorem dX4_damages_27 : decode cX4_damages 27 = .ok (.iadd, 1) := by decide +kernel
theorem dX4_damages_28 : decode cX4_damages 28 = .ok (.iaload, 1) := by decide +kernel
theorem dX4_damages_29 : decode cX4_damages 29 = .ok (.isub, 1) := by decide +kernel
theorem dX4_damages_30 : decode cX4_damages 30 = .ok (.iastore, 1) := by decide +kernel
theorem dX4_damages_31 : decode cX4_damages 31 = .ok (.aload_n 0, 1) := by decide +kernel
theorem dX4_damages_32 : decode cX4_damages 32 = .ok (.getfield 7, 3) := by decide +kernel
theorem dX4_damages_35 : decode cX4_damages 35 = .ok (.sipush 640, 3) := by decide +kernel
theorem dX4_damages_38 : decode cX4_damages 38 = .ok (.iload_n 1, 1) := by decide +kernel
theorem dX4_damages_39 : decode cX4_damages 39 = .ok (.iadd, 1) := by decide +kernel
theorem dX4_damages_40 : decode cX4_damages 40 = .ok (.iaload, 1) := by decide +kernel
theorem dX4_damages_41 : decode cX4_damages 41 = .ok (.ireturn, 1) := by decide +kernel
set_option maxRecDepth 20000 in
theorem ggX4_damage_X4_notes : GoodIn wsX4_damage wsX4_notes := goodIn_r _ [5, 6, 7, 8, 9, 4, 10, 27, 28, 29, 30, 31, 32, 33, 34] (by decide +kernel) (by decide +kernel)
set_option maxRecDepth 20000 in
theorem gX4_damage_X4_notes : GoodIn wsX4_damage (wsV RX4 55 RX4 yX4_notes wsX4_notes) := goodIn_app (goodIn_of _ (by decide +kernel)) ggX4_damage_X4_notes
set_option maxRecDepth 20000 in
theorem ggX4_damage_X4_damages : GoodIn wsX4_damage wsX4_damages := goodIn_r _ [14, 6, 15, 16, 4, 17, 18, 19, 20, 27, 28, 29, 30, 31, 32, 33, 34] (by decide +kernel) (by decide +kernel)
set_option maxRecDepth 20000 in
theorem gX4_damage_X4_damages : GoodIn wsX4_damage (wsV RX4 96 RX4 yX4_damages wsX4_damages) := goodIn_app (goodIn_of _ (by decide +kernel)) ggX4_damage_X4_damages
set_option maxRecDepth 20000 in
theorem ggX4_damage_X4_ends : GoodIn wsX4_damage wsX4_ends := goodIn_r _ [24, 7, 6, 25, 26, 8, 9, 4, 10, 27, 28, 29, 30, 31, 32, 33, 34] (by decide +kernel) (by decide +kernel)
set_option maxRecDepth 20000 in
theorem gX4_damage_X4_ends : GoodIn wsX4_damage (wsV RX4 61 RX4 yX4_ends wsX4_ends) := goodIn_app (goodIn_of _ (by decide +kernel)) ggX4_damage_X4_ends
theorem dX4_damage_0 : decode cX4_damage 0 = .ok (.aload_n 0, 1) := by decide +kernel
theorem dX4_damage_1 : decode cX4_damage 1 = .ok (.invokevirtual 55, 3) := by decide +kernel
theorem dX4_damage_4 : decode cX4_damage 4 = .ok (.aload_n 0, 1) := by decide +kernel
theorem dX4_damage_5 : decode cX4_damage 5 = .ok (.aload_n 0, 1) := by decide +kernel
theorem dX4_damage_6 : decode cX4_damage 6 = .ok (.iload_n 1, 1) := by decide +kernel
theorem dX4_damage_7 : decode cX4_damage 7 = .ok (.invokevirtual 96, 3) := by decide +kernel
theorem dX4_damage_10 : decode cX4_damage 10 = .ok (.invokevirtual 61, 3) := by decide +kernel
theorem dX4_damage_13 : decode cX4_damage 13 = .ok (.ireturn, 1) := by decide +kernel
set_option maxRecDepth 20000 in
theorem ggX4_repairs_X4_right : GoodIn wsX4_repairs wsX4_right := goodIn_r _ [6, 7, 8, 9, 5, 10, 1, 11, 12, 13, 14, 15, 16, 17, 18] (by decide +kernel) (by decide +kernel)
set_option maxRecDepth 20000 in
theorem gX4_repairs_X4_right : GoodIn wsX4_repairs (wsV RX4 37 RX4 yX4_right wsX4_right) := goodIn_app (goodIn_of _ (by decide +kernel)) ggX4_repairs_X4_right
theorem dX4_repairs_0 : decode cX4_repairs 0 = .ok (.iconst 0, 1) := by decide +kernel
theorem dX4_repairs_1 : decode cX4_repairs 1 = .ok (.istore_n 1, 1) := by decide +kernel
theorem dX4_repairs_2 : decode cX4_repairs 2 = .ok (.iconst 0, 1) := by decide +kernel
theorem dX4_repairs_3 : decode cX4_repairs 3 = .ok (.istore_n 2, 1) := by decide +kernel
theorem dX4_repairs_4 : decode cX4_repairs 4 = .ok (.iload_n 2, 1) := by decide +kernel
theorem dX4_repairs_5 : decode cX4_repairs 5 = .ok (.bipush 10, 2) := by decide +kernel
theorem dX4_repairs_7 : decode cX4_repairs 7 = .ok (.if_icmp .ge 50, 3) := by decide +kernel
theorem dX4_repairs_10 : decode cX4_repairs 10 = .ok (.iload_n 1, 1) := by decide +kernel
theorem dX4_repairs_11 : decode cX4_repairs 11 = .ok (.aload_n 0, 1) := by decide +kernel
theorem dX4_repairs_12 : decode cX4_repairs 12 = .ok (.getfield 7, 3) := by decide +kernel
theorem dX4_repairs_15 : decode cX4_repairs 15 = .ok (.sipush 640, 3) := by decide +kernel
theorem dX4_repairs_18 : decode cX4_repairs 18 = .ok (.iload_n 2, 1) := by decide +kernel
theorem dX4_repairs_19 : decode cX4_repairs 19 = .ok (.iadd, 1) := by decide +kernel
theorem dX4_repairs_20 : decode cX4_repairs 20 = .ok (.iaload, 1) := by decide +kernel
theorem dX4_repairs_21 : decode cX4_repairs 21 = .ok (.aload_n 0, 1) := by decide +kernel
theorem dX4_repairs_22 : decode cX4_repairs 22 = .ok (.iload_n 2, 1) := by decide +kernel
theorem dX4_repairs_23 : decode cX4_repairs 23 = .ok (.invokevirtual 37, 3) := by decide +kernel
theorem dX4_repairs_26 : decode cX4_repairs 26 = .ok (.if_icmp .eq 7, 3) := by decide +kernel
theorem dX4_repairs_29 : decode cX4_repairs 29 = .ok (.iconst 1, 1) := by decide +kernel
theorem dX4_repairs_30 : decode cX4_repairs 30 = .ok (.goto 4, 3) := by decide +kernel
theorem dX4_repairs_33 : decode cX4_repairs 33 = .ok (.iconst 0, 1) := by decide +kernel
theorem dX4_repairs_34 : decode cX4_repairs 34 = .ok (.iadd, 1) := by decide +kernel
theorem dX4_repairs_35 : decode cX4_repairs 35 = .ok (.istore_n 1, 1) := by decide +kernel
theorem dX4_repairs_36 : decode cX4_repairs 36 = .ok (.aload_n 0, 1) := by decide +kernel
theorem dX4_repairs_37 : decode cX4_repairs 37 = .ok (.getfield 7, 3) := by decide +kernel
theorem dX4_repairs_40 : decode cX4_repairs 40 = .ok (.sipush 640, 3) := by decide +kernel
theorem dX4_repairs_43 : decode cX4_repairs 43 = .ok (.iload_n 2, 1) := by decide +kernel
theorem dX4_repairs_44 : decode cX4_repairs 44 = .ok (.iadd, 1) := by decide +kernel
theorem dX4_repairs_45 : decode cX4_repairs 45 = .ok (.aload_n 0, 1) := by decide +kernel
theorem dX4_repairs_46 : decode cX4_repairs 46 = .ok (.iload_n 2, 1) := by decide +kernel
theorem dX4_repairs_47 : decode cX4_repairs 47 = .ok (.invokevirtual 37, 3) := by decide +kernel
theorem dX4_repairs_50 : decode cX4_repairs 50 = .ok (.iastore, 1) := by decide +kernel
theorem dX4_repairs_51 : decode cX4_repairs 51 = .ok (.iinc 2 1, 3) := by decide +kernel
theorem dX4_repairs_54 : decode cX4_repairs 54 = .ok (.goto (-50), 3) := by decide +kernel
theorem dX4_repairs_57 : decode cX4_repairs 57 = .ok (.iload_n 1, 1) := by decide +kernel
theorem dX4_repairs_58 : decode cX4_repairs 58 = .ok (.ireturn, 1) := by decide +kernel
set_option maxRecDepth 20000 in
theorem ggX4_repair_X4_notes : GoodIn wsX4_repair wsX4_notes := goodIn_r _ [5, 6, 7, 8, 9, 4, 10, 29, 30, 31, 32, 33, 34, 35, 36] (by decide +kernel) (by decide +kernel)
set_option maxRecDepth 20000 in
theorem gX4_repair_X4_notes : GoodIn wsX4_repair (wsV RX4 55 RX4 yX4_notes wsX4_notes) := goodIn_app (goodIn_of _ (by decide +kernel)) ggX4_repair_X4_notes
set_option maxRecDepth 20000 in
theorem ggX4_repair_X4_repairs : GoodIn wsX4_repair wsX4_repairs := goodIn_r _ [14, 6, 15, 16, 17, 4, 18, 19, 20, 21, 22, 29, 30, 31, 32, 33, 34, 35, 36] (by decide +kernel) (by decide +kernel)
set_option maxRecDepth 20000 in
theorem gX4_repair_X4_repairs : GoodIn wsX4_repair (wsV RX4 99 RX4 yX4_repairs wsX4_repairs) := goodIn_app (goodIn_of _ (by decide +kernel)) ggX4_repair_X4_repairs
set_option maxRecDepth 20000 in
theorem ggX4_repair_X4_ends : GoodIn wsX4_repair wsX4_ends := goodIn_r _ [26, 7, 6, 27, 28, 8, 9, 4, 10, 29, 30, 31, 32, 33, 34, 35, 36] (by decide +kernel) (by decide +kernel)
set_option maxRecDepth 20000 in
theorem gX4_repair_X4_ends : GoodIn wsX4_repair (wsV RX4 61 RX4 yX4_ends wsX4_ends) := goodIn_app (goodIn_of _ (by decide +kernel)) ggX4_repair_X4_ends
theorem dX4_repair_0 : decode cX4_repair 0 = .ok (.aload_n 0, 1) := by decide +kernel
theorem dX4_repair_1 : decode cX4_repair 1 = .ok (.invokevirtual 55, 3) := by decide +kernel
theorem dX4_repair_4 : decode cX4_repair 4 = .ok (.aload_n 0, 1) := by decide +kernel
theorem dX4_repair_5 : decode cX4_repair 5 = .ok (.aload_n 0, 1) := by decide +kernel
theorem dX4_repair_6 : decode cX4_repair 6 = .ok (.invokevirtual 99, 3) := by decide +kernel
theorem dX4_repair_9 : decode cX4_repair 9 = .ok (.invokevirtual 61, 3) := by decide +kernel
theorem dX4_repair_12 : decode cX4_repair 12 = .ok (.ireturn, 1) := by decide +kernel
set_option maxRecDepth 20000 in
theorem ggX4_undo_X4_copies : GoodIn wsX4_undo wsX4_copies := goodIn_r _ [7] (by decide +kernel) (by decide +kernel)
set_option maxRecDepth 20000 in
theorem gX4_undo_X4_copies : GoodIn wsX4_undo (va_wsS RX4 25 yX4_copies wsX4_copies) := goodIn_app (goodIn_of _ (by decide +kernel)) ggX4_undo_X4_copies
theorem dX4_undo_0 : decode cX4_undo 0 = .ok (.aload_n 0, 1) := by decide +kernel
theorem dX4_undo_1 : decode cX4_undo 1 = .ok (.getfield 29, 3) := by decide +kernel
theorem dX4_undo_4 : decode cX4_undo 4 = .ok (.ifCond .ne 6, 3) := by decide +kernel
theorem dX4_undo_7 : decode cX4_undo 7 = .ok (.bipush (-2), 2) := by decide +kernel
theorem dX4_undo_9 : decode cX4_undo 9 = .ok (.ireturn, 1) := by decide +kernel
theorem dX4_undo_10 : decode cX4_undo 10 = .ok (.aload_n 0, 1) := by decide +kernel
theorem dX4_undo_11 : decode cX4_undo 11 = .ok (.dup, 1) := by decide +kernel
theorem dX4_undo_12 : decode cX4_undo 12 = .ok (.getfield 29, 3) := by decide +kernel
theorem dX4_undo_15 : decode cX4_undo 15 = .ok (.iconst 1, 1) := by decide +kernel
theorem dX4_undo_16 : decode cX4_undo 16 = .ok (.isub, 1) := by decide +kernel
theorem dX4_undo_17 : decode cX4_undo 17 = .ok (.putfield 29, 3) := by decide +kernel
theorem dX4_undo_20 : decode cX4_undo 20 = .ok (.aload_n 0, 1) := by decide +kernel
theorem dX4_undo_21 : decode cX4_undo 21 = .ok (.getfield 13, 3) := by decide +kernel
theorem dX4_undo_24 : decode cX4_undo 24 = .ok (.aload_n 0, 1) := by decide +kernel
theorem dX4_undo_25 : decode cX4_undo 25 = .ok (.getfield 29, 3) := by decide +kernel
theorem dX4_undo_28 : decode cX4_undo 28 = .ok (.sipush 667, 3) := by decide +kernel
theorem dX4_undo_31 : decode cX4_undo 31 = .ok (.imul, 1) := by decide +kernel
theorem dX4_undo_32 : decode cX4_undo 32 = .ok (.aload_n 0, 1) := by decide +kernel
theorem dX4_undo_33 : decode cX4_undo 33 = .ok (.getfield 7, 3) := by decide +kernel
theorem dX4_undo_36 : decode cX4_undo 36 = .ok (.iconst 0, 1) := by decide +kernel
theorem dX4_undo_37 : decode cX4_undo 37 = .ok (.invokestatic 25, 3) := by decide +kernel
theorem dX4_undo_40 : decode cX4_undo 40 = .ok (.aload_n 0, 1) := by decide +kernel
theorem dX4_undo_41 : decode cX4_undo 41 = .ok (.getfield 29, 3) := by decide +kernel
theorem dX4_undo_44 : decode cX4_undo 44 = .ok (.ireturn, 1) := by decide +kernel
set_option maxRecDepth 20000 in
theorem ggX4_append_X4_in : GoodIn wsX4_append wsX4_in := goodIn_r _ [6] (by decide +kernel) (by decide +kernel)
set_option maxRecDepth 20000 in
theorem gX4_append_X4_in : GoodIn wsX4_append (va_wsS RX4 64 yX4_in wsX4_in) := goodIn_app (goodIn_of _ (by decide +kernel)) ggX4_append_X4_in
theorem dX4_append_0 : decode cX4_append 0 = .ok (.iload_n 1, 1) := by decide +kernel
theorem dX4_append_1 : decode cX4_append 1 = .ok (.iconst 1, 1) := by decide +kernel
theorem dX4_append_2 : decode cX4_append 2 = .ok (.sipush 255, 3) := by decide +kernel
theorem dX4_append_5 : decode cX4_append 5 = .ok (.invokestatic 64, 3) := by decide +kernel
theorem dX4_append_8 : decode cX4_append 8 = .ok (.ifCond .ne 5, 3) := by decide +kernel
theorem dX4_append_11 : decode cX4_append 11 = .ok (.iconst (-1), 1) := by decide +kernel
theorem dX4_append_12 : decode cX4_append 12 = .ok (.ireturn, 1) := by decide +kernel
theorem dX4_append_13 : decode cX4_append 13 = .ok (.aload_n 0, 1) := by decide +kernel
theorem dX4_append_14 : decode cX4_append 14 = .ok (.getfield 102, 3) := by decide +kernel
theorem dX4_append_17 : decode cX4_append 17 = .ok (.bipush 80, 2) := by decide +kernel
theorem dX4_append_19 : decode cX4_append 19 = .ok (.if_icmp .ne 6, 3) := by decide +kernel
theorem dX4_append_22 : decode cX4_append 22 = .ok (.bipush (-3), 2) := by decide +kernel
theorem dX4_append_24 : decode cX4_append 24 = .ok (.ireturn, 1) := by decide +kernel
theorem dX4_append_25 : decode cX4_append 25 = .ok (.aload_n 0, 1) := by decide +kernel
theorem dX4_append_26 : decode cX4_append 26 = .ok (.getfield 22, 3) := by decide +kernel
theorem dX4_append_29 : decode cX4_append 29 = .ok (.aload_n 0, 1) := by decide +kernel
theorem dX4_append_30 : decode cX4_append 30 = .ok (.getfield 102, 3) := by decide +kernel
theorem dX4_append_33 : decode cX4_append 33 = .ok (.iload_n 1, 1) := by decide +kernel
theorem dX4_append_34 : decode cX4_append 34 = .ok (.iastore, 1) := by decide +kernel
theorem dX4_append_35 : decode cX4_append 35 = .ok (.aload_n 0, 1) := by decide +kernel
theorem dX4_append_36 : decode cX4_append 36 = .ok (.dup, 1) := by decide +kernel
theorem dX4_append_37 : decode cX4_append 37 = .ok (.getfield 102, 3) := by decide +kernel
theorem dX4_append_40 : decode cX4_append 40 = .ok (.iconst 1, 1) := by decide +kernel
theorem dX4_append_41 : decode cX4_append 41 = .ok (.iadd, 1) := by decide +kernel
theorem dX4_append_42 : decode cX4_append 42 = .ok (.putfield 102, 3) := by decide +kernel
theorem dX4_append_45 : decode cX4_append 45 = .ok (.aload_n 0, 1) := by decide +kernel
theorem dX4_append_46 : decode cX4_append 46 = .ok (.getfield 102, 3) := by decide +kernel
theorem dX4_append_49 : decode cX4_append 49 = .ok (.ireturn, 1) := by decide +kernel
theorem dX4_clearText_0 : decode cX4_clearText 0 = .ok (.aload_n 0, 1) := by decide +kernel
theorem dX4_clearText_1 : decode cX4_clearText 1 = .ok (.getfield 102, 3) := by decide +kernel
theorem dX4_clearText_4 : decode cX4_clearText 4 = .ok (.istore_n 1, 1) := by decide +kernel
theorem dX4_clearText_5 : decode cX4_clearText 5 = .ok (.aload_n 0, 1) := by decide +kernel
theorem dX4_clearText_6 : decode cX4_clearText 6 = .ok (.iconst 0, 1) := by decide +kernel
theorem dX4_clearText_7 : decode cX4_clearText 7 = .ok (.putfield 102, 3) := by decide +kernel
theorem dX4_clearText_10 : decode cX4_clearText 10 = .ok (.iload_n 1, 1) := by decide +kernel
theorem dX4_clearText_11 : decode cX4_clearText 11 = .ok (.ireturn, 1) := by decide +kernel
theorem dX4_signAt_0 : decode cX4_signAt 0 = .ok (.iload_n 1, 1) := by decide +kernel
theorem dX4_signAt_1 : decode cX4_signAt 1 = .ok (.aload_n 0, 1) := by decide +kernel
theorem dX4_signAt_2 : decode cX4_signAt 2 = .ok (.getfield 102, 3) := by decide +kernel
theorem dX4_signAt_5 : decode cX4_signAt 5 = .ok (.if_icmp .ge 12, 3) := by decide +kernel
theorem dX4_signAt_8 : decode cX4_signAt 8 = .ok (.aload_n 0, 1) := by decide +kernel
theorem dX4_signAt_9 : decode cX4_signAt 9 = .ok (.getfield 22, 3) := by decide +kernel
theorem dX4_signAt_12 : decode cX4_signAt 12 = .ok (.iload_n 1, 1) := by decide +kernel
theorem dX4_signAt_13 : decode cX4_signAt 13 = .ok (.iaload, 1) := by decide +kernel
theorem dX4_signAt_14 : decode cX4_signAt 14 = .ok (.goto 4, 3) := by decide +kernel
theorem dX4_signAt_17 : decode cX4_signAt 17 = .ok (.iconst 0, 1) := by decide +kernel
theorem dX4_signAt_18 : decode cX4_signAt 18 = .ok (.ireturn, 1) := by decide +kernel
set_option maxRecDepth 20000 in
theorem ggX4_isDigit_X4_signAt : GoodIn wsX4_isDigit wsX4_signAt := goodIn_r _ [6, 7, 8, 12, 13, 14, 15, 16, 17, 18, 19] (by decide +kernel) (by decide +kernel)
set_option maxRecDepth 20000 in
theorem gX4_isDigit_X4_signAt : GoodIn wsX4_isDigit (wsV RX4 108 RX4 yX4_signAt wsX4_signAt) := goodIn_app (goodIn_of _ (by decide +kernel)) ggX4_isDigit_X4_signAt
set_option maxRecDepth 20000 in
theorem ggX4_isDigit_X4_in : GoodIn wsX4_isDigit wsX4_in := goodIn_r _ [11] (by decide +kernel) (by decide +kernel)
set_option maxRecDepth 20000 in
theorem gX4_isDigit_X4_in : GoodIn wsX4_isDigit (va_wsS RX4 64 yX4_in wsX4_in) := goodIn_app (goodIn_of _ (by decide +kernel)) ggX4_isDigit_X4_in
theorem dX4_isDigit_0 : decode cX4_isDigit 0 = .ok (.aload_n 0, 1) := by decide +kernel
theorem dX4_isDigit_1 : decode cX4_isDigit 1 = .ok (.aload_n 0, 1) := by decide +kernel
theorem dX4_isDigit_2 : decode cX4_isDigit 2 = .ok (.getfield 105, 3) := by decide +kernel
theorem dX4_isDigit_5 : decode cX4_isDigit 5 = .ok (.invokevirtual 108, 3) := by decide +kernel
theorem dX4_isDigit_8 : decode cX4_isDigit 8 = .ok (.bipush 48, 2) := by decide +kernel
theorem dX4_isDigit_10 : decode cX4_isDigit 10 = .ok (.bipush 57, 2) := by decide +kernel
theorem dX4_isDigit_12 : decode cX4_isDigit 12 = .ok (.invokestatic 64, 3) := by decide +kernel
theorem dX4_isDigit_15 : decode cX4_isDigit 15 = .ok (.ireturn, 1) := by decide +kernel
set_option maxRecDepth 20000 in
theorem ggX4_number_X4_signAt : GoodIn wsX4_number wsX4_signAt := goodIn_r _ [6, 7, 8, 16, 17, 18, 19, 20, 21, 22, 23] (by decide +kernel) (by decide +kernel)
set_option maxRecDepth 20000 in
theorem gX4_number_X4_signAt : GoodIn wsX4_number (wsV RX4 108 RX4 yX4_signAt wsX4_signAt) := goodIn_app (goodIn_of _ (by decide +kernel)) ggX4_number_X4_signAt
set_option maxRecDepth 20000 in
theorem ggX4_number_X4_isDigit : GoodIn wsX4_number wsX4_isDigit := goodIn_r _ [12, 1, 2, 3, 4, 5, 6, 7, 8, 13, 14, 15, 16, 17, 18, 19, 20, 21, 22, 23] (by decide +kernel) (by decide +kernel)
set_option maxRecDepth 20000 in
theorem gX4_number_X4_isDigit : GoodIn wsX4_number (wsV RX4 111 RX4 yX4_isDigit wsX4_isDigit) := goodIn_app (goodIn_of _ (by decide +kernel)) ggX4_number_X4_isDigit
theorem dX4_number_0 : decode cX4_number 0 = .ok (.aload_n 0, 1) := by decide +kernel
theorem dX4_number_1 : decode cX4_number 1 = .ok (.aload_n 0, 1) := by decide +kernel
theorem dX4_number_2 : decode cX4_number 2 = .ok (.getfield 105, 3) := by decide +kernel
theorem dX4_number_5 : decode cX4_number 5 = .ok (.invokevirtual 108, 3) := by decide +kernel
theorem dX4_number_8 : decode cX4_number 8 = .ok (.bipush 48, 2) := by decide +kernel
theorem dX4_number_10 : decode cX4_number 10 = .ok (.isub, 1) := by decide +kernel
theorem dX4_number_11 : decode cX4_number 11 = .ok (.istore_n 1, 1) := by decide +kernel
theorem dX4_number_12 : decode cX4_number 12 = .ok (.aload_n 0, 1) := by decide +kernel
theorem dX4_number_13 : decode cX4_number 13 = .ok (.dup, 1) := by decide +kernel
theorem dX4_number_14 : decode cX4_number 14 = .ok (.getfield 105, 3) := by decide +kernel
theorem dX4_number_17 : decode cX4_number 17 = .ok (.iconst 1, 1) := by decide +kernel
theorem dX4_number_18 : decode cX4_number 18 = .ok (.iadd, 1) := by decide +kernel
theorem dX4_number_19 : decode cX4_number 19 = .ok (.putfield 105, 3) := by decide +kernel
theorem dX4_number_22 : decode cX4_number 22 = .ok (.iconst 0, 1) := by decide +kernel
theorem dX4_number_23 : decode cX4_number 23 = .ok (.istore_n 2, 1) := by decide +kernel
theorem dX4_number_24 : decode cX4_number 24 = .ok (.iload_n 2, 1) := by decide +kernel
theorem dX4_number_25 : decode cX4_number 25 = .ok (.iconst 2, 1) := by decide +kernel
theorem dX4_number_26 : decode cX4_number 26 = .ok (.if_icmp .ge 47, 3) := by decide +kernel
theorem dX4_number_29 : decode cX4_number 29 = .ok (.iload_n 1, 1) := by decide +kernel
theorem dX4_number_30 : decode cX4_number 30 = .ok (.ifCond .le 43, 3) := by decide +kernel
theorem dX4_number_33 : decode cX4_number 33 = .ok (.aload_n 0, 1) := by decide +kernel
theorem dX4_number_34 : decode cX4_number 34 = .ok (.invokevirtual 111, 3) := by decide +kernel
theorem dX4_number_37 : decode cX4_number 37 = .ok (.ifCond .eq 36, 3) := by decide +kernel
theorem dX4_number_40 : decode cX4_number 40 = .ok (.bipush 10, 2) := by decide +kernel
theorem dX4_number_42 : decode cX4_number 42 = .ok (.iload_n 1, 1) := by decide +kernel
theorem dX4_number_43 : decode cX4_number 43 = .ok (.imul, 1) := by decide +kernel
theorem dX4_number_44 : decode cX4_number 44 = .ok (.aload_n 0, 1) := by decide +kernel
theorem dX4_number_45 : decode cX4_number 45 = .ok (.aload_n 0, 1) := by decide +kernel
theorem dX4_number_46 : decode cX4_number 46 = .ok (.getfield 105, 3) := by decide +kernel
theorem dX4_number_49 : decode cX4_number 49 = .ok (.invokevirtual 108, 3) := by decide +kernel
theorem dX4_number_52 : decode cX4_number 52 = .ok (.iadd, 1) := by decide +kernel
theorem dX4_number_53 : decode cX4_number 53 = .ok (.bipush 48, 2) := by decide +kernel
theorem dX4_number_55 : decode cX4_number 55 = .ok (.isub, 1) := by decide +kernel
theorem dX4_number_56 : decode cX4_number 56 = .ok (.istore_n 1, 1) := by decide +kernel
theorem dX4_number_57 : decode cX4_number 57 = .ok (.aload_n 0, 1) := by decide +kernel
theorem dX4_number_58 : decode cX4_number 58 = .ok (.dup, 1) := by decide +kernel
theorem dX4_number_59 : decode cX4_number 59 = .ok (.getfield 105, 3) := by decide +kernel
theorem dX4_number_62 : decode cX4_number 62 = .ok (.iconst 1, 1) := by decide +kernel
theorem dX4_number_63 : decode cX4_number 63 = .ok (.iadd, 1) := by decide +kernel
theorem dX4_number_64 : decode cX4_number 64 = .ok (.putfield 105, 3) := by decide +kernel
theorem dX4_number_67 : decode cX4_number 67 = .ok (.iinc 2 1, 3) := by decide +kernel
theorem dX4_number_70 : decode cX4_number 70 = .ok (.goto (-46), 3) := by decide +kernel
theorem dX4_number_73 : decode cX4_number 73 = .ok (.iload_n 1, 1) := by decide +kernel
theorem dX4_number_74 : decode cX4_number 74 = .ok (.ireturn, 1) := by decide +kernel
set_option maxRecDepth 20000 in
theorem ggX4_takesMany_X4_in : GoodIn wsX4_takesMany wsX4_in := goodIn_r _ [4] (by decide +kernel) (by decide +kernel)
set_option maxRecDepth 20000 in
theorem gX4_takesMany_X4_in : GoodIn wsX4_takesMany (va_wsS RX4 64 yX4_in wsX4_in) := goodIn_app (goodIn_of _ (by decide +kernel)) ggX4_takesMany_X4_in
set_option maxRecDepth 20000 in
theorem ggX4_takesMany_X4_takes1 : GoodIn wsX4_takesMany wsX4_takes1 := goodIn_r _ [8, 9, 10, 11, 3, 12, 13, 14, 15, 16, 17, 18, 19, 20, 21, 22, 23, 24, 25, 26, 27, 28, 29, 30, 31, 32, 33, 34, 35, 36, 37, 38, 39, 40, 41] (by decide +kernel) (by decide +kernel)
set_option maxRecDepth 20000 in
theorem gX4_takesMany_X4_takes1 : GoodIn wsX4_takesMany (wsV RX4 58 RX4 yX4_takes1 wsX4_takes1) := goodIn_app (goodIn_of _ (by decide +kernel)) ggX4_takesMany_X4_takes1
theorem dX4_takesMany_0 : decode cX4_takesMany 0 = .ok (.iload_n 1, 1) := by decide +kernel
theorem dX4_takesMany_1 : decode cX4_takesMany 1 = .ok (.iconst 1, 1) := by decide +kernel
theorem dX4_takesMany_2 : decode cX4_takesMany 2 = .ok (.sipush 320, 3) := by decide +kernel
theorem dX4_takesMany_5 : decode cX4_takesMany 5 = .ok (.invokestatic 64, 3) := by decide +kernel
theorem dX4_takesMany_8 : decode cX4_takesMany 8 = .ok (.ifCond .ne 5, 3) := by decide +kernel
theorem dX4_takesMany_11 : decode cX4_takesMany 11 = .ok (.iconst (-1), 1) := by decide +kernel
theorem dX4_takesMany_12 : decode cX4_takesMany 12 = .ok (.ireturn, 1) := by decide +kernel
theorem dX4_takesMany_13 : decode cX4_takesMany 13 = .ok (.iconst 0, 1) := by decide +kernel
theorem dX4_takesMany_14 : decode cX4_takesMany 14 = .ok (.istore_n 2, 1) := by decide +kernel
theorem dX4_takesMany_15 : decode cX4_takesMany 15 = .ok (.iconst 0, 1) := by decide +kernel
theorem dX4_takesMany_16 : decode cX4_takesMany 16 = .ok (.istore_n 3, 1) := by decide +kernel
theorem dX4_takesMany_17 : decode cX4_takesMany 17 = .ok (.iload_n 3, 1) := by decide +kernel
theorem dX4_takesMany_18 : decode cX4_takesMany 18 = .ok (.iload_n 1, 1) := by decide +kernel
theorem dX4_takesMany_19 : decode cX4_takesMany 19 = .ok (.if_icmp .ge 18, 3) := by decide +kernel
theorem dX4_takesMany_22 : decode cX4_takesMany 22 = .ok (.iload_n 2, 1) := by decide +kernel
theorem dX4_takesMany_23 : decode cX4_takesMany 23 = .ok (.ifCond .lt 14, 3) := by decide +kernel
theorem dX4_takesMany_26 : decode cX4_takesMany 26 = .ok (.aload_n 0, 1) := by decide +kernel
theorem dX4_takesMany_27 : decode cX4_takesMany 27 = .ok (.invokevirtual 58, 3) := by decide +kernel
theorem dX4_takesMany_30 : decode cX4_takesMany 30 = .ok (.istore_n 2, 1) := by decide +kernel
theorem dX4_takesMany_31 : decode cX4_takesMany 31 = .ok (.iinc 3 1, 3) := by decide +kernel
theorem dX4_takesMany_34 : decode cX4_takesMany 34 = .ok (.goto (-17), 3) := by decide +kernel
theorem dX4_takesMany_37 : decode cX4_takesMany 37 = .ok (.iload_n 2, 1) := by decide +kernel
theorem dX4_takesMany_38 : decode cX4_takesMany 38 = .ok (.ireturn, 1) := by decide +kernel
set_option maxRecDepth 20000 in
theorem ggX4_does_X4_takesMany : GoodIn wsX4_does wsX4_takesMany := goodIn_r _ [5, 6, 7, 4, 8, 9, 10, 11, 12, 13, 14, 15, 16, 17, 18, 19, 20, 21, 22, 23, 24, 25, 26, 27, 28, 29, 30, 31, 32, 33, 34, 35, 36, 37, 76, 77, 78, 79, 80, 81, 82, 83] (by decide +kernel) (by decide +kernel)
set_option maxRecDepth 20000 in
theorem gX4_does_X4_takesMany : GoodIn wsX4_does (wsV RX4 115 RX4 yX4_takesMany wsX4_takesMany) := goodIn_app (goodIn_of _ (by decide +kernel)) ggX4_does_X4_takesMany
set_option maxRecDepth 20000 in
theorem ggX4_does_X4_givesBack : GoodIn wsX4_does wsX4_givesBack := goodIn_r _ [41, 17, 6, 7, 4, 8, 22, 23, 24, 25, 26, 27, 28, 29, 30, 31, 32, 33, 76, 77, 78, 79, 80, 81, 82, 83] (by decide +kernel) (by decide +kernel)
set_option maxRecDepth 20000 in
theorem gX4_does_X4_givesBack : GoodIn wsX4_does (wsV RX4 71 RX4 yX4_givesBack wsX4_givesBack) := goodIn_app (goodIn_of _ (by decide +kernel)) ggX4_does_X4_givesBack
set_option maxRecDepth 20000 in
theorem ggX4_does_X4_clearsSome : GoodIn wsX4_does wsX4_clearsSome := goodIn_r _ [45, 6, 7, 4, 8, 34, 35, 36, 37, 17, 30, 31, 32, 33, 22, 23, 24, 25, 26, 27, 28, 29, 76, 77, 78, 79, 80, 81, 82, 83] (by decide +kernel) (by decide +kernel)
set_option maxRecDepth 20000 in
theorem gX4_does_X4_clearsSome : GoodIn wsX4_does (wsV RX4 74 RX4 yX4_clearsSome wsX4_clearsSome) := goodIn_app (goodIn_of _ (by decide +kernel)) ggX4_does_X4_clearsSome
set_option maxRecDepth 20000 in
theorem ggX4_does_X4_reserves : GoodIn wsX4_does wsX4_reserves := goodIn_r _ [49, 17, 50, 51, 4, 52, 53, 54, 55, 56, 6, 7, 8, 57, 58, 59, 60, 22, 23, 24, 25, 26, 27, 28, 29, 30, 31, 32, 33, 76, 77, 78, 79, 80, 81, 82, 83] (by decide +kernel) (by decide +kernel)
set_option maxRecDepth 20000 in
theorem gX4_does_X4_reserves : GoodIn wsX4_does (wsV RX4 87 RX4 yX4_reserves wsX4_reserves) := goodIn_app (goodIn_of _ (by decide +kernel)) ggX4_does_X4_reserves
set_option maxRecDepth 20000 in
theorem ggX4_does_X4_takesIn : GoodIn wsX4_does wsX4_takesIn := goodIn_r _ [64, 17, 53, 54, 55, 4, 56, 6, 7, 8, 22, 23, 24, 25, 26, 27, 28, 29, 30, 31, 32, 33, 76, 77, 78, 79, 80, 81, 82, 83] (by decide +kernel) (by decide +kernel)
set_option maxRecDepth 20000 in
theorem gX4_does_X4_takesIn : GoodIn wsX4_does (wsV RX4 90 RX4 yX4_takesIn wsX4_takesIn) := goodIn_app (goodIn_of _ (by decide +kernel)) ggX4_does_X4_takesIn
set_option maxRecDepth 20000 in
theorem ggX4_does_X4_damages : GoodIn wsX4_does wsX4_damages := goodIn_r _ [68, 17, 69, 70, 4, 71, 6, 7, 8, 76, 77, 78, 79, 80, 81, 82, 83] (by decide +kernel) (by decide +kernel)
set_option maxRecDepth 20000 in
theorem gX4_does_X4_damages : GoodIn wsX4_does (wsV RX4 96 RX4 yX4_damages wsX4_damages) := goodIn_app (goodIn_of _ (by decide +kernel)) ggX4_does_X4_damages
set_option maxRecDepth 20000 in
theorem ggX4_does_X4_repairs : GoodIn wsX4_does wsX4_repairs := goodIn_r _ [75, 17, 26, 27, 28, 4, 29, 30, 31, 32, 33, 76, 77, 78, 79, 80, 81, 82, 83] (by decide +kernel) (by decide +kernel)
set_option maxRecDepth 20000 in
theorem gX4_does_X4_repairs : GoodIn wsX4_does (wsV RX4 99 RX4 yX4_repairs wsX4_repairs) := goodIn_app (goodIn_of _ (by decide +kernel)) ggX4_does_X4_repairs
theorem dX4_does_0 : decode cX4_does 0 = .ok (.iload_n 1, 1) := by decide +kernel
theorem dX4_does_1 : decode cX4_does 1 = .ok (.tableswitch 128 98 116 #[116, 104, 122, 128, 97, 128, 128, 128, 128, 128, 128, 128, 128, 128, 128, 128, 110, 128, 91], 91) := by decide +kernel
theorem dX4_does_92 : decode cX4_does 92 = .ok (.aload_n 0, 1) := by decide +kernel
theorem dX4_does_93 : decode cX4_does 93 = .ok (.iload_n 2, 1) := by decide +kernel
theorem dX4_does_94 : decode cX4_does 94 = .ok (.invokevirtual 115, 3) := by decide +kernel
theorem dX4_does_97 : decode cX4_does 97 = .ok (.ireturn, 1) := by decide +kernel
theorem dX4_does_98 : decode cX4_does 98 = .ok (.aload_n 0, 1) := by decide +kernel
theorem dX4_does_99 : decode cX4_does 99 = .ok (.iload_n 2, 1) := by decide +kernel
theorem dX4_does_100 : decode cX4_does 100 = .ok (.iload_n 3, 1) := by decide +kernel
theorem dX4_does_101 : decode cX4_does 101 = .ok (.invokevirtual 71, 3) := by decide +kernel
theorem dX4_does_104 : decode cX4_does 104 = .ok (.ireturn, 1) := by decide +kernel
theorem dX4_does_105 : decode cX4_does 105 = .ok (.aload_n 0, 1) := by decide +kernel
theorem dX4_does_106 : decode cX4_does 106 = .ok (.iload_n 2, 1) := by decide +kernel
theorem dX4_does_107 : decode cX4_does 107 = .ok (.invokevirtual 74, 3) := by decide +kernel
theorem dX4_does_110 : decode cX4_does 110 = .ok (.ireturn, 1) := by decide +kernel
theorem dX4_does_111 : decode cX4_does 111 = .ok (.aload_n 0, 1) := by decide +kernel
theorem dX4_does_112 : decode cX4_does 112 = .ok (.iload_n 2, 1) := by decide +kernel
theorem dX4_does_113 : decode cX4_does 113 = .ok (.invokevirtual 87, 3) := by decide +kernel
theorem dX4_does_116 : decode cX4_does 116 = .ok (.ireturn, 1) := by decide +kernel
theorem dX4_does_117 : decode cX4_does 117 = .ok (.aload_n 0, 1) := by decide +kernel
theorem dX4_does_118 : decode cX4_does 118 = .ok (.iload_n 2, 1) := by decide +kernel
theorem dX4_does_119 : decode cX4_does 119 = .ok (.invokevirtual 90, 3) := by decide +kernel
theorem dX4_does_122 : decode cX4_does 122 = .ok (.ireturn, 1) := by decide +kernel
theorem dX4_does_123 : decode cX4_does 123 = .ok (.aload_n 0, 1) := by decide +kernel
theorem dX4_does_124 : decode cX4_does 124 = .ok (.iload_n 2, 1) := by decide +kernel
theorem dX4_does_125 : decode cX4_does 125 = .ok (.invokevirtual 96, 3) := by decide +kernel
theorem dX4_does_128 : decode cX4_does 128 = .ok (.ireturn, 1) := by decide +kernel
theorem dX4_does_129 : decode cX4_does 129 = .ok (.aload_n 0, 1) := by decide +kernel
theorem dX4_does_130 : decode cX4_does 130 = .ok (.invokevirtual 99, 3) := by decide +kernel
theorem dX4_does_133 : decode cX4_does 133 = .ok (.ireturn, 1) := by decide +kernel
theorem dX4_isLetter_0 : decode cX4_isLetter 0 = .ok (.iload_n 0, 1) := by decide +kernel
theorem dX4_isLetter_1 : decode cX4_isLetter 1 = .ok (.bipush 116, 2) := by decide +kernel
theorem dX4_isLetter_3 : decode cX4_isLetter 3 = .ok (.if_icmp .eq 39, 3) := by decide +kernel
theorem dX4_isLetter_6 : decode cX4_isLetter 6 = .ok (.iload_n 0, 1) := by decide +kernel
theorem dX4_isLetter_7 : decode cX4_isLetter 7 = .ok (.bipush 102, 2) := by decide +kernel
theorem dX4_isLetter_9 : decode cX4_isLetter 9 = .ok (.if_icmp .eq 33, 3) := by decide +kernel
theorem dX4_isLetter_12 : decode cX4_isLetter 12 = .ok (.iload_n 0, 1) := by decide +kernel
theorem dX4_isLetter_13 : decode cX4_isLetter 13 = .ok (.bipush 99, 2) := by decide +kernel
theorem dX4_isLetter_15 : decode cX4_isLetter 15 = .ok (.if_icmp .eq 27, 3) := by decide +kernel
theorem dX4_isLetter_18 : decode cX4_isLetter 18 = .ok (.iload_n 0, 1) := by decide +kernel
theorem dX4_isLetter_19 : decode cX4_isLetter 19 = .ok (.bipush 114, 2) := by decide +kernel
theorem dX4_isLetter_21 : decode cX4_isLetter 21 = .ok (.if_icmp .eq 21, 3) := by decide +kernel
theorem dX4_isLetter_24 : decode cX4_isLetter 24 = .ok (.iload_n 0, 1) := by decide +kernel
theorem dX4_isLetter_25 : decode cX4_isLetter 25 = .ok (.bipush 98, 2) := by decide +kernel
theorem dX4_isLetter_27 : decode cX4_isLetter 27 = .ok (.if_icmp .eq 15, 3) := by decide +kernel
theorem dX4_isLetter_30 : decode cX4_isLetter 30 = .ok (.iload_n 0, 1) := by decide +kernel
theorem dX4_isLetter_31 : decode cX4_isLetter 31 = .ok (.bipush 100, 2) := by decide +kernel
theorem dX4_isLetter_33 : decode cX4_isLetter 33 = .ok (.if_icmp .eq 9, 3) := by decide +kernel
theorem dX4_isLetter_36 : decode cX4_isLetter 36 = .ok (.iload_n 0, 1) := by decide +kernel
theorem dX4_isLetter_37 : decode cX4_isLetter 37 = .ok (.bipush 97, 2) := by decide +kernel
theorem dX4_isLetter_39 : decode cX4_isLetter 39 = .ok (.if_icmp .ne 7, 3) := by decide +kernel
theorem dX4_isLetter_42 : decode cX4_isLetter 42 = .ok (.iconst 1, 1) := by decide +kernel
theorem dX4_isLetter_43 : decode cX4_isLetter 43 = .ok (.goto 4, 3) := by decide +kernel
theorem dX4_isLetter_46 : decode cX4_isLetter 46 = .ok (.iconst 0, 1) := by decide +kernel
theorem dX4_isLetter_47 : decode cX4_isLetter 47 = .ok (.ireturn, 1) := by decide +kernel
set_option maxRecDepth 20000 in
theorem ggX4_runsOne_X4_signAt : GoodIn wsX4_runsOne wsX4_signAt := goodIn_r _ [6, 7, 8, 98, 99, 100, 101, 102, 103, 104, 105] (by decide +kernel) (by decide +kernel)
set_option maxRecDepth 20000 in
theorem gX4_runsOne_X4_signAt : GoodIn wsX4_runsOne (wsV RX4 108 RX4 yX4_signAt wsX4_signAt) := goodIn_app (goodIn_of _ (by decide +kernel)) ggX4_runsOne_X4_signAt
set_option maxRecDepth 20000 in
theorem ggX4_runsOne_X4_isLetter : GoodIn wsX4_runsOne wsX4_isLetter := goodIn_r _ [11] (by decide +kernel) (by decide +kernel)
set_option maxRecDepth 20000 in
theorem gX4_runsOne_X4_isLetter : GoodIn wsX4_runsOne (va_wsS RX4 118 yX4_isLetter wsX4_isLetter) := goodIn_app (goodIn_of _ (by decide +kernel)) ggX4_runsOne_X4_isLetter
set_option maxRecDepth 20000 in
theorem ggX4_runsOne_X4_isDigit : GoodIn wsX4_runsOne wsX4_isDigit := goodIn_r _ [15, 1, 2, 3, 4, 5, 6, 7, 8, 16, 17, 18, 98, 99, 100, 101, 102, 103, 104, 105] (by decide +kernel) (by decide +kernel)
set_option maxRecDepth 20000 in
theorem gX4_runsOne_X4_isDigit : GoodIn wsX4_runsOne (wsV RX4 111 RX4 yX4_isDigit wsX4_isDigit) := goodIn_app (goodIn_of _ (by decide +kernel)) ggX4_runsOne_X4_isDigit
set_option maxRecDepth 20000 in
theorem ggX4_runsOne_X4_number : GoodIn wsX4_runsOne wsX4_number := goodIn_r _ [22, 1, 2, 3, 4, 5, 6, 7, 8, 12, 13, 14, 15, 16, 17, 18, 98, 99, 100, 101, 102, 103, 104, 105] (by decide +kernel) (by decide +kernel)
set_option maxRecDepth 20000 in
theorem gX4_runsOne_X4_number : GoodIn wsX4_runsOne (wsV RX4 121 RX4 yX4_number wsX4_number) := goodIn_app (goodIn_of _ (by decide +kernel)) ggX4_runsOne_X4_number
set_option maxRecDepth 20000 in
theorem ggX4_runsOne_X4_does : GoodIn wsX4_runsOne wsX4_does := goodIn_r _ [26, 27, 28, 29, 5, 30, 16, 17, 18, 31, 32, 33, 34, 35, 36, 37, 38, 39, 40, 41, 42, 43, 44, 45, 46, 47, 48, 49, 50, 51, 52, 53, 54, 55, 56, 57, 58, 59, 60, 61, 62, 63, 64, 65, 66, 67, 68, 69, 70, 71, 72, 73, 74, 75, 76, 77, 78, 79, 80, 81, 82, 83, 84, 85, 86, 87, 88, 89, 90, 91, 92, 93, 94, 95, 96, 97, 98, 99, 100, 101, 102, 103, 104, 105] (by decide +kernel) (by decide +kernel)
set_option maxRecDepth 20000 in
theorem gX4_runsOne_X4_does : GoodIn wsX4_runsOne (wsV RX4 124 RX4 yX4_does wsX4_does) := goodIn_app (goodIn_of _ (by decide +kernel)) ggX4_runsOne_X4_does
theorem dX4_runsOne_0 : decode cX4_runsOne 0 = .ok (.aload_n 0, 1) := by decide +kernel
theorem dX4_runsOne_1 : decode cX4_runsOne 1 = .ok (.aload_n 0, 1) := by decide +kernel
theorem dX4_runsOne_2 : decode cX4_runsOne 2 = .ok (.getfield 105, 3) := by decide +kernel
theorem dX4_runsOne_5 : decode cX4_runsOne 5 = .ok (.invokevirtual 108, 3) := by decide +kernel
theorem dX4_runsOne_8 : decode cX4_runsOne 8 = .ok (.istore_n 1, 1) := by decide +kernel
theorem dX4_runsOne_9 : decode cX4_runsOne 9 = .ok (.aload_n 0, 1) := by decide +kernel
theorem dX4_runsOne_10 : decode cX4_runsOne 10 = .ok (.getfield 105, 3) := by decide +kernel
theorem dX4_runsOne_13 : decode cX4_runsOne 13 = .ok (.istore_n 2, 1) := by decide +kernel
theorem dX4_runsOne_14 : decode cX4_runsOne 14 = .ok (.iload_n 1, 1) := by decide +kernel
theorem dX4_runsOne_15 : decode cX4_runsOne 15 = .ok (.invokestatic 118, 3) := by decide +kernel
theorem dX4_runsOne_18 : decode cX4_runsOne 18 = .ok (.ifCond .ne 5, 3) := by decide +kernel
theorem dX4_runsOne_21 : decode cX4_runsOne 21 = .ok (.iconst 0, 1) := by decide +kernel
theorem dX4_runsOne_22 : decode cX4_runsOne 22 = .ok (.ireturn, 1) := by decide +kernel
theorem dX4_runsOne_23 : decode cX4_runsOne 23 = .ok (.aload_n 0, 1) := by decide +kernel
theorem dX4_runsOne_24 : decode cX4_runsOne 24 = .ok (.dup, 1) := by decide +kernel
theorem dX4_runsOne_25 : decode cX4_runsOne 25 = .ok (.getfield 105, 3) := by decide +kernel
theorem dX4_runsOne_28 : decode cX4_runsOne 28 = .ok (.iconst 1, 1) := by decide +kernel
theorem dX4_runsOne_29 : decode cX4_runsOne 29 = .ok (.iadd, 1) := by decide +kernel
theorem dX4_runsOne_30 : decode cX4_runsOne 30 = .ok (.putfield 105, 3) := by decide +kernel
theorem dX4_runsOne_33 : decode cX4_runsOne 33 = .ok (.iconst 1, 1) := by decide +kernel
theorem dX4_runsOne_34 : decode cX4_runsOne 34 = .ok (.istore_n 3, 1) := by decide +kernel
theorem dX4_runsOne_35 : decode cX4_runsOne 35 = .ok (.iload_n 1, 1) := by decide +kernel
theorem dX4_runsOne_36 : decode cX4_runsOne 36 = .ok (.bipush 97, 2) := by decide +kernel
theorem dX4_runsOne_38 : decode cX4_runsOne 38 = .ok (.if_icmp .eq 30, 3) := by decide +kernel
theorem dX4_runsOne_41 : decode cX4_runsOne 41 = .ok (.iload_n 1, 1) := by decide +kernel
theorem dX4_runsOne_42 : decode cX4_runsOne 42 = .ok (.bipush 116, 2) := by decide +kernel
theorem dX4_runsOne_44 : decode cX4_runsOne 44 = .ok (.if_icmp .ne 10, 3) := by decide +kernel
theorem dX4_runsOne_47 : decode cX4_runsOne 47 = .ok (.aload_n 0, 1) := by decide +kernel
theorem dX4_runsOne_48 : decode cX4_runsOne 48 = .ok (.invokevirtual 111, 3) := by decide +kernel
theorem dX4_runsOne_51 : decode cX4_runsOne 51 = .ok (.ifCond .eq 17, 3) := by decide +kernel
theorem dX4_runsOne_54 : decode cX4_runsOne 54 = .ok (.aload_n 0, 1) := by decide +kernel
theorem dX4_runsOne_55 : decode cX4_runsOne 55 = .ok (.invokevirtual 111, 3) := by decide +kernel
theorem dX4_runsOne_58 : decode cX4_runsOne 58 = .ok (.ifCond .ne 5, 3) := by decide +kernel
theorem dX4_runsOne_61 : decode cX4_runsOne 61 = .ok (.iconst 0, 1) := by decide +kernel
theorem dX4_runsOne_62 : decode cX4_runsOne 62 = .ok (.ireturn, 1) := by decide +kernel
theorem dX4_runsOne_63 : decode cX4_runsOne 63 = .ok (.aload_n 0, 1) := by decide +kernel
theorem dX4_runsOne_64 : decode cX4_runsOne 64 = .ok (.invokevirtual 121, 3) := by decide +kernel
theorem dX4_runsOne_67 : decode cX4_runsOne 67 = .ok (.istore_n 3, 1) := by decide +kernel
theorem dX4_runsOne_68 : decode cX4_runsOne 68 = .ok (.iload_n 3, 1) := by decide +kernel
theorem dX4_runsOne_69 : decode cX4_runsOne 69 = .ok (.istore 4, 2) := by decide +kernel
theorem dX4_runsOne_71 : decode cX4_runsOne 71 = .ok (.iload_n 1, 1) := by decide +kernel
theorem dX4_runsOne_72 : decode cX4_runsOne 72 = .ok (.bipush 102, 2) := by decide +kernel
theorem dX4_runsOne_74 : decode cX4_runsOne 74 = .ok (.if_icmp .ne 41, 3) := by decide +kernel
theorem dX4_runsOne_77 : decode cX4_runsOne 77 = .ok (.aload_n 0, 1) := by decide +kernel
theorem dX4_runsOne_78 : decode cX4_runsOne 78 = .ok (.aload_n 0, 1) := by decide +kernel
theorem dX4_runsOne_79 : decode cX4_runsOne 79 = .ok (.getfield 105, 3) := by decide +kernel
theorem dX4_runsOne_82 : decode cX4_runsOne 82 = .ok (.invokevirtual 108, 3) := by decide +kernel
theorem dX4_runsOne_85 : decode cX4_runsOne 85 = .ok (.bipush 45, 2) := by decide +kernel
theorem dX4_runsOne_87 : decode cX4_runsOne 87 = .ok (.if_icmp .ne 28, 3) := by decide +kernel
theorem dX4_runsOne_90 : decode cX4_runsOne 90 = .ok (.aload_n 0, 1) := by decide +kernel
theorem dX4_runsOne_91 : decode cX4_runsOne 91 = .ok (.dup, 1) := by decide +kernel
theorem dX4_runsOne_92 : decode cX4_runsOne 92 = .ok (.getfield 105, 3) := by decide +kernel
theorem dX4_runsOne_95 : decode cX4_runsOne 95 = .ok (.iconst 1, 1) := by decide +kernel
theorem dX4_runsOne_96 : decode cX4_runsOne 96 = .ok (.iadd, 1) := by decide +kernel
theorem dX4_runsOne_97 : decode cX4_runsOne 97 = .ok (.putfield 105, 3) := by decide +kernel
theorem dX4_runsOne_100 : decode cX4_runsOne 100 = .ok (.aload_n 0, 1) := by decide +kernel
theorem dX4_runsOne_101 : decode cX4_runsOne 101 = .ok (.invokevirtual 111, 3) := by decide +kernel
theorem dX4_runsOne_104 : decode cX4_runsOne 104 = .ok (.ifCond .ne 5, 3) := by decide +kernel
theorem dX4_runsOne_107 : decode cX4_runsOne 107 = .ok (.iconst 0, 1) := by decide +kernel
theorem dX4_runsOne_108 : decode cX4_runsOne 108 = .ok (.ireturn, 1) := by decide +kernel
theorem dX4_runsOne_109 : decode cX4_runsOne 109 = .ok (.aload_n 0, 1) := by decide +kernel
theorem dX4_runsOne_110 : decode cX4_runsOne 110 = .ok (.invokevirtual 121, 3) := by decide +kernel
theorem dX4_runsOne_113 : decode cX4_runsOne 113 = .ok (.istore 4, 2) := by decide +kernel
theorem dX4_runsOne_115 : decode cX4_runsOne 115 = .ok (.aload_n 0, 1) := by decide +kernel
theorem dX4_runsOne_116 : decode cX4_runsOne 116 = .ok (.aload_n 0, 1) := by decide +kernel
theorem dX4_runsOne_117 : decode cX4_runsOne 117 = .ok (.getfield 105, 3) := by decide +kernel
theorem dX4_runsOne_120 : decode cX4_runsOne 120 = .ok (.invokevirtual 108, 3) := by decide +kernel
theorem dX4_runsOne_123 : decode cX4_runsOne 123 = .ok (.bipush 59, 2) := by decide +kernel
theorem dX4_runsOne_125 : decode cX4_runsOne 125 = .ok (.if_icmp .eq 5, 3) := by decide +kernel
theorem dX4_runsOne_128 : decode cX4_runsOne 128 = .ok (.iconst 0, 1) := by decide +kernel
theorem dX4_runsOne_129 : decode cX4_runsOne 129 = .ok (.ireturn, 1) := by decide +kernel
theorem dX4_runsOne_130 : decode cX4_runsOne 130 = .ok (.aload_n 0, 1) := by decide +kernel
theorem dX4_runsOne_131 : decode cX4_runsOne 131 = .ok (.iload_n 1, 1) := by decide +kernel
theorem dX4_runsOne_132 : decode cX4_runsOne 132 = .ok (.iload_n 3, 1) := by decide +kernel
theorem dX4_runsOne_133 : decode cX4_runsOne 133 = .ok (.iload 4, 2) := by decide +kernel
theorem dX4_runsOne_135 : decode cX4_runsOne 135 = .ok (.invokevirtual 124, 3) := by decide +kernel
theorem dX4_runsOne_138 : decode cX4_runsOne 138 = .ok (.ifCond .lt 7, 3) := by decide +kernel
theorem dX4_runsOne_141 : decode cX4_runsOne 141 = .ok (.iconst 1, 1) := by decide +kernel
theorem dX4_runsOne_142 : decode cX4_runsOne 142 = .ok (.goto 4, 3) := by decide +kernel
theorem dX4_runsOne_145 : decode cX4_runsOne 145 = .ok (.iconst 0, 1) := by decide +kernel
theorem dX4_runsOne_146 : decode cX4_runsOne 146 = .ok (.istore 5, 2) := by decide +kernel
theorem dX4_runsOne_148 : decode cX4_runsOne 148 = .ok (.aload_n 0, 1) := by decide +kernel
theorem dX4_runsOne_149 : decode cX4_runsOne 149 = .ok (.iload 5, 2) := by decide +kernel
theorem dX4_runsOne_151 : decode cX4_runsOne 151 = .ok (.ifCond .eq 12, 3) := by decide +kernel
theorem dX4_runsOne_154 : decode cX4_runsOne 154 = .ok (.aload_n 0, 1) := by decide +kernel
theorem dX4_runsOne_155 : decode cX4_runsOne 155 = .ok (.getfield 105, 3) := by decide +kernel
theorem dX4_runsOne_158 : decode cX4_runsOne 158 = .ok (.iconst 1, 1) := by decide +kernel
theorem dX4_runsOne_159 : decode cX4_runsOne 159 = .ok (.iadd, 1) := by decide +kernel
theorem dX4_runsOne_160 : decode cX4_runsOne 160 = .ok (.goto 4, 3) := by decide +kernel
theorem dX4_runsOne_163 : decode cX4_runsOne 163 = .ok (.iload_n 2, 1) := by decide +kernel
theorem dX4_runsOne_164 : decode cX4_runsOne 164 = .ok (.putfield 105, 3) := by decide +kernel
theorem dX4_runsOne_167 : decode cX4_runsOne 167 = .ok (.iload 5, 2) := by decide +kernel
theorem dX4_runsOne_169 : decode cX4_runsOne 169 = .ok (.ireturn, 1) := by decide +kernel
set_option maxRecDepth 20000 in
theorem ggX4_run_X4_notes : GoodIn wsX4_run wsX4_notes := goodIn_r _ [7, 8, 9, 10, 11, 6, 12, 116, 117, 118, 119, 120, 121, 122, 123] (by decide +kernel) (by decide +kernel)
set_option maxRecDepth 20000 in
theorem gX4_run_X4_notes : GoodIn wsX4_run (wsV RX4 55 RX4 yX4_notes wsX4_notes) := goodIn_app (goodIn_of _ (by decide +kernel)) ggX4_run_X4_notes
set_option maxRecDepth 20000 in
theorem ggX4_run_X4_runsOne : GoodIn wsX4_run wsX4_runsOne := goodIn_r _ [16, 1, 17, 18, 19, 6, 20, 2, 21, 22, 23, 24, 25, 26, 27, 28, 29, 30, 31, 32, 33, 34, 35, 36, 37, 38, 39, 40, 41, 42, 43, 44, 45, 46, 47, 48, 49, 50, 51, 8, 52, 53, 54, 55, 56, 57, 58, 59, 60, 61, 62, 63, 64, 65, 66, 67, 68, 69, 70, 71, 72, 73, 74, 75, 76, 77, 78, 79, 80, 81, 82, 83, 84, 85, 86, 87, 88, 89, 90, 91, 92, 93, 94, 95, 96, 97, 98, 99, 100, 101, 102, 103, 104, 105, 106, 107, 108, 109, 116, 117, 118, 119, 120, 121, 122, 123] (by decide +kernel) (by decide +kernel)
set_option maxRecDepth 20000 in
theorem gX4_run_X4_runsOne : GoodIn wsX4_run (wsV RX4 128 RX4 yX4_runsOne wsX4_runsOne) := goodIn_app (goodIn_of _ (by decide +kernel)) ggX4_run_X4_runsOne
set_option maxRecDepth 20000 in
theorem ggX4_run_X4_ends : GoodIn wsX4_run wsX4_ends := goodIn_r _ [113, 9, 8, 114, 115, 10, 11, 6, 12, 116, 117, 118, 119, 120, 121, 122, 123] (by decide +kernel) (by decide +kernel)
set_option maxRecDepth 20000 in
theorem gX4_run_X4_ends : GoodIn wsX4_run (wsV RX4 61 RX4 yX4_ends wsX4_ends) := goodIn_app (goodIn_of _ (by decide +kernel)) ggX4_run_X4_ends
theorem dX4_run_0 : decode cX4_run 0 = .ok (.aload_n 0, 1) := by decide +kernel
theorem dX4_run_1 : decode cX4_run 1 = .ok (.invokevirtual 55, 3) := by decide +kernel
theorem dX4_run_4 : decode cX4_run 4 = .ok (.aload_n 0, 1) := by decide +kernel
theorem dX4_run_5 : decode cX4_run 5 = .ok (.iconst 0, 1) := by decide +kernel
theorem dX4_run_6 : decode cX4_run 6 = .ok (.putfield 105, 3) := by decide +kernel
theorem dX4_run_9 : decode cX4_run 9 = .ok (.iconst 0, 1) := by decide +kernel
theorem dX4_run_10 : decode cX4_run 10 = .ok (.istore_n 1, 1) := by decide +kernel
theorem dX4_run_11 : decode cX4_run 11 = .ok (.aload_n 0, 1) := by decide +kernel
theorem dX4_run_12 : decode cX4_run 12 = .ok (.getfield 105, 3) := by decide +kernel
theorem dX4_run_15 : decode cX4_run 15 = .ok (.aload_n 0, 1) := by decide +kernel
theorem dX4_run_16 : decode cX4_run 16 = .ok (.getfield 102, 3) := by decide +kernel
theorem dX4_run_19 : decode cX4_run 19 = .ok (.if_icmp .ge 29, 3) := by decide +kernel
theorem dX4_run_22 : decode cX4_run 22 = .ok (.aload_n 0, 1) := by decide +kernel
theorem dX4_run_23 : decode cX4_run 23 = .ok (.invokevirtual 128, 3) := by decide +kernel
theorem dX4_run_26 : decode cX4_run 26 = .ok (.ifCond .ne 16, 3) := by decide +kernel
theorem dX4_run_29 : decode cX4_run 29 = .ok (.aload_n 0, 1) := by decide +kernel
theorem dX4_run_30 : decode cX4_run 30 = .ok (.sipush (-1000), 3) := by decide +kernel
theorem dX4_run_33 : decode cX4_run 33 = .ok (.aload_n 0, 1) := by decide +kernel
theorem dX4_run_34 : decode cX4_run 34 = .ok (.getfield 105, 3) := by decide +kernel
theorem dX4_run_37 : decode cX4_run 37 = .ok (.isub, 1) := by decide +kernel
theorem dX4_run_38 : decode cX4_run 38 = .ok (.invokevirtual 61, 3) := by decide +kernel
theorem dX4_run_41 : decode cX4_run 41 = .ok (.ireturn, 1) := by decide +kernel
theorem dX4_run_42 : decode cX4_run 42 = .ok (.iinc 1 1, 3) := by decide +kernel
theorem dX4_run_45 : decode cX4_run 45 = .ok (.goto (-34), 3) := by decide +kernel
theorem dX4_run_48 : decode cX4_run 48 = .ok (.aload_n 0, 1) := by decide +kernel
theorem dX4_run_49 : decode cX4_run 49 = .ok (.iload_n 1, 1) := by decide +kernel
theorem dX4_run_50 : decode cX4_run 50 = .ok (.invokevirtual 61, 3) := by decide +kernel
theorem dX4_run_53 : decode cX4_run 53 = .ok (.ireturn, 1) := by decide +kernel
theorem dX4_bits_0 : decode cX4_bits 0 = .ok (.iconst 0, 1) := by decide +kernel
theorem dX4_bits_1 : decode cX4_bits 1 = .ok (.istore_n 1, 1) := by decide +kernel
theorem dX4_bits_2 : decode cX4_bits 2 = .ok (.iconst 0, 1) := by decide +kernel
theorem dX4_bits_3 : decode cX4_bits 3 = .ok (.istore_n 2, 1) := by decide +kernel
theorem dX4_bits_4 : decode cX4_bits 4 = .ok (.iload_n 2, 1) := by decide +kernel
theorem dX4_bits_5 : decode cX4_bits 5 = .ok (.bipush 10, 2) := by decide +kernel
theorem dX4_bits_7 : decode cX4_bits 7 = .ok (.if_icmp .ge 22, 3) := by decide +kernel
theorem dX4_bits_10 : decode cX4_bits 10 = .ok (.iload_n 1, 1) := by decide +kernel
theorem dX4_bits_11 : decode cX4_bits 11 = .ok (.aload_n 0, 1) := by decide +kernel
theorem dX4_bits_12 : decode cX4_bits 12 = .ok (.getfield 7, 3) := by decide +kernel
theorem dX4_bits_15 : decode cX4_bits 15 = .ok (.sipush 640, 3) := by decide +kernel
theorem dX4_bits_18 : decode cX4_bits 18 = .ok (.iload_n 2, 1) := by decide +kernel
theorem dX4_bits_19 : decode cX4_bits 19 = .ok (.iadd, 1) := by decide +kernel
theorem dX4_bits_20 : decode cX4_bits 20 = .ok (.iaload, 1) := by decide +kernel
theorem dX4_bits_21 : decode cX4_bits 21 = .ok (.iadd, 1) := by decide +kernel
theorem dX4_bits_22 : decode cX4_bits 22 = .ok (.istore_n 1, 1) := by decide +kernel
theorem dX4_bits_23 : decode cX4_bits 23 = .ok (.iinc 2 1, 3) := by decide +kernel
theorem dX4_bits_26 : decode cX4_bits 26 = .ok (.goto (-22), 3) := by decide +kernel
theorem dX4_bits_29 : decode cX4_bits 29 = .ok (.iload_n 1, 1) := by decide +kernel
theorem dX4_bits_30 : decode cX4_bits 30 = .ok (.ireturn, 1) := by decide +kernel
set_option maxRecDepth 20000 in
theorem ggX4_full_X4_right : GoodIn wsX4_full wsX4_right := goodIn_r _ [5, 6, 7, 8, 4, 9, 10, 11, 12, 13, 14, 15, 16, 17, 18] (by decide +kernel) (by decide +kernel)
set_option maxRecDepth 20000 in
theorem gX4_full_X4_right : GoodIn wsX4_full (wsV RX4 37 RX4 yX4_right wsX4_right) := goodIn_app (goodIn_of _ (by decide +kernel)) ggX4_full_X4_right
theorem dX4_full_0 : decode cX4_full 0 = .ok (.iconst 0, 1) := by decide +kernel
theorem dX4_full_1 : decode cX4_full 1 = .ok (.istore_n 1, 1) := by decide +kernel
theorem dX4_full_2 : decode cX4_full 2 = .ok (.iconst 0, 1) := by decide +kernel
theorem dX4_full_3 : decode cX4_full 3 = .ok (.istore_n 2, 1) := by decide +kernel
theorem dX4_full_4 : decode cX4_full 4 = .ok (.iload_n 2, 1) := by decide +kernel
theorem dX4_full_5 : decode cX4_full 5 = .ok (.bipush 10, 2) := by decide +kernel
theorem dX4_full_7 : decode cX4_full 7 = .ok (.if_icmp .ge 17, 3) := by decide +kernel
theorem dX4_full_10 : decode cX4_full 10 = .ok (.iload_n 1, 1) := by decide +kernel
theorem dX4_full_11 : decode cX4_full 11 = .ok (.aload_n 0, 1) := by decide +kernel
theorem dX4_full_12 : decode cX4_full 12 = .ok (.iload_n 2, 1) := by decide +kernel
theorem dX4_full_13 : decode cX4_full 13 = .ok (.invokevirtual 37, 3) := by decide +kernel
theorem dX4_full_16 : decode cX4_full 16 = .ok (.iadd, 1) := by decide +kernel
theorem dX4_full_17 : decode cX4_full 17 = .ok (.istore_n 1, 1) := by decide +kernel
theorem dX4_full_18 : decode cX4_full 18 = .ok (.iinc 2 1, 3) := by decide +kernel
theorem dX4_full_21 : decode cX4_full 21 = .ok (.goto (-17), 3) := by decide +kernel
theorem dX4_full_24 : decode cX4_full 24 = .ok (.iload_n 1, 1) := by decide +kernel
theorem dX4_full_25 : decode cX4_full 25 = .ok (.ireturn, 1) := by decide +kernel
theorem dX4_runs_0 : decode cX4_runs 0 = .ok (.iconst 0, 1) := by decide +kernel
theorem dX4_runs_1 : decode cX4_runs 1 = .ok (.istore_n 2, 1) := by decide +kernel
theorem dX4_runs_2 : decode cX4_runs 2 = .ok (.iconst 0, 1) := by decide +kernel
theorem dX4_runs_3 : decode cX4_runs 3 = .ok (.istore_n 3, 1) := by decide +kernel
theorem dX4_runs_4 : decode cX4_runs 4 = .ok (.iconst 0, 1) := by decide +kernel
theorem dX4_runs_5 : decode cX4_runs 5 = .ok (.istore 4, 2) := by decide +kernel
theorem dX4_runs_7 : decode cX4_runs 7 = .ok (.iconst 0, 1) := by decide +kernel
theorem dX4_runs_8 : decode cX4_runs 8 = .ok (.istore 5, 2) := by decide +kernel
theorem dX4_runs_10 : decode cX4_runs 10 = .ok (.iload 5, 2) := by decide +kernel
theorem dX4_runs_12 : decode cX4_runs 12 = .ok (.sipush 320, 3) := by decide +kernel
theorem dX4_runs_15 : decode cX4_runs 15 = .ok (.if_icmp .ge 56, 3) := by decide +kernel
theorem dX4_runs_18 : decode cX4_runs 18 = .ok (.aload_n 0, 1) := by decide +kernel
theorem dX4_runs_19 : decode cX4_runs 19 = .ok (.getfield 7, 3) := by decide +kernel
theorem dX4_runs_22 : decode cX4_runs 22 = .ok (.iload 5, 2) := by decide +kernel
theorem dX4_runs_24 : decode cX4_runs 24 = .ok (.iaload, 1) := by decide +kernel
theorem dX4_runs_25 : decode cX4_runs 25 = .ok (.ifCond .ne 10, 3) := by decide +kernel
theorem dX4_runs_28 : decode cX4_runs 28 = .ok (.iload 4, 2) := by decide +kernel
theorem dX4_runs_30 : decode cX4_runs 30 = .ok (.iconst 1, 1) := by decide +kernel
theorem dX4_runs_31 : decode cX4_runs 31 = .ok (.iadd, 1) := by decide +kernel
theorem dX4_runs_32 : decode cX4_runs 32 = .ok (.goto 4, 3) := by decide +kernel
theorem dX4_runs_35 : decode cX4_runs 35 = .ok (.iconst 0, 1) := by decide +kernel
theorem dX4_runs_36 : decode cX4_runs 36 = .ok (.istore 4, 2) := by decide +kernel
theorem dX4_runs_38 : decode cX4_runs 38 = .ok (.iload_n 2, 1) := by decide +kernel
theorem dX4_runs_39 : decode cX4_runs 39 = .ok (.iload 4, 2) := by decide +kernel
theorem dX4_runs_41 : decode cX4_runs 41 = .ok (.iconst 1, 1) := by decide +kernel
theorem dX4_runs_42 : decode cX4_runs 42 = .ok (.if_icmp .ne 7, 3) := by decide +kernel
theorem dX4_runs_45 : decode cX4_runs 45 = .ok (.iconst 1, 1) := by decide +kernel
theorem dX4_runs_46 : decode cX4_runs 46 = .ok (.goto 4, 3) := by decide +kernel
theorem dX4_runs_49 : decode cX4_runs 49 = .ok (.iconst 0, 1) := by decide +kernel
theorem dX4_runs_50 : decode cX4_runs 50 = .ok (.iadd, 1) := by decide +kernel
theorem dX4_runs_51 : decode cX4_runs 51 = .ok (.istore_n 2, 1) := by decide +kernel
theorem dX4_runs_52 : decode cX4_runs 52 = .ok (.iload 4, 2) := by decide +kernel
theorem dX4_runs_54 : decode cX4_runs 54 = .ok (.iload_n 3, 1) := by decide +kernel
theorem dX4_runs_55 : decode cX4_runs 55 = .ok (.if_icmp .le 8, 3) := by decide +kernel
theorem dX4_runs_58 : decode cX4_runs 58 = .ok (.iload 4, 2) := by decide +kernel
theorem dX4_runs_60 : decode cX4_runs 60 = .ok (.goto 4, 3) := by decide +kernel
theorem dX4_runs_63 : decode cX4_runs 63 = .ok (.iload_n 3, 1) := by decide +kernel
theorem dX4_runs_64 : decode cX4_runs 64 = .ok (.istore_n 3, 1) := by decide +kernel
theorem dX4_runs_65 : decode cX4_runs 65 = .ok (.iinc 5 1, 3) := by decide +kernel
theorem dX4_runs_68 : decode cX4_runs 68 = .ok (.goto (-58), 3) := by decide +kernel
theorem dX4_runs_71 : decode cX4_runs 71 = .ok (.iload_n 1, 1) := by decide +kernel
theorem dX4_runs_72 : decode cX4_runs 72 = .ok (.ifCond .eq 7, 3) := by decide +kernel
theorem dX4_runs_75 : decode cX4_runs 75 = .ok (.iload_n 3, 1) := by decide +kernel
theorem dX4_runs_76 : decode cX4_runs 76 = .ok (.goto 4, 3) := by decide +kernel
theorem dX4_runs_79 : decode cX4_runs 79 = .ok (.iload_n 2, 1) := by decide +kernel
theorem dX4_runs_80 : decode cX4_runs 80 = .ok (.ireturn, 1) := by decide +kernel
set_option maxRecDepth 20000 in
theorem ggX4_blocks_X4_isBlock : GoodIn wsX4_blocks wsX4_isBlock := goodIn_r _ [5, 6, 7, 8, 4, 9, 10, 11, 12, 13, 14, 15, 16, 17] (by decide +kernel) (by decide +kernel)
set_option maxRecDepth 20000 in
theorem gX4_blocks_X4_isBlock : GoodIn wsX4_blocks (wsV RX4 81 RX4 yX4_isBlock wsX4_isBlock) := goodIn_app (goodIn_of _ (by decide +kernel)) ggX4_blocks_X4_isBlock
theorem dX4_blocks_0 : decode cX4_blocks 0 = .ok (.iconst 0, 1) := by decide +kernel
theorem dX4_blocks_1 : decode cX4_blocks 1 = .ok (.istore_n 1, 1) := by decide +kernel
theorem dX4_blocks_2 : decode cX4_blocks 2 = .ok (.iconst 0, 1) := by decide +kernel
theorem dX4_blocks_3 : decode cX4_blocks 3 = .ok (.istore_n 2, 1) := by decide +kernel
theorem dX4_blocks_4 : decode cX4_blocks 4 = .ok (.iload_n 2, 1) := by decide +kernel
theorem dX4_blocks_5 : decode cX4_blocks 5 = .ok (.bipush 8, 2) := by decide +kernel
theorem dX4_blocks_7 : decode cX4_blocks 7 = .ok (.if_icmp .ge 25, 3) := by decide +kernel
theorem dX4_blocks_10 : decode cX4_blocks 10 = .ok (.iload_n 1, 1) := by decide +kernel
theorem dX4_blocks_11 : decode cX4_blocks 11 = .ok (.aload_n 0, 1) := by decide +kernel
theorem dX4_blocks_12 : decode cX4_blocks 12 = .ok (.iload_n 2, 1) := by decide +kernel
theorem dX4_blocks_13 : decode cX4_blocks 13 = .ok (.invokevirtual 81, 3) := by decide +kernel
theorem dX4_blocks_16 : decode cX4_blocks 16 = .ok (.ifCond .eq 7, 3) := by decide +kernel
theorem dX4_blocks_19 : decode cX4_blocks 19 = .ok (.iconst 1, 1) := by decide +kernel
theorem dX4_blocks_20 : decode cX4_blocks 20 = .ok (.goto 4, 3) := by decide +kernel
theorem dX4_blocks_23 : decode cX4_blocks 23 = .ok (.iconst 0, 1) := by decide +kernel
theorem dX4_blocks_24 : decode cX4_blocks 24 = .ok (.iadd, 1) := by decide +kernel
theorem dX4_blocks_25 : decode cX4_blocks 25 = .ok (.istore_n 1, 1) := by decide +kernel
theorem dX4_blocks_26 : decode cX4_blocks 26 = .ok (.iinc 2 1, 3) := by decide +kernel
theorem dX4_blocks_29 : decode cX4_blocks 29 = .ok (.goto (-25), 3) := by decide +kernel
theorem dX4_blocks_32 : decode cX4_blocks 32 = .ok (.iload_n 1, 1) := by decide +kernel
theorem dX4_blocks_33 : decode cX4_blocks 33 = .ok (.ireturn, 1) := by decide +kernel
set_option maxRecDepth 20000 in
theorem ggX4_count_X4_inAll : GoodIn wsX4_count wsX4_inAll := goodIn_r _ [8, 9, 10, 11, 7, 12, 1, 40, 41, 42, 43, 44, 45, 46, 47] (by decide +kernel) (by decide +kernel)
set_option maxRecDepth 20000 in
theorem gX4_count_X4_inAll : GoodIn wsX4_count (wsV RX4 131 RX4 yX4_inAll wsX4_inAll) := goodIn_app (goodIn_of _ (by decide +kernel)) ggX4_count_X4_inAll
set_option maxRecDepth 20000 in
theorem ggX4_count_X4_blocks : GoodIn wsX4_count wsX4_blocks := goodIn_r _ [16, 17, 18, 19, 7, 20, 1, 21, 22, 23, 40, 41, 42, 43, 44, 45, 46, 47] (by decide +kernel) (by decide +kernel)
set_option maxRecDepth 20000 in
theorem gX4_count_X4_blocks : GoodIn wsX4_count (wsV RX4 134 RX4 yX4_blocks wsX4_blocks) := goodIn_app (goodIn_of _ (by decide +kernel)) ggX4_count_X4_blocks
set_option maxRecDepth 20000 in
theorem ggX4_count_X4_bits : GoodIn wsX4_count wsX4_bits := goodIn_r _ [27, 1, 40, 41, 42, 43, 44, 45, 46, 47] (by decide +kernel) (by decide +kernel)
set_option maxRecDepth 20000 in
theorem gX4_count_X4_bits : GoodIn wsX4_count (wsV RX4 137 RX4 yX4_bits wsX4_bits) := goodIn_app (goodIn_of _ (by decide +kernel)) ggX4_count_X4_bits
set_option maxRecDepth 20000 in
theorem ggX4_count_X4_full : GoodIn wsX4_count wsX4_full := goodIn_r _ [31, 32, 33, 34, 7, 35, 9, 10, 11, 12, 1, 40, 41, 42, 43, 44, 45, 46, 47] (by decide +kernel) (by decide +kernel)
set_option maxRecDepth 20000 in
theorem gX4_count_X4_full : GoodIn wsX4_count (wsV RX4 140 RX4 yX4_full wsX4_full) := goodIn_app (goodIn_of _ (by decide +kernel)) ggX4_count_X4_full
set_option maxRecDepth 20000 in
theorem ggX4_count_X4_runs : GoodIn wsX4_count wsX4_runs := goodIn_r _ [39, 1, 40, 41, 42, 43, 44, 45, 46, 47] (by decide +kernel) (by decide +kernel)
set_option maxRecDepth 20000 in
theorem gX4_count_X4_runs : GoodIn wsX4_count (wsV RX4 143 RX4 yX4_runs wsX4_runs) := goodIn_app (goodIn_of _ (by decide +kernel)) ggX4_count_X4_runs
theorem dX4_count_0 : decode cX4_count 0 = .ok (.iload_n 1, 1) := by decide +kernel
theorem dX4_count_1 : decode cX4_count 1 = .ok (.tableswitch 119 0 11 #[63, 63, 63, 63, 69, 74, 83, 88, 93, 93, 109, 114], 63) := by decide +kernel
theorem dX4_count_64 : decode cX4_count 64 = .ok (.aload_n 0, 1) := by decide +kernel
theorem dX4_count_65 : decode cX4_count 65 = .ok (.iload_n 1, 1) := by decide +kernel
theorem dX4_count_66 : decode cX4_count 66 = .ok (.invokevirtual 131, 3) := by decide +kernel
theorem dX4_count_69 : decode cX4_count 69 = .ok (.ireturn, 1) := by decide +kernel
theorem dX4_count_70 : decode cX4_count 70 = .ok (.aload_n 0, 1) := by decide +kernel
theorem dX4_count_71 : decode cX4_count 71 = .ok (.invokevirtual 134, 3) := by decide +kernel
theorem dX4_count_74 : decode cX4_count 74 = .ok (.ireturn, 1) := by decide +kernel
theorem dX4_count_75 : decode cX4_count 75 = .ok (.aload_n 0, 1) := by decide +kernel
theorem dX4_count_76 : decode cX4_count 76 = .ok (.getfield 7, 3) := by decide +kernel
theorem dX4_count_79 : decode cX4_count 79 = .ok (.sipush 666, 3) := by decide +kernel
theorem dX4_count_82 : decode cX4_count 82 = .ok (.iaload, 1) := by decide +kernel
theorem dX4_count_83 : decode cX4_count 83 = .ok (.ireturn, 1) := by decide +kernel
theorem dX4_count_84 : decode cX4_count 84 = .ok (.aload_n 0, 1) := by decide +kernel
theorem dX4_count_85 : decode cX4_count 85 = .ok (.invokevirtual 137, 3) := by decide +kernel
theorem dX4_count_88 : decode cX4_count 88 = .ok (.ireturn, 1) := by decide +kernel
theorem dX4_count_89 : decode cX4_count 89 = .ok (.aload_n 0, 1) := by decide +kernel
theorem dX4_count_90 : decode cX4_count 90 = .ok (.invokevirtual 140, 3) := by decide +kernel
theorem dX4_count_93 : decode cX4_count 93 = .ok (.ireturn, 1) := by decide +kernel
theorem dX4_count_94 : decode cX4_count 94 = .ok (.aload_n 0, 1) := by decide +kernel
theorem dX4_count_95 : decode cX4_count 95 = .ok (.iload_n 1, 1) := by decide +kernel
theorem dX4_count_96 : decode cX4_count 96 = .ok (.bipush 9, 2) := by decide +kernel
theorem dX4_count_98 : decode cX4_count 98 = .ok (.if_icmp .ne 7, 3) := by decide +kernel
theorem dX4_count_101 : decode cX4_count 101 = .ok (.iconst 1, 1) := by decide +kernel
theorem dX4_count_102 : decode cX4_count 102 = .ok (.goto 4, 3) := by decide +kernel
theorem dX4_count_105 : decode cX4_count 105 = .ok (.iconst 0, 1) := by decide +kernel
theorem dX4_count_106 : decode cX4_count 106 = .ok (.invokevirtual 143, 3) := by decide +kernel
theorem dX4_count_109 : decode cX4_count 109 = .ok (.ireturn, 1) := by decide +kernel
theorem dX4_count_110 : decode cX4_count 110 = .ok (.aload_n 0, 1) := by decide +kernel
theorem dX4_count_111 : decode cX4_count 111 = .ok (.getfield 29, 3) := by decide +kernel
theorem dX4_count_114 : decode cX4_count 114 = .ok (.ireturn, 1) := by decide +kernel
theorem dX4_count_115 : decode cX4_count 115 = .ok (.aload_n 0, 1) := by decide +kernel
theorem dX4_count_116 : decode cX4_count 116 = .ok (.getfield 102, 3) := by decide +kernel
theorem dX4_count_119 : decode cX4_count 119 = .ok (.ireturn, 1) := by decide +kernel
theorem dX4_count_120 : decode cX4_count 120 = .ok (.iconst (-1), 1) := by decide +kernel
theorem dX4_count_121 : decode cX4_count 121 = .ok (.ireturn, 1) := by decide +kernel
set_option maxRecDepth 20000 in
theorem ggX4_slot_X4_in : GoodIn wsX4_slot wsX4_in := goodIn_r _ [5] (by decide +kernel) (by decide +kernel)
set_option maxRecDepth 20000 in
theorem gX4_slot_X4_in : GoodIn wsX4_slot (va_wsS RX4 64 yX4_in wsX4_in) := goodIn_app (goodIn_of _ (by decide +kernel)) ggX4_slot_X4_in
theorem dX4_slot_0 : decode cX4_slot 0 = .ok (.iload_n 1, 1) := by decide +kernel
theorem dX4_slot_1 : decode cX4_slot 1 = .ok (.iconst 0, 1) := by decide +kernel
theorem dX4_slot_2 : decode cX4_slot 2 = .ok (.sipush 319, 3) := by decide +kernel
theorem dX4_slot_5 : decode cX4_slot 5 = .ok (.invokestatic 64, 3) := by decide +kernel
theorem dX4_slot_8 : decode cX4_slot 8 = .ok (.ifCond .eq 12, 3) := by decide +kernel
theorem dX4_slot_11 : decode cX4_slot 11 = .ok (.iload_n 2, 1) := by decide +kernel
theorem dX4_slot_12 : decode cX4_slot 12 = .ok (.iconst 0, 1) := by decide +kernel
theorem dX4_slot_13 : decode cX4_slot 13 = .ok (.iconst 1, 1) := by decide +kernel
theorem dX4_slot_14 : decode cX4_slot 14 = .ok (.invokestatic 64, 3) := by decide +kernel
theorem dX4_slot_17 : decode cX4_slot 17 = .ok (.ifCond .ne 5, 3) := by decide +kernel
theorem dX4_slot_20 : decode cX4_slot 20 = .ok (.iconst (-1), 1) := by decide +kernel
theorem dX4_slot_21 : decode cX4_slot 21 = .ok (.ireturn, 1) := by decide +kernel
theorem dX4_slot_22 : decode cX4_slot 22 = .ok (.iload_n 2, 1) := by decide +kernel
theorem dX4_slot_23 : decode cX4_slot 23 = .ok (.ifCond .ne 12, 3) := by decide +kernel
theorem dX4_slot_26 : decode cX4_slot 26 = .ok (.aload_n 0, 1) := by decide +kernel
theorem dX4_slot_27 : decode cX4_slot 27 = .ok (.getfield 7, 3) := by decide +kernel
theorem dX4_slot_30 : decode cX4_slot 30 = .ok (.iload_n 1, 1) := by decide +kernel
theorem dX4_slot_31 : decode cX4_slot 31 = .ok (.iaload, 1) := by decide +kernel
theorem dX4_slot_32 : decode cX4_slot 32 = .ok (.goto 33, 3) := by decide +kernel
theorem dX4_slot_35 : decode cX4_slot 35 = .ok (.aload_n 0, 1) := by decide +kernel
theorem dX4_slot_36 : decode cX4_slot 36 = .ok (.getfield 7, 3) := by decide +kernel
theorem dX4_slot_39 : decode cX4_slot 39 = .ok (.sipush 320, 3) := by decide +kernel
theorem dX4_slot_42 : decode cX4_slot 42 = .ok (.iload_n 1, 1) := by decide +kernel
theorem dX4_slot_43 : decode cX4_slot 43 = .ok (.iadd, 1) := by decide +kernel
theorem dX4_slot_44 : decode cX4_slot 44 = .ok (.iaload, 1) := by decide +kernel
theorem dX4_slot_45 : decode cX4_slot 45 = .ok (.ifCond .ne 8, 3) := by decide +kernel
theorem dX4_slot_48 : decode cX4_slot 48 = .ok (.bipush (-9), 2) := by decide +kernel
theorem dX4_slot_50 : decode cX4_slot 50 = .ok (.goto 15, 3) := by decide +kernel
theorem dX4_slot_53 : decode cX4_slot 53 = .ok (.aload_n 0, 1) := by decide +kernel
theorem dX4_slot_54 : decode cX4_slot 54 = .ok (.getfield 7, 3) := by decide +kernel
theorem dX4_slot_57 : decode cX4_slot 57 = .ok (.sipush 320, 3) := by decide +kernel
theorem dX4_slot_60 : decode cX4_slot 60 = .ok (.iload_n 1, 1) := by decide +kernel
theorem dX4_slot_61 : decode cX4_slot 61 = .ok (.iadd, 1) := by decide +kernel
theorem dX4_slot_62 : decode cX4_slot 62 = .ok (.iaload, 1) := by decide +kernel
theorem dX4_slot_63 : decode cX4_slot 63 = .ok (.iconst 1, 1) := by decide +kernel
theorem dX4_slot_64 : decode cX4_slot 64 = .ok (.isub, 1) := by decide +kernel
theorem dX4_slot_65 : decode cX4_slot 65 = .ok (.ireturn, 1) := by decide +kernel
set_option maxRecDepth 20000 in
theorem ggX4_word_X4_isWord : GoodIn wsX4_word wsX4_isWord := goodIn_r _ [5, 6, 7, 4, 8] (by decide +kernel) (by decide +kernel)
set_option maxRecDepth 20000 in
theorem gX4_word_X4_isWord : GoodIn wsX4_word (va_wsS RX4 93 yX4_isWord wsX4_isWord) := goodIn_app (goodIn_of _ (by decide +kernel)) ggX4_word_X4_isWord
set_option maxRecDepth 20000 in
theorem ggX4_word_X4_in : GoodIn wsX4_word wsX4_in := goodIn_r _ [8] (by decide +kernel) (by decide +kernel)
set_option maxRecDepth 20000 in
theorem gX4_word_X4_in : GoodIn wsX4_word (va_wsS RX4 64 yX4_in wsX4_in) := goodIn_app (goodIn_of _ (by decide +kernel)) ggX4_word_X4_in
set_option maxRecDepth 20000 in
theorem ggX4_word_X4_inWord : GoodIn wsX4_word wsX4_inWord := goodIn_r _ [12, 1, 21, 22, 23, 24, 25, 26, 27, 28] (by decide +kernel) (by decide +kernel)
set_option maxRecDepth 20000 in
theorem gX4_word_X4_inWord : GoodIn wsX4_word (wsV RX4 33 RX4 yX4_inWord wsX4_inWord) := goodIn_app (goodIn_of _ (by decide +kernel)) ggX4_word_X4_inWord
set_option maxRecDepth 20000 in
theorem ggX4_word_X4_right : GoodIn wsX4_word wsX4_right := goodIn_r _ [16, 9, 10, 11, 4, 12, 1, 21, 22, 23, 24, 25, 26, 27, 28] (by decide +kernel) (by decide +kernel)
set_option maxRecDepth 20000 in
theorem gX4_word_X4_right : GoodIn wsX4_word (wsV RX4 37 RX4 yX4_right wsX4_right) := goodIn_app (goodIn_of _ (by decide +kernel)) ggX4_word_X4_right
set_option maxRecDepth 20000 in
theorem ggX4_word_X4_firstIn : GoodIn wsX4_word wsX4_firstIn := goodIn_r _ [20, 1, 21, 22, 23, 24, 25, 26, 27, 28] (by decide +kernel) (by decide +kernel)
set_option maxRecDepth 20000 in
theorem gX4_word_X4_firstIn : GoodIn wsX4_word (wsV RX4 41 RX4 yX4_firstIn wsX4_firstIn) := goodIn_app (goodIn_of _ (by decide +kernel)) ggX4_word_X4_firstIn
theorem dX4_word_0 : decode cX4_word 0 = .ok (.iload_n 1, 1) := by decide +kernel
theorem dX4_word_1 : decode cX4_word 1 = .ok (.invokestatic 93, 3) := by decide +kernel
theorem dX4_word_4 : decode cX4_word 4 = .ok (.ifCond .eq 13, 3) := by decide +kernel
theorem dX4_word_7 : decode cX4_word 7 = .ok (.iload_n 2, 1) := by decide +kernel
theorem dX4_word_8 : decode cX4_word 8 = .ok (.iconst 0, 1) := by decide +kernel
theorem dX4_word_9 : decode cX4_word 9 = .ok (.bipush 6, 2) := by decide +kernel
theorem dX4_word_11 : decode cX4_word 11 = .ok (.invokestatic 64, 3) := by decide +kernel
theorem dX4_word_14 : decode cX4_word 14 = .ok (.ifCond .ne 5, 3) := by decide +kernel
theorem dX4_word_17 : decode cX4_word 17 = .ok (.iconst (-1), 1) := by decide +kernel
theorem dX4_word_18 : decode cX4_word 18 = .ok (.ireturn, 1) := by decide +kernel
theorem dX4_word_19 : decode cX4_word 19 = .ok (.iload_n 2, 1) := by decide +kernel
theorem dX4_word_20 : decode cX4_word 20 = .ok (.iconst 4, 1) := by decide +kernel
theorem dX4_word_21 : decode cX4_word 21 = .ok (.if_icmp .ge 12, 3) := by decide +kernel
theorem dX4_word_24 : decode cX4_word 24 = .ok (.aload_n 0, 1) := by decide +kernel
theorem dX4_word_25 : decode cX4_word 25 = .ok (.iload_n 1, 1) := by decide +kernel
theorem dX4_word_26 : decode cX4_word 26 = .ok (.iload_n 2, 1) := by decide +kernel
theorem dX4_word_27 : decode cX4_word 27 = .ok (.invokevirtual 33, 3) := by decide +kernel
theorem dX4_word_30 : decode cX4_word 30 = .ok (.goto 39, 3) := by decide +kernel
theorem dX4_word_33 : decode cX4_word 33 = .ok (.iload_n 2, 1) := by decide +kernel
theorem dX4_word_34 : decode cX4_word 34 = .ok (.iconst 4, 1) := by decide +kernel
theorem dX4_word_35 : decode cX4_word 35 = .ok (.if_icmp .ne 16, 3) := by decide +kernel
theorem dX4_word_38 : decode cX4_word 38 = .ok (.aload_n 0, 1) := by decide +kernel
theorem dX4_word_39 : decode cX4_word 39 = .ok (.getfield 7, 3) := by decide +kernel
theorem dX4_word_42 : decode cX4_word 42 = .ok (.sipush 640, 3) := by decide +kernel
theorem dX4_word_45 : decode cX4_word 45 = .ok (.iload_n 1, 1) := by decide +kernel
theorem dX4_word_46 : decode cX4_word 46 = .ok (.iadd, 1) := by decide +kernel
theorem dX4_word_47 : decode cX4_word 47 = .ok (.iaload, 1) := by decide +kernel
theorem dX4_word_48 : decode cX4_word 48 = .ok (.goto 21, 3) := by decide +kernel
theorem dX4_word_51 : decode cX4_word 51 = .ok (.iload_n 2, 1) := by decide +kernel
theorem dX4_word_52 : decode cX4_word 52 = .ok (.iconst 5, 1) := by decide +kernel
theorem dX4_word_53 : decode cX4_word 53 = .ok (.if_icmp .ne 11, 3) := by decide +kernel
theorem dX4_word_56 : decode cX4_word 56 = .ok (.aload_n 0, 1) := by decide +kernel
theorem dX4_word_57 : decode cX4_word 57 = .ok (.iload_n 1, 1) := by decide +kernel
theorem dX4_word_58 : decode cX4_word 58 = .ok (.invokevirtual 37, 3) := by decide +kernel
theorem dX4_word_61 : decode cX4_word 61 = .ok (.goto 8, 3) := by decide +kernel
theorem dX4_word_64 : decode cX4_word 64 = .ok (.aload_n 0, 1) := by decide +kernel
theorem dX4_word_65 : decode cX4_word 65 = .ok (.iload_n 1, 1) := by decide +kernel
theorem dX4_word_66 : decode cX4_word 66 = .ok (.invokevirtual 41, 3) := by decide +kernel
theorem dX4_word_69 : decode cX4_word 69 = .ok (.ireturn, 1) := by decide +kernel
set_option maxRecDepth 20000 in
theorem ggX4_block_X4_in : GoodIn wsX4_block wsX4_in := goodIn_r _ [5] (by decide +kernel) (by decide +kernel)
set_option maxRecDepth 20000 in
theorem gX4_block_X4_in : GoodIn wsX4_block (va_wsS RX4 64 yX4_in wsX4_in) := goodIn_app (goodIn_of _ (by decide +kernel)) ggX4_block_X4_in
set_option maxRecDepth 20000 in
theorem ggX4_block_X4_isBlock : GoodIn wsX4_block wsX4_isBlock := goodIn_r _ [9, 1, 2, 3, 4, 5, 10, 11, 12, 13, 14, 15, 16, 17] (by decide +kernel) (by decide +kernel)
set_option maxRecDepth 20000 in
theorem gX4_block_X4_isBlock : GoodIn wsX4_block (wsV RX4 81 RX4 yX4_isBlock wsX4_isBlock) := goodIn_app (goodIn_of _ (by decide +kernel)) ggX4_block_X4_isBlock
theorem dX4_block_0 : decode cX4_block 0 = .ok (.iload_n 1, 1) := by decide +kernel
theorem dX4_block_1 : decode cX4_block 1 = .ok (.iconst 0, 1) := by decide +kernel
theorem dX4_block_2 : decode cX4_block 2 = .ok (.bipush 7, 2) := by decide +kernel
theorem dX4_block_4 : decode cX4_block 4 = .ok (.invokestatic 64, 3) := by decide +kernel
theorem dX4_block_7 : decode cX4_block 7 = .ok (.ifCond .eq 12, 3) := by decide +kernel
theorem dX4_block_10 : decode cX4_block 10 = .ok (.iload_n 2, 1) := by decide +kernel
theorem dX4_block_11 : decode cX4_block 11 = .ok (.iconst 0, 1) := by decide +kernel
theorem dX4_block_12 : decode cX4_block 12 = .ok (.iconst 3, 1) := by decide +kernel
theorem dX4_block_13 : decode cX4_block 13 = .ok (.invokestatic 64, 3) := by decide +kernel
theorem dX4_block_16 : decode cX4_block 16 = .ok (.ifCond .ne 5, 3) := by decide +kernel
theorem dX4_block_19 : decode cX4_block 19 = .ok (.iconst (-1), 1) := by decide +kernel
theorem dX4_block_20 : decode cX4_block 20 = .ok (.ireturn, 1) := by decide +kernel
theorem dX4_block_21 : decode cX4_block 21 = .ok (.aload_n 0, 1) := by decide +kernel
theorem dX4_block_22 : decode cX4_block 22 = .ok (.iload_n 1, 1) := by decide +kernel
theorem dX4_block_23 : decode cX4_block 23 = .ok (.invokevirtual 81, 3) := by decide +kernel
theorem dX4_block_26 : decode cX4_block 26 = .ok (.ifCond .ne 6, 3) := by decide +kernel
theorem dX4_block_29 : decode cX4_block 29 = .ok (.bipush (-9), 2) := by decide +kernel
theorem dX4_block_31 : decode cX4_block 31 = .ok (.ireturn, 1) := by decide +kernel
theorem dX4_block_32 : decode cX4_block 32 = .ok (.aload_n 0, 1) := by decide +kernel
theorem dX4_block_33 : decode cX4_block 33 = .ok (.getfield 7, 3) := by decide +kernel
theorem dX4_block_36 : decode cX4_block 36 = .ok (.sipush 650, 3) := by decide +kernel
theorem dX4_block_39 : decode cX4_block 39 = .ok (.iconst 2, 1) := by decide +kernel
theorem dX4_block_40 : decode cX4_block 40 = .ok (.iload_n 1, 1) := by decide +kernel
theorem dX4_block_41 : decode cX4_block 41 = .ok (.imul, 1) := by decide +kernel
theorem dX4_block_42 : decode cX4_block 42 = .ok (.iadd, 1) := by decide +kernel
theorem dX4_block_43 : decode cX4_block 43 = .ok (.iaload, 1) := by decide +kernel
theorem dX4_block_44 : decode cX4_block 44 = .ok (.istore_n 3, 1) := by decide +kernel
theorem dX4_block_45 : decode cX4_block 45 = .ok (.aload_n 0, 1) := by decide +kernel
theorem dX4_block_46 : decode cX4_block 46 = .ok (.getfield 7, 3) := by decide +kernel
theorem dX4_block_49 : decode cX4_block 49 = .ok (.sipush 650, 3) := by decide +kernel
theorem dX4_block_52 : decode cX4_block 52 = .ok (.iconst 2, 1) := by decide +kernel
theorem dX4_block_53 : decode cX4_block 53 = .ok (.iload_n 1, 1) := by decide +kernel
theorem dX4_block_54 : decode cX4_block 54 = .ok (.imul, 1) := by decide +kernel
theorem dX4_block_55 : decode cX4_block 55 = .ok (.iadd, 1) := by decide +kernel
theorem dX4_block_56 : decode cX4_block 56 = .ok (.iconst 1, 1) := by decide +kernel
theorem dX4_block_57 : decode cX4_block 57 = .ok (.iadd, 1) := by decide +kernel
theorem dX4_block_58 : decode cX4_block 58 = .ok (.iaload, 1) := by decide +kernel
theorem dX4_block_59 : decode cX4_block 59 = .ok (.istore 4, 2) := by decide +kernel
theorem dX4_block_61 : decode cX4_block 61 = .ok (.iconst 0, 1) := by decide +kernel
theorem dX4_block_62 : decode cX4_block 62 = .ok (.istore 5, 2) := by decide +kernel
theorem dX4_block_64 : decode cX4_block 64 = .ok (.iload_n 3, 1) := by decide +kernel
theorem dX4_block_65 : decode cX4_block 65 = .ok (.istore 6, 2) := by decide +kernel
theorem dX4_block_67 : decode cX4_block 67 = .ok (.iload 6, 2) := by decide +kernel
theorem dX4_block_69 : decode cX4_block 69 = .ok (.iload_n 3, 1) := by decide +kernel
theorem dX4_block_70 : decode cX4_block 70 = .ok (.iload 4, 2) := by decide +kernel
theorem dX4_block_72 : decode cX4_block 72 = .ok (.iadd, 1) := by decide +kernel
theorem dX4_block_73 : decode cX4_block 73 = .ok (.if_icmp .ge 39, 3) := by decide +kernel
theorem dX4_block_76 : decode cX4_block 76 = .ok (.iload 5, 2) := by decide +kernel
theorem dX4_block_78 : decode cX4_block 78 = .ok (.aload_n 0, 1) := by decide +kernel
theorem dX4_block_79 : decode cX4_block 79 = .ok (.getfield 7, 3) := by decide +kernel
theorem dX4_block_82 : decode cX4_block 82 = .ok (.iload 6, 2) := by decide +kernel
theorem dX4_block_84 : decode cX4_block 84 = .ok (.iaload, 1) := by decide +kernel
theorem dX4_block_85 : decode cX4_block 85 = .ok (.iload_n 2, 1) := by decide +kernel
theorem dX4_block_86 : decode cX4_block 86 = .ok (.iconst 2, 1) := by decide +kernel
theorem dX4_block_87 : decode cX4_block 87 = .ok (.if_icmp .ne 7, 3) := by decide +kernel
theorem dX4_block_90 : decode cX4_block 90 = .ok (.iconst 1, 1) := by decide +kernel
theorem dX4_block_91 : decode cX4_block 91 = .ok (.goto 4, 3) := by decide +kernel
theorem dX4_block_94 : decode cX4_block 94 = .ok (.iconst 3, 1) := by decide +kernel
theorem dX4_block_95 : decode cX4_block 95 = .ok (.if_icmp .ne 7, 3) := by decide +kernel
theorem dX4_block_98 : decode cX4_block 98 = .ok (.iconst 1, 1) := by decide +kernel
theorem dX4_block_99 : decode cX4_block 99 = .ok (.goto 4, 3) := by decide +kernel
theorem dX4_block_102 : decode cX4_block 102 = .ok (.iconst 0, 1) := by decide +kernel
theorem dX4_block_103 : decode cX4_block 103 = .ok (.iadd, 1) := by decide +kernel
theorem dX4_block_104 : decode cX4_block 104 = .ok (.istore 5, 2) := by decide +kernel
theorem dX4_block_106 : decode cX4_block 106 = .ok (.iinc 6 1, 3) := by decide +kernel
theorem dX4_block_109 : decode cX4_block 109 = .ok (.goto (-42), 3) := by decide +kernel
theorem dX4_block_112 : decode cX4_block 112 = .ok (.iload_n 2, 1) := by decide +kernel
theorem dX4_block_113 : decode cX4_block 113 = .ok (.ifCond .ne 7, 3) := by decide +kernel
theorem dX4_block_116 : decode cX4_block 116 = .ok (.iload_n 3, 1) := by decide +kernel
theorem dX4_block_117 : decode cX4_block 117 = .ok (.goto 15, 3) := by decide +kernel
theorem dX4_block_120 : decode cX4_block 120 = .ok (.iload_n 2, 1) := by decide +kernel
theorem dX4_block_121 : decode cX4_block 121 = .ok (.iconst 1, 1) := by decide +kernel
theorem dX4_block_122 : decode cX4_block 122 = .ok (.if_icmp .ne 8, 3) := by decide +kernel
theorem dX4_block_125 : decode cX4_block 125 = .ok (.iload 4, 2) := by decide +kernel
theorem dX4_block_127 : decode cX4_block 127 = .ok (.goto 5, 3) := by decide +kernel
theorem dX4_block_130 : decode cX4_block 130 = .ok (.iload 5, 2) := by decide +kernel
theorem dX4_block_132 : decode cX4_block 132 = .ok (.ireturn, 1) := by decide +kernel
set_option maxRecDepth 20000 in
theorem ggX4_audit_X4_in : GoodIn wsX4_audit wsX4_in := goodIn_r _ [5] (by decide +kernel) (by decide +kernel)
set_option maxRecDepth 20000 in
theorem gX4_audit_X4_in : GoodIn wsX4_audit (va_wsS RX4 64 yX4_in wsX4_in) := goodIn_app (goodIn_of _ (by decide +kernel)) ggX4_audit_X4_in
set_option maxRecDepth 20000 in
theorem ggX4_audit_X4_right : GoodIn wsX4_audit wsX4_right := goodIn_r _ [9, 10, 11, 12, 4, 13, 1, 14, 15, 16, 17, 18, 19, 20, 21] (by decide +kernel) (by decide +kernel)
set_option maxRecDepth 20000 in
theorem gX4_audit_X4_right : GoodIn wsX4_audit (wsV RX4 37 RX4 yX4_right wsX4_right) := goodIn_app (goodIn_of _ (by decide +kernel)) ggX4_audit_X4_right
theorem dX4_audit_0 : decode cX4_audit 0 = .ok (.iload_n 1, 1) := by decide +kernel
theorem dX4_audit_1 : decode cX4_audit 1 = .ok (.iconst 0, 1) := by decide +kernel
theorem dX4_audit_2 : decode cX4_audit 2 = .ok (.iconst 2, 1) := by decide +kernel
theorem dX4_audit_3 : decode cX4_audit 3 = .ok (.invokestatic 64, 3) := by decide +kernel
theorem dX4_audit_6 : decode cX4_audit 6 = .ok (.ifCond .ne 5, 3) := by decide +kernel
theorem dX4_audit_9 : decode cX4_audit 9 = .ok (.iconst (-1), 1) := by decide +kernel
theorem dX4_audit_10 : decode cX4_audit 10 = .ok (.ireturn, 1) := by decide +kernel
theorem dX4_audit_11 : decode cX4_audit 11 = .ok (.iconst 0, 1) := by decide +kernel
theorem dX4_audit_12 : decode cX4_audit 12 = .ok (.istore_n 2, 1) := by decide +kernel
theorem dX4_audit_13 : decode cX4_audit 13 = .ok (.iconst 0, 1) := by decide +kernel
theorem dX4_audit_14 : decode cX4_audit 14 = .ok (.istore_n 3, 1) := by decide +kernel
theorem dX4_audit_15 : decode cX4_audit 15 = .ok (.bipush (-9), 2) := by decide +kernel
theorem dX4_audit_17 : decode cX4_audit 17 = .ok (.istore 4, 2) := by decide +kernel
theorem dX4_audit_19 : decode cX4_audit 19 = .ok (.bipush 9, 2) := by decide +kernel
theorem dX4_audit_21 : decode cX4_audit 21 = .ok (.istore 5, 2) := by decide +kernel
theorem dX4_audit_23 : decode cX4_audit 23 = .ok (.iload 5, 2) := by decide +kernel
theorem dX4_audit_25 : decode cX4_audit 25 = .ok (.ifCond .lt 86, 3) := by decide +kernel
theorem dX4_audit_28 : decode cX4_audit 28 = .ok (.aload_n 0, 1) := by decide +kernel
theorem dX4_audit_29 : decode cX4_audit 29 = .ok (.getfield 7, 3) := by decide +kernel
theorem dX4_audit_32 : decode cX4_audit 32 = .ok (.sipush 640, 3) := by decide +kernel
theorem dX4_audit_35 : decode cX4_audit 35 = .ok (.iload 5, 2) := by decide +kernel
theorem dX4_audit_37 : decode cX4_audit 37 = .ok (.iadd, 1) := by decide +kernel
theorem dX4_audit_38 : decode cX4_audit 38 = .ok (.iaload, 1) := by decide +kernel
theorem dX4_audit_39 : decode cX4_audit 39 = .ok (.aload_n 0, 1) := by decide +kernel
theorem dX4_audit_40 : decode cX4_audit 40 = .ok (.iload 5, 2) := by decide +kernel
theorem dX4_audit_42 : decode cX4_audit 42 = .ok (.invokevirtual 37, 3) := by decide +kernel
theorem dX4_audit_45 : decode cX4_audit 45 = .ok (.if_icmp .eq 7, 3) := by decide +kernel
theorem dX4_audit_48 : decode cX4_audit 48 = .ok (.iconst 1, 1) := by decide +kernel
theorem dX4_audit_49 : decode cX4_audit 49 = .ok (.goto 4, 3) := by decide +kernel
theorem dX4_audit_52 : decode cX4_audit 52 = .ok (.iconst 0, 1) := by decide +kernel
theorem dX4_audit_53 : decode cX4_audit 53 = .ok (.istore 6, 2) := by decide +kernel
theorem dX4_audit_55 : decode cX4_audit 55 = .ok (.iload_n 2, 1) := by decide +kernel
theorem dX4_audit_56 : decode cX4_audit 56 = .ok (.iload 6, 2) := by decide +kernel
theorem dX4_audit_58 : decode cX4_audit 58 = .ok (.ifCond .eq 7, 3) := by decide +kernel
theorem dX4_audit_61 : decode cX4_audit 61 = .ok (.iconst 1, 1) := by decide +kernel
theorem dX4_audit_62 : decode cX4_audit 62 = .ok (.goto 4, 3) := by decide +kernel
theorem dX4_audit_65 : decode cX4_audit 65 = .ok (.iconst 0, 1) := by decide +kernel
theorem dX4_audit_66 : decode cX4_audit 66 = .ok (.iadd, 1) := by decide +kernel
theorem dX4_audit_67 : decode cX4_audit 67 = .ok (.istore_n 2, 1) := by decide +kernel
theorem dX4_audit_68 : decode cX4_audit 68 = .ok (.iload_n 3, 1) := by decide +kernel
theorem dX4_audit_69 : decode cX4_audit 69 = .ok (.iload 6, 2) := by decide +kernel
theorem dX4_audit_71 : decode cX4_audit 71 = .ok (.ifCond .eq 17, 3) := by decide +kernel
theorem dX4_audit_74 : decode cX4_audit 74 = .ok (.aload_n 0, 1) := by decide +kernel
theorem dX4_audit_75 : decode cX4_audit 75 = .ok (.getfield 7, 3) := by decide +kernel
theorem dX4_audit_78 : decode cX4_audit 78 = .ok (.sipush 640, 3) := by decide +kernel
theorem dX4_audit_81 : decode cX4_audit 81 = .ok (.iload 5, 2) := by decide +kernel
theorem dX4_audit_83 : decode cX4_audit 83 = .ok (.iadd, 1) := by decide +kernel
theorem dX4_audit_84 : decode cX4_audit 84 = .ok (.iaload, 1) := by decide +kernel
theorem dX4_audit_85 : decode cX4_audit 85 = .ok (.goto 4, 3) := by decide +kernel
theorem dX4_audit_88 : decode cX4_audit 88 = .ok (.iconst 0, 1) := by decide +kernel
theorem dX4_audit_89 : decode cX4_audit 89 = .ok (.iadd, 1) := by decide +kernel
theorem dX4_audit_90 : decode cX4_audit 90 = .ok (.istore_n 3, 1) := by decide +kernel
theorem dX4_audit_91 : decode cX4_audit 91 = .ok (.iload 6, 2) := by decide +kernel
theorem dX4_audit_93 : decode cX4_audit 93 = .ok (.ifCond .eq 8, 3) := by decide +kernel
theorem dX4_audit_96 : decode cX4_audit 96 = .ok (.iload 5, 2) := by decide +kernel
theorem dX4_audit_98 : decode cX4_audit 98 = .ok (.goto 5, 3) := by decide +kernel
theorem dX4_audit_101 : decode cX4_audit 101 = .ok (.iload 4, 2) := by decide +kernel
theorem dX4_audit_103 : decode cX4_audit 103 = .ok (.istore 4, 2) := by decide +kernel
theorem dX4_audit_105 : decode cX4_audit 105 = .ok (.iinc 5 (-1), 3) := by decide +kernel
theorem dX4_audit_108 : decode cX4_audit 108 = .ok (.goto (-85), 3) := by decide +kernel
theorem dX4_audit_111 : decode cX4_audit 111 = .ok (.iload_n 1, 1) := by decide +kernel
theorem dX4_audit_112 : decode cX4_audit 112 = .ok (.ifCond .ne 7, 3) := by decide +kernel
theorem dX4_audit_115 : decode cX4_audit 115 = .ok (.iload_n 2, 1) := by decide +kernel
theorem dX4_audit_116 : decode cX4_audit 116 = .ok (.goto 14, 3) := by decide +kernel
theorem dX4_audit_119 : decode cX4_audit 119 = .ok (.iload_n 1, 1) := by decide +kernel
theorem dX4_audit_120 : decode cX4_audit 120 = .ok (.iconst 1, 1) := by decide +kernel
theorem dX4_audit_121 : decode cX4_audit 121 = .ok (.if_icmp .ne 8, 3) := by decide +kernel
theorem dX4_audit_124 : decode cX4_audit 124 = .ok (.iload 4, 2) := by decide +kernel
theorem dX4_audit_126 : decode cX4_audit 126 = .ok (.goto 4, 3) := by decide +kernel
theorem dX4_audit_129 : decode cX4_audit 129 = .ok (.iload_n 3, 1) := by decide +kernel
theorem dX4_audit_130 : decode cX4_audit 130 = .ok (.ireturn, 1) := by decide +kernel
set_option maxRecDepth 20000 in
theorem ggX4_next_X4_in : GoodIn wsX4_next wsX4_in := goodIn_r _ [6] (by decide +kernel) (by decide +kernel)
set_option maxRecDepth 20000 in
theorem gX4_next_X4_in : GoodIn wsX4_next (va_wsS RX4 64 yX4_in wsX4_in) := goodIn_app (goodIn_of _ (by decide +kernel)) ggX4_next_X4_in
set_option maxRecDepth 20000 in
theorem ggX4_next_X4_copies : GoodIn wsX4_next wsX4_copies := goodIn_r _ [9] (by decide +kernel) (by decide +kernel)
set_option maxRecDepth 20000 in
theorem gX4_next_X4_copies : GoodIn wsX4_next (va_wsS RX4 25 yX4_copies wsX4_copies) := goodIn_app (goodIn_of _ (by decide +kernel)) ggX4_next_X4_copies
set_option maxRecDepth 20000 in
theorem ggX4_next_X4_inAll : GoodIn wsX4_next wsX4_inAll := goodIn_r _ [13, 14, 15, 16, 5, 17, 1, 42, 43, 44, 45, 46, 47, 48, 49] (by decide +kernel) (by decide +kernel)
set_option maxRecDepth 20000 in
theorem gX4_next_X4_inAll : GoodIn wsX4_next (wsV RX4 131 RX4 yX4_inAll wsX4_inAll) := goodIn_app (goodIn_of _ (by decide +kernel)) ggX4_next_X4_inAll
set_option maxRecDepth 20000 in
theorem ggX4_next_X4_takes1 : GoodIn wsX4_next wsX4_takes1 := goodIn_r _ [21, 22, 23, 24, 5, 25, 1, 26, 27, 28, 29, 30, 31, 32, 33, 34, 35, 36, 37, 14, 15, 16, 17, 38, 39, 40, 41, 42, 43, 44, 45, 46, 47, 48, 49] (by decide +kernel) (by decide +kernel)
set_option maxRecDepth 20000 in
theorem gX4_next_X4_takes1 : GoodIn wsX4_next (wsV RX4 58 RX4 yX4_takes1 wsX4_takes1) := goodIn_app (goodIn_of _ (by decide +kernel)) ggX4_next_X4_takes1
theorem dX4_next_0 : decode cX4_next 0 = .ok (.iload_n 1, 1) := by decide +kernel
theorem dX4_next_1 : decode cX4_next 1 = .ok (.iconst 0, 1) := by decide +kernel
theorem dX4_next_2 : decode cX4_next 2 = .ok (.iconst 2, 1) := by decide +kernel
theorem dX4_next_3 : decode cX4_next 3 = .ok (.invokestatic 64, 3) := by decide +kernel
theorem dX4_next_6 : decode cX4_next 6 = .ok (.ifCond .ne 5, 3) := by decide +kernel
theorem dX4_next_9 : decode cX4_next 9 = .ok (.iconst (-1), 1) := by decide +kernel
theorem dX4_next_10 : decode cX4_next 10 = .ok (.ireturn, 1) := by decide +kernel
theorem dX4_next_11 : decode cX4_next 11 = .ok (.aload_n 0, 1) := by decide +kernel
theorem dX4_next_12 : decode cX4_next 12 = .ok (.getfield 7, 3) := by decide +kernel
theorem dX4_next_15 : decode cX4_next 15 = .ok (.iconst 0, 1) := by decide +kernel
theorem dX4_next_16 : decode cX4_next 16 = .ok (.aload_n 0, 1) := by decide +kernel
theorem dX4_next_17 : decode cX4_next 17 = .ok (.getfield 19, 3) := by decide +kernel
theorem dX4_next_20 : decode cX4_next 20 = .ok (.iconst 0, 1) := by decide +kernel
theorem dX4_next_21 : decode cX4_next 21 = .ok (.invokestatic 25, 3) := by decide +kernel
theorem dX4_next_24 : decode cX4_next 24 = .ok (.aload_n 0, 1) := by decide +kernel
theorem dX4_next_25 : decode cX4_next 25 = .ok (.iconst 2, 1) := by decide +kernel
theorem dX4_next_26 : decode cX4_next 26 = .ok (.invokevirtual 131, 3) := by decide +kernel
theorem dX4_next_29 : decode cX4_next 29 = .ok (.istore_n 2, 1) := by decide +kernel
theorem dX4_next_30 : decode cX4_next 30 = .ok (.aload_n 0, 1) := by decide +kernel
theorem dX4_next_31 : decode cX4_next 31 = .ok (.invokevirtual 58, 3) := by decide +kernel
theorem dX4_next_34 : decode cX4_next 34 = .ok (.istore_n 3, 1) := by decide +kernel
theorem dX4_next_35 : decode cX4_next 35 = .ok (.aload_n 0, 1) := by decide +kernel
theorem dX4_next_36 : decode cX4_next 36 = .ok (.getfield 7, 3) := by decide +kernel
theorem dX4_next_39 : decode cX4_next 39 = .ok (.sipush 666, 3) := by decide +kernel
theorem dX4_next_42 : decode cX4_next 42 = .ok (.iaload, 1) := by decide +kernel
theorem dX4_next_43 : decode cX4_next 43 = .ok (.aload_n 0, 1) := by decide +kernel
theorem dX4_next_44 : decode cX4_next 44 = .ok (.getfield 19, 3) := by decide +kernel
theorem dX4_next_47 : decode cX4_next 47 = .ok (.sipush 666, 3) := by decide +kernel
theorem dX4_next_50 : decode cX4_next 50 = .ok (.iaload, 1) := by decide +kernel
theorem dX4_next_51 : decode cX4_next 51 = .ok (.isub, 1) := by decide +kernel
theorem dX4_next_52 : decode cX4_next 52 = .ok (.istore 4, 2) := by decide +kernel
theorem dX4_next_54 : decode cX4_next 54 = .ok (.aload_n 0, 1) := by decide +kernel
theorem dX4_next_55 : decode cX4_next 55 = .ok (.iconst 2, 1) := by decide +kernel
theorem dX4_next_56 : decode cX4_next 56 = .ok (.invokevirtual 131, 3) := by decide +kernel
theorem dX4_next_59 : decode cX4_next 59 = .ok (.iload_n 2, 1) := by decide +kernel
theorem dX4_next_60 : decode cX4_next 60 = .ok (.if_icmp .ge 7, 3) := by decide +kernel
theorem dX4_next_63 : decode cX4_next 63 = .ok (.iconst 1, 1) := by decide +kernel
theorem dX4_next_64 : decode cX4_next 64 = .ok (.goto 4, 3) := by decide +kernel
theorem dX4_next_67 : decode cX4_next 67 = .ok (.iconst 0, 1) := by decide +kernel
theorem dX4_next_68 : decode cX4_next 68 = .ok (.istore 5, 2) := by decide +kernel
theorem dX4_next_70 : decode cX4_next 70 = .ok (.aload_n 0, 1) := by decide +kernel
theorem dX4_next_71 : decode cX4_next 71 = .ok (.getfield 19, 3) := by decide +kernel
theorem dX4_next_74 : decode cX4_next 74 = .ok (.iconst 0, 1) := by decide +kernel
theorem dX4_next_75 : decode cX4_next 75 = .ok (.aload_n 0, 1) := by decide +kernel
theorem dX4_next_76 : decode cX4_next 76 = .ok (.getfield 7, 3) := by decide +kernel
theorem dX4_next_79 : decode cX4_next 79 = .ok (.iconst 0, 1) := by decide +kernel
theorem dX4_next_80 : decode cX4_next 80 = .ok (.invokestatic 25, 3) := by decide +kernel
theorem dX4_next_83 : decode cX4_next 83 = .ok (.iload_n 3, 1) := by decide +kernel
theorem dX4_next_84 : decode cX4_next 84 = .ok (.ifCond .ge 8, 3) := by decide +kernel
theorem dX4_next_87 : decode cX4_next 87 = .ok (.bipush (-9), 2) := by decide +kernel
theorem dX4_next_89 : decode cX4_next 89 = .ok (.goto 31, 3) := by decide +kernel
theorem dX4_next_92 : decode cX4_next 92 = .ok (.iload_n 1, 1) := by decide +kernel
theorem dX4_next_93 : decode cX4_next 93 = .ok (.ifCond .ne 7, 3) := by decide +kernel
theorem dX4_next_96 : decode cX4_next 96 = .ok (.iload_n 3, 1) := by decide +kernel
theorem dX4_next_97 : decode cX4_next 97 = .ok (.goto 23, 3) := by decide +kernel
theorem dX4_next_100 : decode cX4_next 100 = .ok (.iload_n 1, 1) := by decide +kernel
theorem dX4_next_101 : decode cX4_next 101 = .ok (.iconst 1, 1) := by decide +kernel
theorem dX4_next_102 : decode cX4_next 102 = .ok (.if_icmp .ne 8, 3) := by decide +kernel
theorem dX4_next_105 : decode cX4_next 105 = .ok (.iload 4, 2) := by decide +kernel
theorem dX4_next_107 : decode cX4_next 107 = .ok (.goto 13, 3) := by decide +kernel
theorem dX4_next_110 : decode cX4_next 110 = .ok (.iload 5, 2) := by decide +kernel
theorem dX4_next_112 : decode cX4_next 112 = .ok (.ifCond .eq 7, 3) := by decide +kernel
theorem dX4_next_115 : decode cX4_next 115 = .ok (.iconst 1, 1) := by decide +kernel
theorem dX4_next_116 : decode cX4_next 116 = .ok (.goto 4, 3) := by decide +kernel
theorem dX4_next_119 : decode cX4_next 119 = .ok (.iconst 0, 1) := by decide +kernel
theorem dX4_next_120 : decode cX4_next 120 = .ok (.ireturn, 1) := by decide +kernel
set_option maxRecDepth 20000 in
theorem ggX4_runAt_X4_in : GoodIn wsX4_runAt wsX4_in := goodIn_r _ [4] (by decide +kernel) (by decide +kernel)
set_option maxRecDepth 20000 in
theorem gX4_runAt_X4_in : GoodIn wsX4_runAt (va_wsS RX4 64 yX4_in wsX4_in) := goodIn_app (goodIn_of _ (by decide +kernel)) ggX4_runAt_X4_in
set_option maxRecDepth 20000 in
theorem ggX4_runAt_X4_runFrom : GoodIn wsX4_runAt wsX4_runFrom := goodIn_r _ [8, 9, 10, 11, 12, 13, 14, 15, 16, 17] (by decide +kernel) (by decide +kernel)
set_option maxRecDepth 20000 in
theorem gX4_runAt_X4_runFrom : GoodIn wsX4_runAt (wsV RX4 68 RX4 yX4_runFrom wsX4_runFrom) := goodIn_app (goodIn_of _ (by decide +kernel)) ggX4_runAt_X4_runFrom
theorem dX4_runAt_0 : decode cX4_runAt 0 = .ok (.iload_n 1, 1) := by decide +kernel
theorem dX4_runAt_1 : decode cX4_runAt 1 = .ok (.iconst 1, 1) := by decide +kernel
theorem dX4_runAt_2 : decode cX4_runAt 2 = .ok (.bipush 64, 2) := by decide +kernel
theorem dX4_runAt_4 : decode cX4_runAt 4 = .ok (.invokestatic 64, 3) := by decide +kernel
theorem dX4_runAt_7 : decode cX4_runAt 7 = .ok (.ifCond .eq 11, 3) := by decide +kernel
theorem dX4_runAt_10 : decode cX4_runAt 10 = .ok (.aload_n 0, 1) := by decide +kernel
theorem dX4_runAt_11 : decode cX4_runAt 11 = .ok (.iload_n 1, 1) := by decide +kernel
theorem dX4_runAt_12 : decode cX4_runAt 12 = .ok (.invokevirtual 68, 3) := by decide +kernel
theorem dX4_runAt_15 : decode cX4_runAt 15 = .ok (.goto 4, 3) := by decide +kernel
theorem dX4_runAt_18 : decode cX4_runAt 18 = .ok (.iconst (-1), 1) := by decide +kernel
theorem dX4_runAt_19 : decode cX4_runAt 19 = .ok (.ireturn, 1) := by decide +kernel
set_option maxRecDepth 20000 in
theorem ggX4_placeFor_X4_isSize : GoodIn wsX4_placeFor wsX4_isSize := goodIn_r _ [4] (by decide +kernel) (by decide +kernel)
set_option maxRecDepth 20000 in
theorem gX4_placeFor_X4_isSize : GoodIn wsX4_placeFor (va_wsS RX4 77 yX4_isSize wsX4_isSize) := goodIn_app (goodIn_of _ (by decide +kernel)) ggX4_placeFor_X4_isSize
set_option maxRecDepth 20000 in
theorem ggX4_placeFor_X4_placeOf : GoodIn wsX4_placeFor wsX4_placeOf := goodIn_r _ [8, 9, 10, 11, 12, 13, 14, 15, 16, 17] (by decide +kernel) (by decide +kernel)
set_option maxRecDepth 20000 in
theorem gX4_placeFor_X4_placeOf : GoodIn wsX4_placeFor (wsV RX4 84 RX4 yX4_placeOf wsX4_placeOf) := goodIn_app (goodIn_of _ (by decide +kernel)) ggX4_placeFor_X4_placeOf
theorem dX4_placeFor_0 : decode cX4_placeFor 0 = .ok (.iload_n 1, 1) := by decide +kernel
theorem dX4_placeFor_1 : decode cX4_placeFor 1 = .ok (.invokestatic 77, 3) := by decide +kernel
theorem dX4_placeFor_4 : decode cX4_placeFor 4 = .ok (.ifCond .eq 11, 3) := by decide +kernel
theorem dX4_placeFor_7 : decode cX4_placeFor 7 = .ok (.aload_n 0, 1) := by decide +kernel
theorem dX4_placeFor_8 : decode cX4_placeFor 8 = .ok (.iload_n 1, 1) := by decide +kernel
theorem dX4_placeFor_9 : decode cX4_placeFor 9 = .ok (.invokevirtual 84, 3) := by decide +kernel
theorem dX4_placeFor_12 : decode cX4_placeFor 12 = .ok (.goto 4, 3) := by decide +kernel
theorem dX4_placeFor_15 : decode cX4_placeFor 15 = .ok (.iconst (-1), 1) := by decide +kernel
theorem dX4_placeFor_16 : decode cX4_placeFor 16 = .ok (.ireturn, 1) := by decide +kernel
set_option maxRecDepth 20000 in
theorem ggX4_takes_X4_copies : GoodIn wsX4_takes wsX4_copies := goodIn_r _ [6] (by decide +kernel) (by decide +kernel)
set_option maxRecDepth 20000 in
theorem gX4_takes_X4_copies : GoodIn wsX4_takes (va_wsS RX4 25 yX4_copies wsX4_copies) := goodIn_app (goodIn_of _ (by decide +kernel)) ggX4_takes_X4_copies
set_option maxRecDepth 20000 in
theorem ggX4_takes_X4_takes1 : GoodIn wsX4_takes wsX4_takes1 := goodIn_r _ [10, 11, 12, 13, 5, 14, 1, 15, 16, 17, 18, 19, 20, 21, 22, 23, 24, 25, 26, 27, 28, 29, 30, 31, 32, 33, 34, 35, 36, 37, 38, 39, 40, 41, 42] (by decide +kernel) (by decide +kernel)
set_option maxRecDepth 20000 in
theorem gX4_takes_X4_takes1 : GoodIn wsX4_takes (wsV RX4 58 RX4 yX4_takes1 wsX4_takes1) := goodIn_app (goodIn_of _ (by decide +kernel)) ggX4_takes_X4_takes1
theorem dX4_takes_0 : decode cX4_takes 0 = .ok (.aload_n 0, 1) := by decide +kernel
theorem dX4_takes_1 : decode cX4_takes 1 = .ok (.getfield 7, 3) := by decide +kernel
theorem dX4_takes_4 : decode cX4_takes 4 = .ok (.iconst 0, 1) := by decide +kernel
theorem dX4_takes_5 : decode cX4_takes 5 = .ok (.aload_n 0, 1) := by decide +kernel
theorem dX4_takes_6 : decode cX4_takes 6 = .ok (.getfield 19, 3) := by decide +kernel
theorem dX4_takes_9 : decode cX4_takes 9 = .ok (.iconst 0, 1) := by decide +kernel
theorem dX4_takes_10 : decode cX4_takes 10 = .ok (.invokestatic 25, 3) := by decide +kernel
theorem dX4_takes_13 : decode cX4_takes 13 = .ok (.iconst 0, 1) := by decide +kernel
theorem dX4_takes_14 : decode cX4_takes 14 = .ok (.istore_n 1, 1) := by decide +kernel
theorem dX4_takes_15 : decode cX4_takes 15 = .ok (.aload_n 0, 1) := by decide +kernel
theorem dX4_takes_16 : decode cX4_takes 16 = .ok (.invokevirtual 58, 3) := by decide +kernel
theorem dX4_takes_19 : decode cX4_takes 19 = .ok (.ifCond .lt 9, 3) := by decide +kernel
theorem dX4_takes_22 : decode cX4_takes 22 = .ok (.iinc 1 1, 3) := by decide +kernel
theorem dX4_takes_25 : decode cX4_takes 25 = .ok (.goto (-10), 3) := by decide +kernel
theorem dX4_takes_28 : decode cX4_takes 28 = .ok (.aload_n 0, 1) := by decide +kernel
theorem dX4_takes_29 : decode cX4_takes 29 = .ok (.getfield 19, 3) := by decide +kernel
theorem dX4_takes_32 : decode cX4_takes 32 = .ok (.iconst 0, 1) := by decide +kernel
theorem dX4_takes_33 : decode cX4_takes 33 = .ok (.aload_n 0, 1) := by decide +kernel
theorem dX4_takes_34 : decode cX4_takes 34 = .ok (.getfield 7, 3) := by decide +kernel
theorem dX4_takes_37 : decode cX4_takes 37 = .ok (.iconst 0, 1) := by decide +kernel
theorem dX4_takes_38 : decode cX4_takes 38 = .ok (.invokestatic 25, 3) := by decide +kernel
theorem dX4_takes_41 : decode cX4_takes 41 = .ok (.iload_n 1, 1) := by decide +kernel
theorem dX4_takes_42 : decode cX4_takes 42 = .ok (.ireturn, 1) := by decide +kernel
theorem dJ6_bitCount_0f7a4_0 : decode cJ6_bitCount_0f7a4 0 = .ok (.iload_n 0, 1) := by decide +kernel
theorem dJ6_bitCount_0f7a4_1 : decode cJ6_bitCount_0f7a4 1 = .ok (.iload_n 0, 1) := by decide +kernel
theorem dJ6_bitCount_0f7a4_2 : decode cJ6_bitCount_0f7a4 2 = .ok (.iconst 1, 1) := by decide +kernel
theorem dJ6_bitCount_0f7a4_3 : decode cJ6_bitCount_0f7a4 3 = .ok (.iushr, 1) := by decide +kernel
theorem dJ6_bitCount_0f7a4_4 : decode cJ6_bitCount_0f7a4 4 = .ok (.ldc_w 265, 3) := by decide +kernel
theorem dJ6_bitCount_0f7a4_7 : decode cJ6_bitCount_0f7a4 7 = .ok (.iand, 1) := by decide +kernel
theorem dJ6_bitCount_0f7a4_8 : decode cJ6_bitCount_0f7a4 8 = .ok (.isub, 1) := by decide +kernel
theorem dJ6_bitCount_0f7a4_9 : decode cJ6_bitCount_0f7a4 9 = .ok (.istore_n 0, 1) := by decide +kernel
theorem dJ6_bitCount_0f7a4_10 : decode cJ6_bitCount_0f7a4 10 = .ok (.iload_n 0, 1) := by decide +kernel
theorem dJ6_bitCount_0f7a4_11 : decode cJ6_bitCount_0f7a4 11 = .ok (.ldc_w 266, 3) := by decide +kernel
theorem dJ6_bitCount_0f7a4_14 : decode cJ6_bitCount_0f7a4 14 = .ok (.iand, 1) := by decide +kernel
theorem dJ6_bitCount_0f7a4_15 : decode cJ6_bitCount_0f7a4 15 = .ok (.iload_n 0, 1) := by decide +kernel
theorem dJ6_bitCount_0f7a4_16 : decode cJ6_bitCount_0f7a4 16 = .ok (.iconst 2, 1) := by decide +kernel
theorem dJ6_bitCount_0f7a4_17 : decode cJ6_bitCount_0f7a4 17 = .ok (.iushr, 1) := by decide +kernel
theorem dJ6_bitCount_0f7a4_18 : decode cJ6_bitCount_0f7a4 18 = .ok (.ldc_w 266, 3) := by decide +kernel
theorem dJ6_bitCount_0f7a4_21 : decode cJ6_bitCount_0f7a4 21 = .ok (.iand, 1) := by decide +kernel
theorem dJ6_bitCount_0f7a4_22 : decode cJ6_bitCount_0f7a4 22 = .ok (.iadd, 1) := by decide +kernel
theorem dJ6_bitCount_0f7a4_23 : decode cJ6_bitCount_0f7a4 23 = .ok (.istore_n 0, 1) := by decide +kernel
theorem dJ6_bitCount_0f7a4_24 : decode cJ6_bitCount_0f7a4 24 = .ok (.iload_n 0, 1) := by decide +kernel
theorem dJ6_bitCount_0f7a4_25 : decode cJ6_bitCount_0f7a4 25 = .ok (.iload_n 0, 1) := by decide +kernel
theorem dJ6_bitCount_0f7a4_26 : decode cJ6_bitCount_0f7a4 26 = .ok (.iconst 4, 1) := by decide +kernel
theorem dJ6_bitCount_0f7a4_27 : decode cJ6_bitCount_0f7a4 27 = .ok (.iushr, 1) := by decide +kernel
theorem dJ6_bitCount_0f7a4_28 : decode cJ6_bitCount_0f7a4 28 = .ok (.iadd, 1) := by decide +kernel
theorem dJ6_bitCount_0f7a4_29 : decode cJ6_bitCount_0f7a4 29 = .ok (.ldc_w 267, 3) := by decide +kernel
theorem dJ6_bitCount_0f7a4_32 : decode cJ6_bitCount_0f7a4 32 = .ok (.iand, 1) := by decide +kernel
theorem dJ6_bitCount_0f7a4_33 : decode cJ6_bitCount_0f7a4 33 = .ok (.istore_n 0, 1) := by decide +kernel
theorem dJ6_bitCount_0f7a4_34 : decode cJ6_bitCount_0f7a4 34 = .ok (.iload_n 0, 1) := by decide +kernel
theorem dJ6_bitCount_0f7a4_35 : decode cJ6_bitCount_0f7a4 35 = .ok (.iload_n 0, 1) := by decide +kernel
theorem dJ6_bitCount_0f7a4_36 : decode cJ6_bitCount_0f7a4 36 = .ok (.bipush 8, 2) := by decide +kernel
theorem dJ6_bitCount_0f7a4_38 : decode cJ6_bitCount_0f7a4 38 = .ok (.iushr, 1) := by decide +kernel
theorem dJ6_bitCount_0f7a4_39 : decode cJ6_bitCount_0f7a4 39 = .ok (.iadd, 1) := by decide +kernel
theorem dJ6_bitCount_0f7a4_40 : decode cJ6_bitCount_0f7a4 40 = .ok (.istore_n 0, 1) := by decide +kernel
theorem dJ6_bitCount_0f7a4_41 : decode cJ6_bitCount_0f7a4 41 = .ok (.iload_n 0, 1) := by decide +kernel
theorem dJ6_bitCount_0f7a4_42 : decode cJ6_bitCount_0f7a4 42 = .ok (.iload_n 0, 1) := by decide +kernel
theorem dJ6_bitCount_0f7a4_43 : decode cJ6_bitCount_0f7a4 43 = .ok (.bipush 16, 2) := by decide +kernel
theorem dJ6_bitCount_0f7a4_45 : decode cJ6_bitCount_0f7a4 45 = .ok (.iushr, 1) := by decide +kernel
theorem dJ6_bitCount_0f7a4_46 : decode cJ6_bitCount_0f7a4 46 = .ok (.iadd, 1) := by decide +kernel
theorem dJ6_bitCount_0f7a4_47 : decode cJ6_bitCount_0f7a4 47 = .ok (.istore_n 0, 1) := by decide +kernel
theorem dJ6_bitCount_0f7a4_48 : decode cJ6_bitCount_0f7a4 48 = .ok (.iload_n 0, 1) := by decide +kernel
theorem dJ6_bitCount_0f7a4_49 : decode cJ6_bitCount_0f7a4 49 = .ok (.bipush 63, 2) := by decide +kernel
theorem dJ6_bitCount_0f7a4_51 : decode cJ6_bitCount_0f7a4 51 = .ok (.iand, 1) := by decide +kernel
theorem dJ6_bitCount_0f7a4_52 : decode cJ6_bitCount_0f7a4 52 = .ok (.ireturn, 1) := by decide +kernel
theorem dJ9_max_7cf53_0 : decode cJ9_max_7cf53 0 = .ok (.iload_n 0, 1) := by decide +kernel
theorem dJ9_max_7cf53_1 : decode cJ9_max_7cf53 1 = .ok (.iload_n 1, 1) := by decide +kernel
theorem dJ9_max_7cf53_2 : decode cJ9_max_7cf53 2 = .ok (.if_icmp .lt 7, 3) := by decide +kernel
theorem dJ9_max_7cf53_5 : decode cJ9_max_7cf53 5 = .ok (.iload_n 0, 1) := by decide +kernel
theorem dJ9_max_7cf53_6 : decode cJ9_max_7cf53 6 = .ok (.goto 4, 3) := by decide +kernel
theorem dJ9_max_7cf53_9 : decode cJ9_max_7cf53 9 = .ok (.iload_n 1, 1) := by decide +kernel
theorem dJ9_max_7cf53_10 : decode cJ9_max_7cf53 10 = .ok (.ireturn, 1) := by decide +kernel
theorem dJ9_min_7cf53_0 : decode cJ9_min_7cf53 0 = .ok (.iload_n 0, 1) := by decide +kernel
theorem dJ9_min_7cf53_1 : decode cJ9_min_7cf53 1 = .ok (.iload_n 1, 1) := by decide +kernel
theorem dJ9_min_7cf53_2 : decode cJ9_min_7cf53 2 = .ok (.if_icmp .gt 7, 3) := by decide +kernel
theorem dJ9_min_7cf53_5 : decode cJ9_min_7cf53 5 = .ok (.iload_n 0, 1) := by decide +kernel
theorem dJ9_min_7cf53_6 : decode cJ9_min_7cf53 6 = .ok (.goto 4, 3) := by decide +kernel
theorem dJ9_min_7cf53_9 : decode cJ9_min_7cf53 9 = .ok (.iload_n 1, 1) := by decide +kernel
theorem dJ9_min_7cf53_10 : decode cJ9_min_7cf53 10 = .ok (.ireturn, 1) := by decide +kernel
set_option maxRecDepth 20000 in
theorem ggL_law_X3_init : GoodIn wsL_law wsX3_init := goodIn_r _ [8, 9, 10, 11, 12, 13, 14, 15, 16, 17, 18, 19, 20, 21, 22, 23, 24, 25, 26, 27, 28, 29, 30, 31, 32, 33, 34, 35, 36, 37, 38, 39, 40, 41, 42, 43, 44, 45, 46, 47, 48, 49, 50, 51, 52, 622, 623, 624, 625, 626, 608, 609, 610, 611, 612, 613, 627, 628, 629, 630, 631, 632, 633, 634, 635] (by decide +kernel) (by decide +kernel)
set_option maxRecDepth 20000 in
theorem gL_law_X3_init : GoodIn wsL_law (wsX3_init) := ggL_law_X3_init
set_option maxRecDepth 20000 in
theorem ggL_law_X4_init : GoodIn wsL_law wsX4_init := goodIn_r _ [55, 56, 10, 11, 33, 57, 58, 59, 60, 61, 614, 615, 616, 617, 618, 619, 620, 621] (by decide +kernel) (by decide +kernel)
set_option maxRecDepth 20000 in
theorem gL_law_X4_init : GoodIn wsL_law (wsX4_init) := ggL_law_X4_init
set_option maxRecDepth 20000 in
theorem ggL_law_X3_take : GoodIn wsL_law wsX3_take := goodIn_r _ [65, 20, 15, 66, 67, 68, 19, 69, 44, 70, 71, 72, 73, 45, 46, 74, 75, 76, 14, 77, 34, 78, 79, 80, 81, 35, 36, 37, 38, 82, 83, 84, 85, 86, 87, 88, 89, 90, 91, 92, 93, 94, 95, 96, 97, 98, 2, 99, 100, 101, 102, 103, 104, 105, 106, 107, 108, 109, 110, 111, 112, 113, 114, 115, 116, 117, 118, 119, 120, 121, 122, 123, 124, 125, 126, 127, 128, 129, 608, 609, 610, 611, 612, 613, 627, 628, 629, 622, 623, 624, 625, 626] (by decide +kernel) (by decide +kernel)
set_option maxRecDepth 20000 in
theorem gL_law_X3_take : GoodIn wsL_law (wsV RL 13 RX3 yX3_take wsX3_take) := goodIn_app (goodIn_of _ (by decide +kernel)) ggL_law_X3_take
set_option maxRecDepth 20000 in
theorem ggL_law_X4_take : GoodIn wsL_law wsX4_take := goodIn_r _ [133, 134, 135, 136, 5, 137, 57, 59, 138, 139, 140, 141, 142, 143, 144, 145, 146, 147, 148, 149, 150, 151, 152, 153, 154, 155, 156, 157, 158, 159, 160, 161, 162, 163, 164, 165, 166, 167, 168, 169, 170, 171, 172, 173, 58, 614, 615, 616, 617, 618, 619, 620, 621] (by decide +kernel) (by decide +kernel)
set_option maxRecDepth 20000 in
theorem gL_law_X4_take : GoodIn wsL_law (wsV RL 17 RX4 yX4_take wsX4_take) := goodIn_app (goodIn_of _ (by decide +kernel)) ggL_law_X4_take
set_option maxRecDepth 20000 in
theorem ggL_law_X3_takeRun : GoodIn wsL_law wsX3_takeRun := goodIn_r _ [177, 20, 15, 66, 67, 68, 19, 69, 44, 70, 71, 72, 73, 45, 46, 74, 75, 76, 14, 77, 34, 78, 79, 80, 81, 35, 36, 37, 38, 178, 179, 180, 181, 182, 2, 183, 184, 185, 186, 187, 188, 189, 190, 191, 192, 193, 107, 108, 194, 195, 196, 197, 198, 199, 200, 201, 202, 109, 110, 111, 112, 94, 95, 96, 97, 118, 119, 120, 121, 122, 123, 124, 125, 126, 127, 128, 129, 608, 609, 610, 611, 612, 613, 627, 628, 629, 622, 623, 624, 625, 626] (by decide +kernel) (by decide +kernel)
set_option maxRecDepth 20000 in
theorem gL_law_X3_takeRun : GoodIn wsL_law (wsV RL 18 RX3 yX3_takeRun wsX3_takeRun) := goodIn_app (goodIn_of _ (by decide +kernel)) ggL_law_X3_takeRun
set_option maxRecDepth 20000 in
theorem ggL_law_X4_takeRun : GoodIn wsL_law wsX4_takeRun := goodIn_r _ [206, 57, 207, 208, 5, 209, 210, 211, 212, 213, 134, 135, 136, 137, 59, 138, 139, 140, 153, 154, 155, 156, 157, 158, 159, 160, 161, 162, 163, 164, 169, 170, 171, 172, 173, 58, 614, 615, 616, 617, 618, 619, 620, 621] (by decide +kernel) (by decide +kernel)
set_option maxRecDepth 20000 in
theorem gL_law_X4_takeRun : GoodIn wsL_law (wsV RL 22 RX4 yX4_takeRun wsX4_takeRun) := goodIn_app (goodIn_of _ (by decide +kernel)) ggL_law_X4_takeRun
set_option maxRecDepth 20000 in
theorem ggL_law_X3_giveBack : GoodIn wsL_law wsX3_giveBack := goodIn_r _ [217, 20, 15, 66, 67, 68, 19, 69, 44, 70, 71, 72, 73, 45, 46, 74, 75, 76, 14, 77, 34, 78, 79, 80, 81, 35, 36, 37, 38, 218, 219, 220, 221, 194, 2, 195, 196, 197, 198, 199, 200, 201, 202, 222, 223, 224, 225, 192, 193, 226, 227, 228, 229, 109, 110, 111, 112, 94, 95, 96, 97, 117, 101, 102, 103, 104, 105, 106, 118, 119, 120, 121, 122, 123, 124, 125, 126, 127, 128, 129, 608, 609, 610, 611, 612, 613, 627, 628, 629, 622, 623, 624, 625, 626] (by decide +kernel) (by decide +kernel)
set_option maxRecDepth 20000 in
theorem gL_law_X3_giveBack : GoodIn wsL_law (wsV RL 23 RX3 yX3_giveBack wsX3_giveBack) := goodIn_app (goodIn_of _ (by decide +kernel)) ggL_law_X3_giveBack
set_option maxRecDepth 20000 in
theorem ggL_law_X4_giveBack : GoodIn wsL_law wsX4_giveBack := goodIn_r _ [233, 134, 135, 136, 5, 137, 57, 59, 138, 139, 140, 234, 235, 236, 237, 207, 208, 209, 153, 154, 155, 156, 157, 158, 159, 160, 161, 162, 163, 164, 169, 170, 171, 172, 173, 58, 614, 615, 616, 617, 618, 619, 620, 621] (by decide +kernel) (by decide +kernel)
set_option maxRecDepth 20000 in
theorem gL_law_X4_giveBack : GoodIn wsL_law (wsV RL 27 RX4 yX4_giveBack wsX4_giveBack) := goodIn_app (goodIn_of _ (by decide +kernel)) ggL_law_X4_giveBack
set_option maxRecDepth 20000 in
theorem ggL_law_X3_clear : GoodIn wsL_law wsX3_clear := goodIn_r _ [241, 20, 15, 66, 67, 68, 19, 69, 44, 70, 71, 72, 73, 45, 46, 74, 75, 76, 14, 77, 34, 78, 79, 80, 81, 35, 36, 37, 38, 242, 114, 115, 116, 109, 110, 111, 112, 94, 95, 96, 97, 117, 101, 102, 103, 104, 105, 106, 118, 119, 120, 2, 121, 122, 123, 124, 125, 126, 127, 128, 129, 608, 609, 610, 611, 612, 613, 627, 628, 629, 622, 623, 624, 625, 626] (by decide +kernel) (by decide +kernel)
set_option maxRecDepth 20000 in
theorem gL_law_X3_clear : GoodIn wsL_law (wsV RL 28 RX3 yX3_clear wsX3_clear) := goodIn_app (goodIn_of _ (by decide +kernel)) ggL_law_X3_clear
set_option maxRecDepth 20000 in
theorem ggL_law_X4_clear : GoodIn wsL_law wsX4_clear := goodIn_r _ [246, 134, 135, 136, 5, 137, 57, 59, 138, 139, 140, 247, 248, 249, 250, 207, 208, 209, 165, 166, 167, 168, 161, 162, 163, 164, 153, 154, 155, 156, 157, 158, 159, 160, 169, 170, 171, 172, 173, 58, 614, 615, 616, 617, 618, 619, 620, 621] (by decide +kernel) (by decide +kernel)
set_option maxRecDepth 20000 in
theorem gL_law_X4_clear : GoodIn wsL_law (wsV RL 31 RX4 yX4_clear wsX4_clear) := goodIn_app (goodIn_of _ (by decide +kernel)) ggL_law_X4_clear
set_option maxRecDepth 20000 in
theorem ggL_law_X3_reserve : GoodIn wsL_law wsX3_reserve := goodIn_r _ [254, 20, 15, 66, 67, 68, 19, 69, 44, 70, 71, 72, 73, 45, 46, 74, 75, 76, 14, 77, 34, 78, 79, 80, 81, 35, 36, 37, 38, 255, 256, 257, 258, 259, 2, 260, 261, 262, 263, 264, 265, 266, 267, 268, 269, 270, 271, 272, 192, 193, 194, 195, 196, 197, 198, 199, 200, 201, 202, 226, 227, 228, 229, 109, 110, 111, 112, 94, 95, 96, 97, 118, 119, 120, 121, 122, 123, 124, 125, 126, 127, 128, 129, 608, 609, 610, 611, 612, 613, 627, 628, 629, 622, 623, 624, 625, 626] (by decide +kernel) (by decide +kernel)
set_option maxRecDepth 20000 in
theorem gL_law_X3_reserve : GoodIn wsL_law (wsV RL 32 RX3 yX3_reserve wsX3_reserve) := goodIn_app (goodIn_of _ (by decide +kernel)) ggL_law_X3_reserve
set_option maxRecDepth 20000 in
theorem ggL_law_X4_reserve : GoodIn wsL_law wsX4_reserve := goodIn_r _ [276, 134, 135, 136, 5, 137, 57, 59, 138, 139, 140, 277, 278, 279, 280, 281, 282, 283, 284, 285, 286, 287, 207, 208, 209, 288, 289, 290, 291, 153, 154, 155, 156, 157, 158, 159, 160, 161, 162, 163, 164, 169, 170, 171, 172, 173, 58, 614, 615, 616, 617, 618, 619, 620, 621] (by decide +kernel) (by decide +kernel)
set_option maxRecDepth 20000 in
theorem gL_law_X4_reserve : GoodIn wsL_law (wsV RL 35 RX4 yX4_reserve wsX4_reserve) := goodIn_app (goodIn_of _ (by decide +kernel)) ggL_law_X4_reserve
set_option maxRecDepth 20000 in
theorem ggL_law_X3_takeIn : GoodIn wsL_law wsX3_takeIn := goodIn_r _ [295, 20, 15, 66, 67, 68, 19, 69, 44, 70, 71, 72, 73, 45, 46, 74, 75, 76, 14, 77, 34, 78, 79, 80, 81, 35, 36, 37, 38, 296, 297, 298, 299, 265, 266, 267, 268, 192, 2, 193, 226, 227, 228, 229, 194, 195, 196, 197, 198, 199, 200, 201, 202, 98, 99, 100, 101, 102, 103, 104, 105, 106, 107, 108, 109, 110, 111, 112, 94, 95, 96, 97, 118, 119, 120, 121, 122, 123, 124, 125, 126, 127, 128, 129, 608, 609, 610, 611, 612, 613, 627, 628, 629, 622, 623, 624, 625, 626] (by decide +kernel) (by decide +kernel)
set_option maxRecDepth 20000 in
theorem gL_law_X3_takeIn : GoodIn wsL_law (wsV RL 36 RX3 yX3_takeIn wsX3_takeIn) := goodIn_app (goodIn_of _ (by decide +kernel)) ggL_law_X3_takeIn
set_option maxRecDepth 20000 in
theorem ggL_law_X4_takeIn : GoodIn wsL_law wsX4_takeIn := goodIn_r _ [303, 134, 135, 136, 5, 137, 57, 59, 138, 139, 140, 304, 305, 306, 307, 284, 285, 286, 287, 207, 208, 209, 153, 154, 155, 156, 157, 158, 159, 160, 161, 162, 163, 164, 169, 170, 171, 172, 173, 58, 614, 615, 616, 617, 618, 619, 620, 621] (by decide +kernel) (by decide +kernel)
set_option maxRecDepth 20000 in
theorem gL_law_X4_takeIn : GoodIn wsL_law (wsV RL 39 RX4 yX4_takeIn wsX4_takeIn) := goodIn_app (goodIn_of _ (by decide +kernel)) ggL_law_X4_takeIn
set_option maxRecDepth 20000 in
theorem ggL_law_X3_giveUp : GoodIn wsL_law wsX3_giveUp := goodIn_r _ [311, 20, 15, 66, 67, 68, 19, 69, 44, 70, 71, 72, 73, 45, 46, 74, 75, 76, 14, 77, 34, 78, 79, 80, 81, 35, 36, 37, 38, 312, 313, 314, 315, 265, 266, 267, 268, 192, 2, 193, 226, 227, 228, 229, 194, 195, 196, 197, 198, 199, 200, 201, 202, 109, 110, 111, 112, 94, 95, 96, 97, 117, 101, 102, 103, 104, 105, 106, 118, 119, 120, 121, 122, 123, 124, 125, 126, 127, 128, 129, 608, 609, 610, 611, 612, 613, 627, 628, 629, 622, 623, 624, 625, 626] (by decide +kernel) (by decide +kernel)
set_option maxRecDepth 20000 in
theorem gL_law_X3_giveUp : GoodIn wsL_law (wsV RL 40 RX3 yX3_giveUp wsX3_giveUp) := goodIn_app (goodIn_of _ (by decide +kernel)) ggL_law_X3_giveUp
set_option maxRecDepth 20000 in
theorem ggL_law_X4_giveUp : GoodIn wsL_law wsX4_giveUp := goodIn_r _ [319, 57, 284, 285, 286, 5, 287, 207, 208, 209, 134, 135, 136, 137, 59, 138, 139, 140, 153, 154, 155, 156, 157, 158, 159, 160, 161, 162, 163, 164, 169, 170, 171, 172, 173, 58, 614, 615, 616, 617, 618, 619, 620, 621] (by decide +kernel) (by decide +kernel)
set_option maxRecDepth 20000 in
theorem gL_law_X4_giveUp : GoodIn wsL_law (wsV RL 43 RX4 yX4_giveUp wsX4_giveUp) := goodIn_app (goodIn_of _ (by decide +kernel)) ggL_law_X4_giveUp
set_option maxRecDepth 20000 in
theorem ggL_law_X3_damage : GoodIn wsL_law wsX3_damage := goodIn_r _ [323, 20, 15, 66, 67, 68, 19, 69, 44, 70, 71, 72, 73, 45, 46, 74, 75, 76, 14, 77, 34, 78, 79, 80, 81, 35, 36, 37, 38, 324, 325, 326, 327, 90, 91, 92, 93, 118, 119, 120, 2, 121, 122, 123, 124, 125, 126, 127, 128, 129, 608, 609, 610, 611, 612, 613, 627, 628, 629, 622, 623, 624, 625, 626] (by decide +kernel) (by decide +kernel)
set_option maxRecDepth 20000 in
theorem gL_law_X3_damage : GoodIn wsL_law (wsV RL 44 RX3 yX3_damage wsX3_damage) := goodIn_app (goodIn_of _ (by decide +kernel)) ggL_law_X3_damage
set_option maxRecDepth 20000 in
theorem ggL_law_X4_damage : GoodIn wsL_law wsX4_damage := goodIn_r _ [331, 134, 135, 136, 5, 137, 57, 59, 138, 139, 140, 332, 333, 334, 335, 336, 337, 338, 207, 208, 209, 169, 170, 171, 172, 173, 58, 614, 615, 616, 617, 618, 619, 620, 621] (by decide +kernel) (by decide +kernel)
set_option maxRecDepth 20000 in
theorem gL_law_X4_damage : GoodIn wsL_law (wsV RL 47 RX4 yX4_damage wsX4_damage) := goodIn_app (goodIn_of _ (by decide +kernel)) ggL_law_X4_damage
set_option maxRecDepth 20000 in
theorem ggL_law_X3_repair : GoodIn wsL_law wsX3_repair := goodIn_r _ [342, 20, 15, 66, 67, 68, 19, 69, 44, 70, 71, 72, 73, 45, 46, 74, 75, 76, 14, 77, 34, 78, 79, 80, 81, 35, 36, 37, 38, 343, 344, 345, 346, 347, 348, 349, 350, 94, 95, 96, 97, 117, 101, 102, 103, 104, 105, 106, 118, 119, 120, 2, 121, 122, 123, 124, 125, 126, 127, 128, 129, 608, 609, 610, 611, 612, 613, 627, 628, 629, 622, 623, 624, 625, 626] (by decide +kernel) (by decide +kernel)
set_option maxRecDepth 20000 in
theorem gL_law_X3_repair : GoodIn wsL_law (wsV RL 48 RX3 yX3_repair wsX3_repair) := goodIn_app (goodIn_of _ (by decide +kernel)) ggL_law_X3_repair
set_option maxRecDepth 20000 in
theorem ggL_law_X4_repair : GoodIn wsL_law wsX4_repair := goodIn_r _ [354, 134, 135, 136, 5, 137, 57, 59, 138, 139, 140, 355, 356, 357, 358, 157, 158, 159, 160, 161, 162, 163, 164, 169, 170, 171, 172, 173, 58, 614, 615, 616, 617, 618, 619, 620, 621] (by decide +kernel) (by decide +kernel)
set_option maxRecDepth 20000 in
theorem gL_law_X4_repair : GoodIn wsL_law (wsV RL 51 RX4 yX4_repair wsX4_repair) := goodIn_app (goodIn_of _ (by decide +kernel)) ggL_law_X4_repair
set_option maxRecDepth 20000 in
theorem ggL_law_X3_undo : GoodIn wsL_law wsX3_undo := goodIn_r _ [362, 20, 15, 363, 364, 365, 19, 366, 46, 367, 123, 124, 125, 44, 70, 71, 72, 73, 45, 74, 75, 76, 14, 77, 34, 78, 79, 80, 81, 35, 36, 37, 38, 608, 609, 610, 611, 612, 613, 627, 628, 629, 622, 623, 624, 625, 626] (by decide +kernel) (by decide +kernel)
set_option maxRecDepth 20000 in
theorem gL_law_X3_undo : GoodIn wsL_law (wsV RL 52 RX3 yX3_undo wsX3_undo) := goodIn_app (goodIn_of _ (by decide +kernel)) ggL_law_X3_undo
set_option maxRecDepth 20000 in
theorem ggL_law_X4_undo : GoodIn wsL_law wsX4_undo := goodIn_r _ [371, 173, 58, 57, 138, 139, 5, 140, 614, 615, 616, 617, 618, 619, 620, 621] (by decide +kernel) (by decide +kernel)
set_option maxRecDepth 20000 in
theorem gL_law_X4_undo : GoodIn wsL_law (wsV RL 55 RX4 yX4_undo wsX4_undo) := goodIn_app (goodIn_of _ (by decide +kernel)) ggL_law_X4_undo
set_option maxRecDepth 20000 in
theorem ggL_law_X3_append : GoodIn wsL_law wsX3_append := goodIn_r _ [375, 27, 26, 608, 609, 610, 611, 612, 613] (by decide +kernel) (by decide +kernel)
set_option maxRecDepth 20000 in
theorem gL_law_X3_append : GoodIn wsL_law (wsV RL 56 RX3 yX3_append wsX3_append) := goodIn_app (goodIn_of _ (by decide +kernel)) ggL_law_X3_append
set_option maxRecDepth 20000 in
theorem ggL_law_X4_append : GoodIn wsL_law wsX4_append := goodIn_r _ [379, 380, 61, 207, 208, 5, 209, 614, 615, 616, 617, 618, 619, 620, 621] (by decide +kernel) (by decide +kernel)
set_option maxRecDepth 20000 in
theorem gL_law_X4_append : GoodIn wsL_law (wsV RL 59 RX4 yX4_append wsX4_append) := goodIn_app (goodIn_of _ (by decide +kernel)) ggL_law_X4_append
set_option maxRecDepth 20000 in
theorem ggL_law_X3_clearText : GoodIn wsL_law wsX3_clearText := goodIn_r _ [384, 27, 608, 609, 610, 611, 612, 613] (by decide +kernel) (by decide +kernel)
set_option maxRecDepth 20000 in
theorem gL_law_X3_clearText : GoodIn wsL_law (wsV RL 60 RX3 yX3_clearText wsX3_clearText) := goodIn_app (goodIn_of _ (by decide +kernel)) ggL_law_X3_clearText
set_option maxRecDepth 20000 in
theorem ggL_law_X4_clearText : GoodIn wsL_law wsX4_clearText := goodIn_r _ [388, 380, 614, 615, 616, 617, 618, 619, 620, 621] (by decide +kernel) (by decide +kernel)
set_option maxRecDepth 20000 in
theorem gL_law_X4_clearText : GoodIn wsL_law (wsV RL 63 RX4 yX4_clearText wsX4_clearText) := goodIn_app (goodIn_of _ (by decide +kernel)) ggL_law_X4_clearText
set_option maxRecDepth 20000 in
theorem ggL_law_X3_run : GoodIn wsL_law wsX3_run := goodIn_r _ [392, 20, 15, 24, 26, 27, 66, 67, 68, 19, 69, 44, 70, 71, 72, 73, 45, 46, 74, 75, 76, 14, 77, 34, 78, 79, 80, 81, 35, 36, 37, 38, 393, 394, 395, 23, 396, 52, 397, 398, 399, 400, 401, 402, 403, 404, 405, 406, 407, 408, 409, 410, 411, 412, 413, 414, 415, 416, 417, 418, 419, 420, 421, 422, 423, 424, 425, 426, 427, 428, 429, 430, 83, 84, 85, 86, 87, 88, 89, 90, 91, 92, 93, 94, 95, 96, 97, 98, 2, 99, 100, 101, 102, 103, 104, 105, 106, 107, 108, 109, 110, 111, 112, 113, 114, 115, 116, 117, 431, 219, 220, 221, 194, 195, 196, 197, 198, 199, 200, 201, 202, 222, 223, 224, 225, 192, 193, 226, 227, 228, 229, 432, 433, 256, 257, 258, 259, 260, 261, 262, 263, 264, 265, 266, 267, 268, 269, 270, 271, 272, 434, 297, 298, 299, 435, 325, 326, 327, 436, 344, 345, 346, 347, 348, 349, 350, 118, 119, 120, 121, 122, 123, 124, 125, 126, 127, 128, 129, 608, 609, 610, 611, 612, 613, 627, 628, 629, 622, 623, 624, 625, 626, 630, 631, 632, 633, 634, 635] (by decide +kernel) (by decide +kernel)
set_option maxRecDepth 20000 in
theorem gL_law_X3_run : GoodIn wsL_law (wsV RL 64 RX3 yX3_run wsX3_run) := goodIn_app (goodIn_of _ (by decide +kernel)) ggL_law_X3_run
set_option maxRecDepth 20000 in
theorem ggL_law_X4_run : GoodIn wsL_law wsX4_run := goodIn_r _ [440, 441, 380, 134, 135, 136, 5, 137, 57, 59, 138, 139, 140, 442, 443, 444, 445, 446, 447, 448, 449, 61, 450, 451, 452, 453, 454, 455, 456, 207, 208, 209, 457, 458, 459, 460, 461, 462, 463, 464, 465, 466, 467, 468, 141, 142, 143, 144, 145, 146, 147, 148, 149, 150, 151, 152, 153, 154, 155, 156, 157, 158, 159, 160, 161, 162, 163, 164, 165, 166, 167, 168, 234, 235, 236, 237, 247, 248, 249, 250, 277, 278, 279, 280, 281, 282, 283, 284, 285, 286, 287, 288, 289, 290, 291, 304, 305, 306, 307, 332, 333, 334, 335, 336, 337, 338, 355, 356, 357, 358, 169, 170, 171, 172, 173, 58, 614, 615, 616, 617, 618, 619, 620, 621] (by decide +kernel) (by decide +kernel)
set_option maxRecDepth 20000 in
theorem gL_law_X4_run : GoodIn wsL_law (wsV RL 67 RX4 yX4_run wsX4_run) := goodIn_app (goodIn_of _ (by decide +kernel)) ggL_law_X4_run
set_option maxRecDepth 20000 in
theorem ggL_law_X3_count : GoodIn wsL_law wsX3_count := goodIn_r _ [472, 15, 20, 27, 473, 474, 475, 14, 476, 34, 117, 101, 102, 103, 104, 105, 106, 477, 478, 479, 480, 265, 266, 267, 268, 36, 100, 481, 348, 349, 350, 94, 95, 96, 97, 482, 483, 484, 485, 188, 189, 190, 191, 192, 2, 193, 107, 108, 486, 487, 488, 489, 490, 197, 198, 199, 608, 609, 610, 611, 612, 613, 622, 623, 624, 625, 626, 627, 628, 629] (by decide +kernel) (by decide +kernel)
set_option maxRecDepth 20000 in
theorem gL_law_X3_count : GoodIn wsL_law (wsV RL 68 RX3 yX3_count wsX3_count) := goodIn_app (goodIn_of _ (by decide +kernel)) ggL_law_X3_count
set_option maxRecDepth 20000 in
theorem ggL_law_X4_count : GoodIn wsL_law wsX4_count := goodIn_r _ [494, 57, 173, 380, 495, 496, 497, 5, 498, 161, 162, 163, 164, 499, 500, 501, 502, 284, 285, 286, 287, 207, 208, 209, 503, 504, 505, 506, 507, 508, 509, 510, 157, 158, 159, 160, 511, 512, 513, 514, 614, 615, 616, 617, 618, 619, 620, 621] (by decide +kernel) (by decide +kernel)
set_option maxRecDepth 20000 in
theorem gL_law_X4_count : GoodIn wsL_law (wsV RL 71 RX4 yX4_count wsX4_count) := goodIn_app (goodIn_of _ (by decide +kernel)) ggL_law_X4_count
set_option maxRecDepth 20000 in
theorem ggL_law_X3_slot : GoodIn wsL_law wsX3_slot := goodIn_r _ [518, 15, 519, 520, 521, 14, 522, 34, 192, 2, 193, 107, 108, 523, 524, 525, 526, 35, 36, 608, 609, 610, 611, 612, 613, 622, 623, 624, 625, 626] (by decide +kernel) (by decide +kernel)
set_option maxRecDepth 20000 in
theorem gL_law_X3_slot : GoodIn wsL_law (wsV RL 72 RX3 yX3_slot wsX3_slot) := goodIn_app (goodIn_of _ (by decide +kernel)) ggL_law_X3_slot
set_option maxRecDepth 20000 in
theorem ggL_law_X4_slot : GoodIn wsL_law wsX4_slot := goodIn_r _ [530, 57, 207, 208, 5, 209, 614, 615, 616, 617, 618, 619, 620, 621] (by decide +kernel) (by decide +kernel)
set_option maxRecDepth 20000 in
theorem gL_law_X4_slot : GoodIn wsL_law (wsV RL 75 RX4 yX4_slot wsX4_slot) := goodIn_app (goodIn_of _ (by decide +kernel)) ggL_law_X4_slot
set_option maxRecDepth 20000 in
theorem ggL_law_X3_word : GoodIn wsL_law wsX3_word := goodIn_r _ [534, 15, 100, 101, 102, 103, 104, 105, 106, 535, 91, 92, 14, 93, 37, 536, 95, 96, 97, 34, 537, 538, 539, 540, 94, 98, 2, 99, 608, 609, 610, 611, 612, 613, 622, 623, 624, 625, 626] (by decide +kernel) (by decide +kernel)
set_option maxRecDepth 20000 in
theorem gL_law_X3_word : GoodIn wsL_law (wsV RL 76 RX3 yX3_word wsX3_word) := goodIn_app (goodIn_of _ (by decide +kernel)) ggL_law_X3_word
set_option maxRecDepth 20000 in
theorem ggL_law_X4_word : GoodIn wsL_law wsX4_word := goodIn_r _ [544, 57, 336, 337, 5, 338, 207, 208, 209, 161, 162, 163, 164, 157, 158, 159, 160, 149, 150, 151, 152, 614, 615, 616, 617, 618, 619, 620, 621] (by decide +kernel) (by decide +kernel)
set_option maxRecDepth 20000 in
theorem gL_law_X4_word : GoodIn wsL_law (wsV RL 79 RX4 yX4_word wsX4_word) := goodIn_app (goodIn_of _ (by decide +kernel)) ggL_law_X4_word
set_option maxRecDepth 20000 in
theorem ggL_law_X3_block : GoodIn wsL_law wsX3_block := goodIn_r _ [548, 15, 549, 266, 267, 14, 268, 36, 550, 551, 552, 553, 34, 35, 192, 2, 193, 226, 227, 228, 229, 194, 195, 196, 197, 198, 199, 200, 201, 202, 117, 101, 102, 103, 104, 105, 106, 608, 609, 610, 611, 612, 613, 622, 623, 624, 625, 626] (by decide +kernel) (by decide +kernel)
set_option maxRecDepth 20000 in
theorem gL_law_X3_block : GoodIn wsL_law (wsV RL 80 RX3 yX3_block wsX3_block) := goodIn_app (goodIn_of _ (by decide +kernel)) ggL_law_X3_block
set_option maxRecDepth 20000 in
theorem ggL_law_X4_block : GoodIn wsL_law wsX4_block := goodIn_r _ [557, 57, 207, 208, 5, 209, 284, 285, 286, 287, 614, 615, 616, 617, 618, 619, 620, 621] (by decide +kernel) (by decide +kernel)
set_option maxRecDepth 20000 in
theorem gL_law_X4_block : GoodIn wsL_law (wsV RL 83 RX4 yX4_block wsX4_block) := goodIn_app (goodIn_of _ (by decide +kernel)) ggL_law_X4_block
set_option maxRecDepth 20000 in
theorem ggL_law_X3_audit : GoodIn wsL_law wsX3_audit := goodIn_r _ [561, 15, 481, 348, 349, 14, 350, 94, 95, 96, 97, 34, 100, 101, 102, 103, 104, 105, 106, 562, 98, 2, 99, 608, 609, 610, 611, 612, 613, 622, 623, 624, 625, 626] (by decide +kernel) (by decide +kernel)
set_option maxRecDepth 20000 in
theorem gL_law_X3_audit : GoodIn wsL_law (wsV RL 84 RX3 yX3_audit wsX3_audit) := goodIn_app (goodIn_of _ (by decide +kernel)) ggL_law_X3_audit
set_option maxRecDepth 20000 in
theorem ggL_law_X4_audit : GoodIn wsL_law wsX4_audit := goodIn_r _ [566, 57, 207, 208, 5, 209, 157, 158, 159, 160, 161, 162, 163, 164, 614, 615, 616, 617, 618, 619, 620, 621] (by decide +kernel) (by decide +kernel)
set_option maxRecDepth 20000 in
theorem gL_law_X4_audit : GoodIn wsL_law (wsV RL 87 RX4 yX4_audit wsX4_audit) := goodIn_app (goodIn_of _ (by decide +kernel)) ggL_law_X4_audit
set_option maxRecDepth 20000 in
theorem ggL_law_X3_next : GoodIn wsL_law wsX3_next := goodIn_r _ [570, 16, 15, 571, 75, 76, 14, 77, 34, 78, 79, 80, 81, 35, 36, 37, 38, 82, 83, 84, 85, 86, 87, 88, 89, 90, 91, 92, 93, 94, 95, 96, 97, 98, 2, 99, 100, 101, 102, 103, 104, 105, 106, 107, 108, 109, 110, 111, 112, 113, 114, 115, 116, 117, 473, 474, 475, 476, 608, 609, 610, 611, 612, 613, 622, 623, 624, 625, 626] (by decide +kernel) (by decide +kernel)
set_option maxRecDepth 20000 in
theorem gL_law_X3_next : GoodIn wsL_law (wsV RL 88 RX3 yX3_next wsX3_next) := goodIn_app (goodIn_of _ (by decide +kernel)) ggL_law_X3_next
set_option maxRecDepth 20000 in
theorem ggL_law_X4_next : GoodIn wsL_law wsX4_next := goodIn_r _ [575, 57, 60, 207, 208, 5, 209, 138, 139, 140, 495, 496, 497, 498, 161, 162, 163, 164, 141, 142, 143, 144, 145, 146, 147, 148, 149, 150, 151, 152, 153, 154, 155, 156, 157, 158, 159, 160, 165, 166, 167, 168, 614, 615, 616, 617, 618, 619, 620, 621] (by decide +kernel) (by decide +kernel)
set_option maxRecDepth 20000 in
theorem gL_law_X4_next : GoodIn wsL_law (wsV RL 91 RX4 yX4_next wsX4_next) := goodIn_app (goodIn_of _ (by decide +kernel)) ggL_law_X4_next
set_option maxRecDepth 20000 in
theorem ggL_law_X3_runAt : GoodIn wsL_law wsX3_runAt := goodIn_r _ [579, 15, 580, 182, 2, 183, 581, 185, 186, 14, 187, 188, 189, 190, 191, 34, 192, 193, 107, 108, 608, 609, 610, 611, 612, 613, 622, 623, 624, 625, 626] (by decide +kernel) (by decide +kernel)
set_option maxRecDepth 20000 in
theorem gL_law_X3_runAt : GoodIn wsL_law (wsV RL 92 RX3 yX3_runAt wsX3_runAt) := goodIn_app (goodIn_of _ (by decide +kernel)) ggL_law_X3_runAt
set_option maxRecDepth 20000 in
theorem ggL_law_X4_runAt : GoodIn wsL_law wsX4_runAt := goodIn_r _ [585, 207, 208, 5, 209, 210, 211, 212, 213, 57, 614, 615, 616, 617, 618, 619, 620, 621] (by decide +kernel) (by decide +kernel)
set_option maxRecDepth 20000 in
theorem gL_law_X4_runAt : GoodIn wsL_law (wsV RL 95 RX4 yX4_runAt wsX4_runAt) := goodIn_app (goodIn_of _ (by decide +kernel)) ggL_law_X4_runAt
set_option maxRecDepth 20000 in
theorem ggL_law_X3_placeFor : GoodIn wsL_law wsX3_placeFor := goodIn_r _ [589, 15, 590, 259, 2, 260, 591, 270, 271, 14, 272, 34, 192, 193, 194, 195, 196, 197, 198, 199, 200, 201, 202, 608, 609, 610, 611, 612, 613, 622, 623, 624, 625, 626] (by decide +kernel) (by decide +kernel)
set_option maxRecDepth 20000 in
theorem gL_law_X3_placeFor : GoodIn wsL_law (wsV RL 96 RX3 yX3_placeFor wsX3_placeFor) := goodIn_app (goodIn_of _ (by decide +kernel)) ggL_law_X3_placeFor
set_option maxRecDepth 20000 in
theorem ggL_law_X4_placeFor : GoodIn wsL_law wsX4_placeFor := goodIn_r _ [595, 281, 282, 5, 283, 288, 289, 290, 291, 57, 614, 615, 616, 617, 618, 619, 620, 621] (by decide +kernel) (by decide +kernel)
set_option maxRecDepth 20000 in
theorem gL_law_X4_placeFor : GoodIn wsL_law (wsV RL 99 RX4 yX4_placeFor wsX4_placeFor) := goodIn_app (goodIn_of _ (by decide +kernel)) ggL_law_X4_placeFor
set_option maxRecDepth 20000 in
theorem ggL_law_X3_takes : GoodIn wsL_law wsX3_takes := goodIn_r _ [599, 15, 600, 601, 602, 14, 603, 34, 90, 91, 92, 93, 37, 117, 101, 102, 103, 104, 105, 106, 608, 609, 610, 611, 612, 613, 622, 623, 624, 625, 626] (by decide +kernel) (by decide +kernel)
set_option maxRecDepth 20000 in
theorem gL_law_X3_takes : GoodIn wsL_law (wsV RL 100 RX3 yX3_takes wsX3_takes) := goodIn_app (goodIn_of _ (by decide +kernel)) ggL_law_X3_takes
set_option maxRecDepth 20000 in
theorem ggL_law_X4_takes : GoodIn wsL_law wsX4_takes := goodIn_r _ [607, 57, 60, 138, 139, 5, 140, 141, 142, 143, 144, 145, 146, 147, 148, 149, 150, 151, 152, 153, 154, 155, 156, 157, 158, 159, 160, 161, 162, 163, 164, 165, 166, 167, 168, 614, 615, 616, 617, 618, 619, 620, 621] (by decide +kernel) (by decide +kernel)
set_option maxRecDepth 20000 in
theorem gL_law_X4_takes : GoodIn wsL_law (wsV RL 103 RX4 yX4_takes wsX4_takes) := goodIn_app (goodIn_of _ (by decide +kernel)) ggL_law_X4_takes
theorem dL_law_0 : decode cL_law 0 = .ok (.new 7, 3) := by decide +kernel
theorem dL_law_3 : decode cL_law 3 = .ok (.dup, 1) := by decide +kernel
theorem dL_law_4 : decode cL_law 4 = .ok (.invokespecial 9, 3) := by decide +kernel
theorem dL_law_7 : decode cL_law 7 = .ok (.astore_n 1, 1) := by decide +kernel
theorem dL_law_8 : decode cL_law 8 = .ok (.new 10, 3) := by decide +kernel
theorem dL_law_11 : decode cL_law 11 = .ok (.dup, 1) := by decide +kernel
theorem dL_law_12 : decode cL_law 12 = .ok (.invokespecial 12, 3) := by decide +kernel
theorem dL_law_15 : decode cL_law 15 = .ok (.astore_n 2, 1) := by decide +kernel
theorem dL_law_16 : decode cL_law 16 = .ok (.iconst 0, 1) := by decide +kernel
theorem dL_law_17 : decode cL_law 17 = .ok (.istore_n 3, 1) := by decide +kernel
theorem dL_law_18 : decode cL_law 18 = .ok (.iload_n 3, 1) := by decide +kernel
theorem dL_law_19 : decode cL_law 19 = .ok (.aload_n 0, 1) := by decide +kernel
theorem dL_law_20 : decode cL_law 20 = .ok (.arraylength, 1) := by decide +kernel
theorem dL_law_21 : decode cL_law 21 = .ok (.iconst 3, 1) := by decide +kernel
theorem dL_law_22 : decode cL_law 22 = .ok (.isub, 1) := by decide +kernel
theorem dL_law_23 : decode cL_law 23 = .ok (.if_icmp .gt 605, 3) := by decide +kernel
theorem dL_law_26 : decode cL_law 26 = .ok (.aload_n 0, 1) := by decide +kernel
theorem dL_law_27 : decode cL_law 27 = .ok (.iload_n 3, 1) := by decide +kernel
theorem dL_law_28 : decode cL_law 28 = .ok (.iaload, 1) := by decide +kernel
theorem dL_law_29 : decode cL_law 29 = .ok (.bipush 31, 2) := by decide +kernel
theorem dL_law_31 : decode cL_law 31 = .ok (.iand, 1) := by decide +kernel
theorem dL_law_32 : decode cL_law 32 = .ok (.tableswitch 590 0 21 #[104, 117, 140, 173, 196, 219, 242, 265, 288, 301, 314, 337, 350, 363, 386, 419, 452, 485, 508, 531, 554, 577], 104) := by decide +kernel
theorem dL_law_136 : decode cL_law 136 = .ok (.aload_n 1, 1) := by decide +kernel
theorem dL_law_137 : decode cL_law 137 = .ok (.invokevirtual 13, 3) := by decide +kernel
theorem dL_law_140 : decode cL_law 140 = .ok (.aload_n 2, 1) := by decide +kernel
theorem dL_law_141 : decode cL_law 141 = .ok (.invokevirtual 17, 3) := by decide +kernel
theorem dL_law_144 : decode cL_law 144 = .ok (.if_icmp .eq 478, 3) := by decide +kernel
theorem dL_law_147 : decode cL_law 147 = .ok (.iconst 0, 1) := by decide +kernel
theorem dL_law_148 : decode cL_law 148 = .ok (.ireturn, 1) := by decide +kernel
theorem dL_law_149 : decode cL_law 149 = .ok (.aload_n 1, 1) := by decide +kernel
theorem dL_law_150 : decode cL_law 150 = .ok (.aload_n 0, 1) := by decide +kernel
theorem dL_law_151 : decode cL_law 151 = .ok (.iload_n 3, 1) := by decide +kernel
theorem dL_law_152 : decode cL_law 152 = .ok (.iconst 1, 1) := by decide +kernel
theorem dL_law_153 : decode cL_law 153 = .ok (.iadd, 1) := by decide +kernel
theorem dL_law_154 : decode cL_law 154 = .ok (.iaload, 1) := by decide +kernel
theorem dL_law_155 : decode cL_law 155 = .ok (.invokevirtual 18, 3) := by decide +kernel
theorem dL_law_158 : decode cL_law 158 = .ok (.aload_n 2, 1) := by decide +kernel
theorem dL_law_159 : decode cL_law 159 = .ok (.aload_n 0, 1) := by decide +kernel
theorem dL_law_160 : decode cL_law 160 = .ok (.iload_n 3, 1) := by decide +kernel
theorem dL_law_161 : decode cL_law 161 = .ok (.iconst 1, 1) := by decide +kernel
theorem dL_law_162 : decode cL_law 162 = .ok (.iadd, 1) := by decide +kernel
theorem dL_law_163 : decode cL_law 163 = .ok (.iaload, 1) := by decide +kernel
theorem dL_law_164 : decode cL_law 164 = .ok (.invokevirtual 22, 3) := by decide +kernel
theorem dL_law_167 : decode cL_law 167 = .ok (.if_icmp .eq 455, 3) := by decide +kernel
theorem dL_law_170 : decode cL_law 170 = .ok (.iconst 0, 1) := by decide +kernel
theorem dL_law_171 : decode cL_law 171 = .ok (.ireturn, 1) := by decide +kernel
theorem dL_law_172 : decode cL_law 172 = .ok (.aload_n 1, 1) := by decide +kernel
theorem dL_law_173 : decode cL_law 173 = .ok (.aload_n 0, 1) := by decide +kernel
theorem dL_law_174 : decode cL_law 174 = .ok (.iload_n 3, 1) := by decide +kernel
theorem dL_law_175 : decode cL_law 175 = .ok (.iconst 1, 1) := by decide +kernel
theorem dL_law_176 : decode cL_law 176 = .ok (.iadd, 1) := by decide +kernel
theorem dL_law_177 : decode cL_law 177 = .ok (.iaload, 1) := by decide +kernel
theorem dL_law_178 : decode cL_law 178 = .ok (.aload_n 0, 1) := by decide +kernel
theorem dL_law_179 : decode cL_law 179 = .ok (.iload_n 3, 1) := by decide +kernel
theorem dL_law_180 : decode cL_law 180 = .ok (.iconst 2, 1) := by decide +kernel
theorem dL_law_181 : decode cL_law 181 = .ok (.iadd, 1) := by decide +kernel
theorem dL_law_182 : decode cL_law 182 = .ok (.iaload, 1) := by decide +kernel
theorem dL_law_183 : decode cL_law 183 = .ok (.invokevirtual 23, 3) := by decide +kernel
theorem dL_law_186 : decode cL_law 186 = .ok (.aload_n 2, 1) := by decide +kernel
theorem dL_law_187 : decode cL_law 187 = .ok (.aload_n 0, 1) := by decide +kernel
theorem dL_law_188 : decode cL_law 188 = .ok (.iload_n 3, 1) := by decide +kernel
theorem dL_law_189 : decode cL_law 189 = .ok (.iconst 1, 1) := by decide +kernel
theorem dL_law_190 : decode cL_law 190 = .ok (.iadd, 1) := by decide +kernel
theorem dL_law_191 : decode cL_law 191 = .ok (.iaload, 1) := by decide +kernel
theorem dL_law_192 : decode cL_law 192 = .ok (.aload_n 0, 1) := by decide +kernel
theorem dL_law_193 : decode cL_law 193 = .ok (.iload_n 3, 1) := by decide +kernel
theorem dL_law_194 : decode cL_law 194 = .ok (.iconst 2, 1) := by decide +kernel
theorem dL_law_195 : decode cL_law 195 = .ok (.iadd, 1) := by decide +kernel
theorem dL_law_196 : decode cL_law 196 = .ok (.iaload, 1) := by decide +kernel
theorem dL_law_197 : decode cL_law 197 = .ok (.invokevirtual 27, 3) := by decide +kernel
theorem dL_law_200 : decode cL_law 200 = .ok (.if_icmp .eq 422, 3) := by decide +kernel
theorem dL_law_203 : decode cL_law 203 = .ok (.iconst 0, 1) := by decide +kernel
theorem dL_law_204 : decode cL_law 204 = .ok (.ireturn, 1) := by decide +kernel
theorem dL_law_205 : decode cL_law 205 = .ok (.aload_n 1, 1) := by decide +kernel
theorem dL_law_206 : decode cL_law 206 = .ok (.aload_n 0, 1) := by decide +kernel
theorem dL_law_207 : decode cL_law 207 = .ok (.iload_n 3, 1) := by decide +kernel
theorem dL_law_208 : decode cL_law 208 = .ok (.iconst 1, 1) := by decide +kernel
theorem dL_law_209 : decode cL_law 209 = .ok (.iadd, 1) := by decide +kernel
theorem dL_law_210 : decode cL_law 210 = .ok (.iaload, 1) := by decide +kernel
theorem dL_law_211 : decode cL_law 211 = .ok (.invokevirtual 28, 3) := by decide +kernel
theorem dL_law_214 : decode cL_law 214 = .ok (.aload_n 2, 1) := by decide +kernel
theorem dL_law_215 : decode cL_law 215 = .ok (.aload_n 0, 1) := by decide +kernel
theorem dL_law_216 : decode cL_law 216 = .ok (.iload_n 3, 1) := by decide +kernel
theorem dL_law_217 : decode cL_law 217 = .ok (.iconst 1, 1) := by decide +kernel
theorem dL_law_218 : decode cL_law 218 = .ok (.iadd, 1) := by decide +kernel
theorem dL_law_219 : decode cL_law 219 = .ok (.iaload, 1) := by decide +kernel
theorem dL_law_220 : decode cL_law 220 = .ok (.invokevirtual 31, 3) := by decide +kernel
theorem dL_law_223 : decode cL_law 223 = .ok (.if_icmp .eq 399, 3) := by decide +kernel
theorem dL_law_226 : decode cL_law 226 = .ok (.iconst 0, 1) := by decide +kernel
theorem dL_law_227 : decode cL_law 227 = .ok (.ireturn, 1) := by decide +kernel
theorem dL_law_228 : decode cL_law 228 = .ok (.aload_n 1, 1) := by decide +kernel
theorem dL_law_229 : decode cL_law 229 = .ok (.aload_n 0, 1) := by decide +kernel
theorem dL_law_230 : decode cL_law 230 = .ok (.iload_n 3, 1) := by decide +kernel
theorem dL_law_231 : decode cL_law 231 = .ok (.iconst 1, 1) := by decide +kernel
theorem dL_law_232 : decode cL_law 232 = .ok (.iadd, 1) := by decide +kernel
theorem dL_law_233 : decode cL_law 233 = .ok (.iaload, 1) := by decide +kernel
theorem dL_law_234 : decode cL_law 234 = .ok (.invokevirtual 32, 3) := by decide +kernel
theorem dL_law_237 : decode cL_law 237 = .ok (.aload_n 2, 1) := by decide +kernel
theorem dL_law_238 : decode cL_law 238 = .ok (.aload_n 0, 1) := by decide +kernel
theorem dL_law_239 : decode cL_law 239 = .ok (.iload_n 3, 1) := by decide +kernel
theorem dL_law_240 : decode cL_law 240 = .ok (.iconst 1, 1) := by decide +kernel
theorem dL_law_241 : decode cL_law 241 = .ok (.iadd, 1) := by decide +kernel
theorem dL_law_242 : decode cL_law 242 = .ok (.iaload, 1) := by decide +kernel
theorem dL_law_243 : decode cL_law 243 = .ok (.invokevirtual 35, 3) := by decide +kernel
theorem dL_law_246 : decode cL_law 246 = .ok (.if_icmp .eq 376, 3) := by decide +kernel
theorem dL_law_249 : decode cL_law 249 = .ok (.iconst 0, 1) := by decide +kernel
theorem dL_law_250 : decode cL_law 250 = .ok (.ireturn, 1) := by decide +kernel
theorem dL_law_251 : decode cL_law 251 = .ok (.aload_n 1, 1) := by decide +kernel
theorem dL_law_252 : decode cL_law 252 = .ok (.aload_n 0, 1) := by decide +kernel
theorem dL_law_253 : decode cL_law 253 = .ok (.iload_n 3, 1) := by decide +kernel
theorem dL_law_254 : decode cL_law 254 = .ok (.iconst 1, 1) := by decide +kernel
theorem dL_law_255 : decode cL_law 255 = .ok (.iadd, 1) := by decide +kernel
theorem dL_law_256 : decode cL_law 256 = .ok (.iaload, 1) := by decide +kernel
theorem dL_law_257 : decode cL_law 257 = .ok (.invokevirtual 36, 3) := by decide +kernel
theorem dL_law_260 : decode cL_law 260 = .ok (.aload_n 2, 1) := by decide +kernel
theorem dL_law_261 : decode cL_law 261 = .ok (.aload_n 0, 1) := by decide +kernel
theorem dL_law_262 : decode cL_law 262 = .ok (.iload_n 3, 1) := by decide +kernel
theorem dL_law_263 : decode cL_law 263 = .ok (.iconst 1, 1) := by decide +kernel
theorem dL_law_264 : decode cL_law 264 = .ok (.iadd, 1) := by decide +kernel
theorem dL_law_265 : decode cL_law 265 = .ok (.iaload, 1) := by decide +kernel
theorem dL_law_266 : decode cL_law 266 = .ok (.invokevirtual 39, 3) := by decide +kernel
theorem dL_law_269 : decode cL_law 269 = .ok (.if_icmp .eq 353, 3) := by decide +kernel
theorem dL_law_272 : decode cL_law 272 = .ok (.iconst 0, 1) := by decide +kernel
theorem dL_law_273 : decode cL_law 273 = .ok (.ireturn, 1) := by decide +kernel
theorem dL_law_274 : decode cL_law 274 = .ok (.aload_n 1, 1) := by decide +kernel
theorem dL_law_275 : decode cL_law 275 = .ok (.aload_n 0, 1) := by decide +kernel
theorem dL_law_276 : decode cL_law 276 = .ok (.iload_n 3, 1) := by decide +kernel
theorem dL_law_277 : decode cL_law 277 = .ok (.iconst 1, 1) := by decide +kernel
theorem dL_law_278 : decode cL_law 278 = .ok (.iadd, 1) := by decide +kernel
theorem dL_law_279 : decode cL_law 279 = .ok (.iaload, 1) := by decide +kernel
theorem dL_law_280 : decode cL_law 280 = .ok (.invokevirtual 40, 3) := by decide +kernel
theorem dL_law_283 : decode cL_law 283 = .ok (.aload_n 2, 1) := by decide +kernel
theorem dL_law_284 : decode cL_law 284 = .ok (.aload_n 0, 1) := by decide +kernel
theorem dL_law_285 : decode cL_law 285 = .ok (.iload_n 3, 1) := by decide +kernel
theorem dL_law_286 : decode cL_law 286 = .ok (.iconst 1, 1) := by decide +kernel
theorem dL_law_287 : decode cL_law 287 = .ok (.iadd, 1) := by decide +kernel
theorem dL_law_288 : decode cL_law 288 = .ok (.iaload, 1) := by decide +kernel
theorem dL_law_289 : decode cL_law 289 = .ok (.invokevirtual 43, 3) := by decide +kernel
theorem dL_law_292 : decode cL_law 292 = .ok (.if_icmp .eq 330, 3) := by decide +kernel
theorem dL_law_295 : decode cL_law 295 = .ok (.iconst 0, 1) := by decide +kernel
theorem dL_law_296 : decode cL_law 296 = .ok (.ireturn, 1) := by decide +kernel
theorem dL_law_297 : decode cL_law 297 = .ok (.aload_n 1, 1) := by decide +kernel
theorem dL_law_298 : decode cL_law 298 = .ok (.aload_n 0, 1) := by decide +kernel
theorem dL_law_299 : decode cL_law 299 = .ok (.iload_n 3, 1) := by decide +kernel
theorem dL_law_300 : decode cL_law 300 = .ok (.iconst 1, 1) := by decide +kernel
theorem dL_law_301 : decode cL_law 301 = .ok (.iadd, 1) := by decide +kernel
theorem dL_law_302 : decode cL_law 302 = .ok (.iaload, 1) := by decide +kernel
theorem dL_law_303 : decode cL_law 303 = .ok (.invokevirtual 44, 3) := by decide +kernel
theorem dL_law_306 : decode cL_law 306 = .ok (.aload_n 2, 1) := by decide +kernel
theorem dL_law_307 : decode cL_law 307 = .ok (.aload_n 0, 1) := by decide +kernel
theorem dL_law_308 : decode cL_law 308 = .ok (.iload_n 3, 1) := by decide +kernel
theorem dL_law_309 : decode cL_law 309 = .ok (.iconst 1, 1) := by decide +kernel
theorem dL_law_310 : decode cL_law 310 = .ok (.iadd, 1) := by decide +kernel
theorem dL_law_311 : decode cL_law 311 = .ok (.iaload, 1) := by decide +kernel
theorem dL_law_312 : decode cL_law 312 = .ok (.invokevirtual 47, 3) := by decide +kernel
theorem dL_law_315 : decode cL_law 315 = .ok (.if_icmp .eq 307, 3) := by decide +kernel
theorem dL_law_318 : decode cL_law 318 = .ok (.iconst 0, 1) := by decide +kernel
theorem dL_law_319 : decode cL_law 319 = .ok (.ireturn, 1) := by decide +kernel
theorem dL_law_320 : decode cL_law 320 = .ok (.aload_n 1, 1) := by decide +kernel
theorem dL_law_321 : decode cL_law 321 = .ok (.invokevirtual 48, 3) := by decide +kernel
theorem dL_law_324 : decode cL_law 324 = .ok (.aload_n 2, 1) := by decide +kernel
theorem dL_law_325 : decode cL_law 325 = .ok (.invokevirtual 51, 3) := by decide +kernel
theorem dL_law_328 : decode cL_law 328 = .ok (.if_icmp .eq 294, 3) := by decide +kernel
theorem dL_law_331 : decode cL_law 331 = .ok (.iconst 0, 1) := by decide +kernel
theorem dL_law_332 : decode cL_law 332 = .ok (.ireturn, 1) := by decide +kernel
theorem dL_law_333 : decode cL_law 333 = .ok (.aload_n 1, 1) := by decide +kernel
theorem dL_law_334 : decode cL_law 334 = .ok (.invokevirtual 52, 3) := by decide +kernel
theorem dL_law_337 : decode cL_law 337 = .ok (.aload_n 2, 1) := by decide +kernel
theorem dL_law_338 : decode cL_law 338 = .ok (.invokevirtual 55, 3) := by decide +kernel
theorem dL_law_341 : decode cL_law 341 = .ok (.if_icmp .eq 281, 3) := by decide +kernel
theorem dL_law_344 : decode cL_law 344 = .ok (.iconst 0, 1) := by decide +kernel
theorem dL_law_345 : decode cL_law 345 = .ok (.ireturn, 1) := by decide +kernel
theorem dL_law_346 : decode cL_law 346 = .ok (.aload_n 1, 1) := by decide +kernel
theorem dL_law_347 : decode cL_law 347 = .ok (.aload_n 0, 1) := by decide +kernel
theorem dL_law_348 : decode cL_law 348 = .ok (.iload_n 3, 1) := by decide +kernel
theorem dL_law_349 : decode cL_law 349 = .ok (.iconst 1, 1) := by decide +kernel
theorem dL_law_350 : decode cL_law 350 = .ok (.iadd, 1) := by decide +kernel
theorem dL_law_351 : decode cL_law 351 = .ok (.iaload, 1) := by decide +kernel
theorem dL_law_352 : decode cL_law 352 = .ok (.invokevirtual 56, 3) := by decide +kernel
theorem dL_law_355 : decode cL_law 355 = .ok (.aload_n 2, 1) := by decide +kernel
theorem dL_law_356 : decode cL_law 356 = .ok (.aload_n 0, 1) := by decide +kernel
theorem dL_law_357 : decode cL_law 357 = .ok (.iload_n 3, 1) := by decide +kernel
theorem dL_law_358 : decode cL_law 358 = .ok (.iconst 1, 1) := by decide +kernel
theorem dL_law_359 : decode cL_law 359 = .ok (.iadd, 1) := by decide +kernel
theorem dL_law_360 : decode cL_law 360 = .ok (.iaload, 1) := by decide +kernel
theorem dL_law_361 : decode cL_law 361 = .ok (.invokevirtual 59, 3) := by decide +kernel
theorem dL_law_364 : decode cL_law 364 = .ok (.if_icmp .eq 258, 3) := by decide +kernel
theorem dL_law_367 : decode cL_law 367 = .ok (.iconst 0, 1) := by decide +kernel
theorem dL_law_368 : decode cL_law 368 = .ok (.ireturn, 1) := by decide +kernel
theorem dL_law_369 : decode cL_law 369 = .ok (.aload_n 1, 1) := by decide +kernel
theorem dL_law_370 : decode cL_law 370 = .ok (.invokevirtual 60, 3) := by decide +kernel
theorem dL_law_373 : decode cL_law 373 = .ok (.aload_n 2, 1) := by decide +kernel
theorem dL_law_374 : decode cL_law 374 = .ok (.invokevirtual 63, 3) := by decide +kernel
theorem dL_law_377 : decode cL_law 377 = .ok (.if_icmp .eq 245, 3) := by decide +kernel
theorem dL_law_380 : decode cL_law 380 = .ok (.iconst 0, 1) := by decide +kernel
theorem dL_law_381 : decode cL_law 381 = .ok (.ireturn, 1) := by decide +kernel
theorem dL_law_382 : decode cL_law 382 = .ok (.aload_n 1, 1) := by decide +kernel
theorem dL_law_383 : decode cL_law 383 = .ok (.invokevirtual 64, 3) := by decide +kernel
theorem dL_law_386 : decode cL_law 386 = .ok (.aload_n 2, 1) := by decide +kernel
theorem dL_law_387 : decode cL_law 387 = .ok (.invokevirtual 67, 3) := by decide +kernel
theorem dL_law_390 : decode cL_law 390 = .ok (.if_icmp .eq 232, 3) := by decide +kernel
theorem dL_law_393 : decode cL_law 393 = .ok (.iconst 0, 1) := by decide +kernel
theorem dL_law_394 : decode cL_law 394 = .ok (.ireturn, 1) := by decide +kernel
theorem dL_law_395 : decode cL_law 395 = .ok (.aload_n 1, 1) := by decide +kernel
theorem dL_law_396 : decode cL_law 396 = .ok (.aload_n 0, 1) := by decide +kernel
theorem dL_law_397 : decode cL_law 397 = .ok (.iload_n 3, 1) := by decide +kernel
theorem dL_law_398 : decode cL_law 398 = .ok (.iconst 1, 1) := by decide +kernel
theorem dL_law_399 : decode cL_law 399 = .ok (.iadd, 1) := by decide +kernel
theorem dL_law_400 : decode cL_law 400 = .ok (.iaload, 1) := by decide +kernel
theorem dL_law_401 : decode cL_law 401 = .ok (.invokevirtual 68, 3) := by decide +kernel
theorem dL_law_404 : decode cL_law 404 = .ok (.aload_n 2, 1) := by decide +kernel
theorem dL_law_405 : decode cL_law 405 = .ok (.aload_n 0, 1) := by decide +kernel
theorem dL_law_406 : decode cL_law 406 = .ok (.iload_n 3, 1) := by decide +kernel
theorem dL_law_407 : decode cL_law 407 = .ok (.iconst 1, 1) := by decide +kernel
theorem dL_law_408 : decode cL_law 408 = .ok (.iadd, 1) := by decide +kernel
theorem dL_law_409 : decode cL_law 409 = .ok (.iaload, 1) := by decide +kernel
theorem dL_law_410 : decode cL_law 410 = .ok (.invokevirtual 71, 3) := by decide +kernel
theorem dL_law_413 : decode cL_law 413 = .ok (.if_icmp .eq 209, 3) := by decide +kernel
theorem dL_law_416 : decode cL_law 416 = .ok (.iconst 0, 1) := by decide +kernel
theorem dL_law_417 : decode cL_law 417 = .ok (.ireturn, 1) := by decide +kernel
theorem dL_law_418 : decode cL_law 418 = .ok (.aload_n 1, 1) := by decide +kernel
theorem dL_law_419 : decode cL_law 419 = .ok (.aload_n 0, 1) := by decide +kernel
theorem dL_law_420 : decode cL_law 420 = .ok (.iload_n 3, 1) := by decide +kernel
theorem dL_law_421 : decode cL_law 421 = .ok (.iconst 1, 1) := by decide +kernel
theorem dL_law_422 : decode cL_law 422 = .ok (.iadd, 1) := by decide +kernel
theorem dL_law_423 : decode cL_law 423 = .ok (.iaload, 1) := by decide +kernel
theorem dL_law_424 : decode cL_law 424 = .ok (.aload_n 0, 1) := by decide +kernel
theorem dL_law_425 : decode cL_law 425 = .ok (.iload_n 3, 1) := by decide +kernel
theorem dL_law_426 : decode cL_law 426 = .ok (.iconst 2, 1) := by decide +kernel
theorem dL_law_427 : decode cL_law 427 = .ok (.iadd, 1) := by decide +kernel
theorem dL_law_428 : decode cL_law 428 = .ok (.iaload, 1) := by decide +kernel
theorem dL_law_429 : decode cL_law 429 = .ok (.invokevirtual 72, 3) := by decide +kernel
theorem dL_law_432 : decode cL_law 432 = .ok (.aload_n 2, 1) := by decide +kernel
theorem dL_law_433 : decode cL_law 433 = .ok (.aload_n 0, 1) := by decide +kernel
theorem dL_law_434 : decode cL_law 434 = .ok (.iload_n 3, 1) := by decide +kernel
theorem dL_law_435 : decode cL_law 435 = .ok (.iconst 1, 1) := by decide +kernel
theorem dL_law_436 : decode cL_law 436 = .ok (.iadd, 1) := by decide +kernel
theorem dL_law_437 : decode cL_law 437 = .ok (.iaload, 1) := by decide +kernel
theorem dL_law_438 : decode cL_law 438 = .ok (.aload_n 0, 1) := by decide +kernel
theorem dL_law_439 : decode cL_law 439 = .ok (.iload_n 3, 1) := by decide +kernel
theorem dL_law_440 : decode cL_law 440 = .ok (.iconst 2, 1) := by decide +kernel
theorem dL_law_441 : decode cL_law 441 = .ok (.iadd, 1) := by decide +kernel
theorem dL_law_442 : decode cL_law 442 = .ok (.iaload, 1) := by decide +kernel
theorem dL_law_443 : decode cL_law 443 = .ok (.invokevirtual 75, 3) := by decide +kernel
theorem dL_law_446 : decode cL_law 446 = .ok (.if_icmp .eq 176, 3) := by decide +kernel
theorem dL_law_449 : decode cL_law 449 = .ok (.iconst 0, 1) := by decide +kernel
theorem dL_law_450 : decode cL_law 450 = .ok (.ireturn, 1) := by decide +kernel
theorem dL_law_451 : decode cL_law 451 = .ok (.aload_n 1, 1) := by decide +kernel
theorem dL_law_452 : decode cL_law 452 = .ok (.aload_n 0, 1) := by decide +kernel
theorem dL_law_453 : decode cL_law 453 = .ok (.iload_n 3, 1) := by decide +kernel
theorem dL_law_454 : decode cL_law 454 = .ok (.iconst 1, 1) := by decide +kernel
theorem dL_law_455 : decode cL_law 455 = .ok (.iadd, 1) := by decide +kernel
theorem dL_law_456 : decode cL_law 456 = .ok (.iaload, 1) := by decide +kernel
theorem dL_law_457 : decode cL_law 457 = .ok (.aload_n 0, 1) := by decide +kernel
theorem dL_law_458 : decode cL_law 458 = .ok (.iload_n 3, 1) := by decide +kernel
theorem dL_law_459 : decode cL_law 459 = .ok (.iconst 2, 1) := by decide +kernel
theorem dL_law_460 : decode cL_law 460 = .ok (.iadd, 1) := by decide +kernel
theorem dL_law_461 : decode cL_law 461 = .ok (.iaload, 1) := by decide +kernel
theorem dL_law_462 : decode cL_law 462 = .ok (.invokevirtual 76, 3) := by decide +kernel
theorem dL_law_465 : decode cL_law 465 = .ok (.aload_n 2, 1) := by decide +kernel
theorem dL_law_466 : decode cL_law 466 = .ok (.aload_n 0, 1) := by decide +kernel
theorem dL_law_467 : decode cL_law 467 = .ok (.iload_n 3, 1) := by decide +kernel
theorem dL_law_468 : decode cL_law 468 = .ok (.iconst 1, 1) := by decide +kernel
theorem dL_law_469 : decode cL_law 469 = .ok (.iadd, 1) := by decide +kernel
theorem dL_law_470 : decode cL_law 470 = .ok (.iaload, 1) := by decide +kernel
theorem dL_law_471 : decode cL_law 471 = .ok (.aload_n 0, 1) := by decide +kernel
theorem dL_law_472 : decode cL_law 472 = .ok (.iload_n 3, 1) := by decide +kernel
theorem dL_law_473 : decode cL_law 473 = .ok (.iconst 2, 1) := by decide +kernel
theorem dL_law_474 : decode cL_law 474 = .ok (.iadd, 1) := by decide +kernel
theorem dL_law_475 : decode cL_law 475 = .ok (.iaload, 1) := by decide +kernel
theorem dL_law_476 : decode cL_law 476 = .ok (.invokevirtual 79, 3) := by decide +kernel
theorem dL_law_479 : decode cL_law 479 = .ok (.if_icmp .eq 143, 3) := by decide +kernel
theorem dL_law_482 : decode cL_law 482 = .ok (.iconst 0, 1) := by decide +kernel
theorem dL_law_483 : decode cL_law 483 = .ok (.ireturn, 1) := by decide +kernel
theorem dL_law_484 : decode cL_law 484 = .ok (.aload_n 1, 1) := by decide +kernel
theorem dL_law_485 : decode cL_law 485 = .ok (.aload_n 0, 1) := by decide +kernel
theorem dL_law_486 : decode cL_law 486 = .ok (.iload_n 3, 1) := by decide +kernel
theorem dL_law_487 : decode cL_law 487 = .ok (.iconst 1, 1) := by decide +kernel
theorem dL_law_488 : decode cL_law 488 = .ok (.iadd, 1) := by decide +kernel
theorem dL_law_489 : decode cL_law 489 = .ok (.iaload, 1) := by decide +kernel
theorem dL_law_490 : decode cL_law 490 = .ok (.aload_n 0, 1) := by decide +kernel
theorem dL_law_491 : decode cL_law 491 = .ok (.iload_n 3, 1) := by decide +kernel
theorem dL_law_492 : decode cL_law 492 = .ok (.iconst 2, 1) := by decide +kernel
theorem dL_law_493 : decode cL_law 493 = .ok (.iadd, 1) := by decide +kernel
theorem dL_law_494 : decode cL_law 494 = .ok (.iaload, 1) := by decide +kernel
theorem dL_law_495 : decode cL_law 495 = .ok (.invokevirtual 80, 3) := by decide +kernel
theorem dL_law_498 : decode cL_law 498 = .ok (.aload_n 2, 1) := by decide +kernel
theorem dL_law_499 : decode cL_law 499 = .ok (.aload_n 0, 1) := by decide +kernel
theorem dL_law_500 : decode cL_law 500 = .ok (.iload_n 3, 1) := by decide +kernel
theorem dL_law_501 : decode cL_law 501 = .ok (.iconst 1, 1) := by decide +kernel
theorem dL_law_502 : decode cL_law 502 = .ok (.iadd, 1) := by decide +kernel
theorem dL_law_503 : decode cL_law 503 = .ok (.iaload, 1) := by decide +kernel
theorem dL_law_504 : decode cL_law 504 = .ok (.aload_n 0, 1) := by decide +kernel
theorem dL_law_505 : decode cL_law 505 = .ok (.iload_n 3, 1) := by decide +kernel
theorem dL_law_506 : decode cL_law 506 = .ok (.iconst 2, 1) := by decide +kernel
theorem dL_law_507 : decode cL_law 507 = .ok (.iadd, 1) := by decide +kernel
theorem dL_law_508 : decode cL_law 508 = .ok (.iaload, 1) := by decide +kernel
theorem dL_law_509 : decode cL_law 509 = .ok (.invokevirtual 83, 3) := by decide +kernel
theorem dL_law_512 : decode cL_law 512 = .ok (.if_icmp .eq 110, 3) := by decide +kernel
theorem dL_law_515 : decode cL_law 515 = .ok (.iconst 0, 1) := by decide +kernel
theorem dL_law_516 : decode cL_law 516 = .ok (.ireturn, 1) := by decide +kernel
theorem dL_law_517 : decode cL_law 517 = .ok (.aload_n 1, 1) := by decide +kernel
theorem dL_law_518 : decode cL_law 518 = .ok (.aload_n 0, 1) := by decide +kernel
theorem dL_law_519 : decode cL_law 519 = .ok (.iload_n 3, 1) := by decide +kernel
theorem dL_law_520 : decode cL_law 520 = .ok (.iconst 1, 1) := by decide +kernel
theorem dL_law_521 : decode cL_law 521 = .ok (.iadd, 1) := by decide +kernel
theorem dL_law_522 : decode cL_law 522 = .ok (.iaload, 1) := by decide +kernel
theorem dL_law_523 : decode cL_law 523 = .ok (.invokevirtual 84, 3) := by decide +kernel
theorem dL_law_526 : decode cL_law 526 = .ok (.aload_n 2, 1) := by decide +kernel
theorem dL_law_527 : decode cL_law 527 = .ok (.aload_n 0, 1) := by decide +kernel
theorem dL_law_528 : decode cL_law 528 = .ok (.iload_n 3, 1) := by decide +kernel
theorem dL_law_529 : decode cL_law 529 = .ok (.iconst 1, 1) := by decide +kernel
theorem dL_law_530 : decode cL_law 530 = .ok (.iadd, 1) := by decide +kernel
theorem dL_law_531 : decode cL_law 531 = .ok (.iaload, 1) := by decide +kernel
theorem dL_law_532 : decode cL_law 532 = .ok (.invokevirtual 87, 3) := by decide +kernel
theorem dL_law_535 : decode cL_law 535 = .ok (.if_icmp .eq 87, 3) := by decide +kernel
theorem dL_law_538 : decode cL_law 538 = .ok (.iconst 0, 1) := by decide +kernel
theorem dL_law_539 : decode cL_law 539 = .ok (.ireturn, 1) := by decide +kernel
theorem dL_law_540 : decode cL_law 540 = .ok (.aload_n 1, 1) := by decide +kernel
theorem dL_law_541 : decode cL_law 541 = .ok (.aload_n 0, 1) := by decide +kernel
theorem dL_law_542 : decode cL_law 542 = .ok (.iload_n 3, 1) := by decide +kernel
theorem dL_law_543 : decode cL_law 543 = .ok (.iconst 1, 1) := by decide +kernel
theorem dL_law_544 : decode cL_law 544 = .ok (.iadd, 1) := by decide +kernel
theorem dL_law_545 : decode cL_law 545 = .ok (.iaload, 1) := by decide +kernel
theorem dL_law_546 : decode cL_law 546 = .ok (.invokevirtual 88, 3) := by decide +kernel
theorem dL_law_549 : decode cL_law 549 = .ok (.aload_n 2, 1) := by decide +kernel
theorem dL_law_550 : decode cL_law 550 = .ok (.aload_n 0, 1) := by decide +kernel
theorem dL_law_551 : decode cL_law 551 = .ok (.iload_n 3, 1) := by decide +kernel
theorem dL_law_552 : decode cL_law 552 = .ok (.iconst 1, 1) := by decide +kernel
theorem dL_law_553 : decode cL_law 553 = .ok (.iadd, 1) := by decide +kernel
theorem dL_law_554 : decode cL_law 554 = .ok (.iaload, 1) := by decide +kernel
theorem dL_law_555 : decode cL_law 555 = .ok (.invokevirtual 91, 3) := by decide +kernel
theorem dL_law_558 : decode cL_law 558 = .ok (.if_icmp .eq 64, 3) := by decide +kernel
theorem dL_law_561 : decode cL_law 561 = .ok (.iconst 0, 1) := by decide +kernel
theorem dL_law_562 : decode cL_law 562 = .ok (.ireturn, 1) := by decide +kernel
theorem dL_law_563 : decode cL_law 563 = .ok (.aload_n 1, 1) := by decide +kernel
theorem dL_law_564 : decode cL_law 564 = .ok (.aload_n 0, 1) := by decide +kernel
theorem dL_law_565 : decode cL_law 565 = .ok (.iload_n 3, 1) := by decide +kernel
theorem dL_law_566 : decode cL_law 566 = .ok (.iconst 1, 1) := by decide +kernel
theorem dL_law_567 : decode cL_law 567 = .ok (.iadd, 1) := by decide +kernel
theorem dL_law_568 : decode cL_law 568 = .ok (.iaload, 1) := by decide +kernel
theorem dL_law_569 : decode cL_law 569 = .ok (.invokevirtual 92, 3) := by decide +kernel
theorem dL_law_572 : decode cL_law 572 = .ok (.aload_n 2, 1) := by decide +kernel
theorem dL_law_573 : decode cL_law 573 = .ok (.aload_n 0, 1) := by decide +kernel
theorem dL_law_574 : decode cL_law 574 = .ok (.iload_n 3, 1) := by decide +kernel
theorem dL_law_575 : decode cL_law 575 = .ok (.iconst 1, 1) := by decide +kernel
theorem dL_law_576 : decode cL_law 576 = .ok (.iadd, 1) := by decide +kernel
theorem dL_law_577 : decode cL_law 577 = .ok (.iaload, 1) := by decide +kernel
theorem dL_law_578 : decode cL_law 578 = .ok (.invokevirtual 95, 3) := by decide +kernel
theorem dL_law_581 : decode cL_law 581 = .ok (.if_icmp .eq 41, 3) := by decide +kernel
theorem dL_law_584 : decode cL_law 584 = .ok (.iconst 0, 1) := by decide +kernel
theorem dL_law_585 : decode cL_law 585 = .ok (.ireturn, 1) := by decide +kernel
theorem dL_law_586 : decode cL_law 586 = .ok (.aload_n 1, 1) := by decide +kernel
theorem dL_law_587 : decode cL_law 587 = .ok (.aload_n 0, 1) := by decide +kernel
theorem dL_law_588 : decode cL_law 588 = .ok (.iload_n 3, 1) := by decide +kernel
theorem dL_law_589 : decode cL_law 589 = .ok (.iconst 1, 1) := by decide +kernel
theorem dL_law_590 : decode cL_law 590 = .ok (.iadd, 1) := by decide +kernel
theorem dL_law_591 : decode cL_law 591 = .ok (.iaload, 1) := by decide +kernel
theorem dL_law_592 : decode cL_law 592 = .ok (.invokevirtual 96, 3) := by decide +kernel
theorem dL_law_595 : decode cL_law 595 = .ok (.aload_n 2, 1) := by decide +kernel
theorem dL_law_596 : decode cL_law 596 = .ok (.aload_n 0, 1) := by decide +kernel
theorem dL_law_597 : decode cL_law 597 = .ok (.iload_n 3, 1) := by decide +kernel
theorem dL_law_598 : decode cL_law 598 = .ok (.iconst 1, 1) := by decide +kernel
theorem dL_law_599 : decode cL_law 599 = .ok (.iadd, 1) := by decide +kernel
theorem dL_law_600 : decode cL_law 600 = .ok (.iaload, 1) := by decide +kernel
theorem dL_law_601 : decode cL_law 601 = .ok (.invokevirtual 99, 3) := by decide +kernel
theorem dL_law_604 : decode cL_law 604 = .ok (.if_icmp .eq 18, 3) := by decide +kernel
theorem dL_law_607 : decode cL_law 607 = .ok (.iconst 0, 1) := by decide +kernel
theorem dL_law_608 : decode cL_law 608 = .ok (.ireturn, 1) := by decide +kernel
theorem dL_law_609 : decode cL_law 609 = .ok (.aload_n 1, 1) := by decide +kernel
theorem dL_law_610 : decode cL_law 610 = .ok (.invokevirtual 100, 3) := by decide +kernel
theorem dL_law_613 : decode cL_law 613 = .ok (.aload_n 2, 1) := by decide +kernel
theorem dL_law_614 : decode cL_law 614 = .ok (.invokevirtual 103, 3) := by decide +kernel
theorem dL_law_617 : decode cL_law 617 = .ok (.if_icmp .eq 5, 3) := by decide +kernel
theorem dL_law_620 : decode cL_law 620 = .ok (.iconst 0, 1) := by decide +kernel
theorem dL_law_621 : decode cL_law 621 = .ok (.ireturn, 1) := by decide +kernel
theorem dL_law_622 : decode cL_law 622 = .ok (.iinc 3 3, 3) := by decide +kernel
theorem dL_law_625 : decode cL_law 625 = .ok (.goto (-607), 3) := by decide +kernel
theorem dL_law_628 : decode cL_law 628 = .ok (.iconst 1, 1) := by decide +kernel
theorem dL_law_629 : decode cL_law 629 = .ok (.ireturn, 1) := by decide +kernel
abbrev vwCl : List vw_C := [(RX0, TX0, 3), (RX1, TX1, 6), (RX2, TX2, 5), (RX3, TX3, 6), (RX4, TX4, 8)]
/-- the objects of SlotMaps$History, kind 0: what each holds, by its address -/
structure wK_O_History where
  f_ring : Nat → Option Nat
  f_oldest : Nat → Int32
  f_states : Nat → Int32
/-- the objects of SlotMaps$Program, kind 1: what each holds, by its address -/
structure wK_O_Program where
  f_letter : Nat → Int32
  f_letterPlace : Nat → Int32
  f_hasFrom : Nat → Int32
  f_from : Nat → Int32
  f_number : Nat → Int32
  f_digits : Nat → Int32
/-- the objects of SlotMaps$Slots, kind 2: what each holds, by its address -/
structure wK_O_Slots where
  f_bits : Nat → Option Nat
  f_blockFirst : Nat → Option Nat
  f_blockSize : Nat → Option Nat
  f_summary : Nat → Int32
  f_looks : Nat → Int32
/-- the objects of SlotMaps, kind 3: what each holds, by its address -/
structure wK_O_SlotMaps where
  f_now : Nat → Option Nat
  f_trial : Nat → Option Nat
  f_history : Nat → Option Nat
  f_program : Nat → Option Nat
  f_text : Nat → Option Nat
  f_textLength : Nat → Int32
/-- the objects of SlotMapsModel, kind 4: what each holds, by its address -/
structure wK_O_SlotMapsModel where
  f_now : Nat → Option Nat
  f_past : Nat → Option Nat
  f_pasts : Nat → Int32
  f_before : Nat → Option Nat
  f_trial : Nat → Option Nat
  f_text : Nat → Option Nat
  f_typed : Nat → Int32
  f_at : Nat → Int32
/-- the arrays of kind 5: what each holds, by its address -/
structure wK_R_C where
  len : Nat → Nat
  row : Nat → Nat → Int32
/-- the arrays of kind 6: what each holds, by its address -/
structure wK_R_I where
  len : Nat → Nat
  row : Nat → Nat → Int32
/-- the arrays of kind 7: what each holds, by its address -/
structure wK_R_Slots where
  len : Nat → Nat
  row : Nat → Nat → Option Nat
/-- the arrays of kind 8: what each holds, by its address -/
structure wK_R__I where
  len : Nat → Nat
  row : Nat → Nat → Option Nat
/-- the pool: the addresses, the kind of each, and the kinds -/
structure wPS where
  L : List Nat
  K : Nat → Nat
  O_History : wK_O_History
  O_Program : wK_O_Program
  O_Slots : wK_O_Slots
  O_SlotMaps : wK_O_SlotMaps
  O_SlotMapsModel : wK_O_SlotMapsModel
  R_C : wK_R_C
  R_I : wK_R_I
  R_Slots : wK_R_Slots
  R__I : wK_R__I
/-- the empty pool -/
abbrev wP0 : wPS := { L := [], K := (fun _ => 0), O_History := { f_ring := (fun _ => none), f_oldest := (fun _ => 0), f_states := (fun _ => 0) }, O_Program := { f_letter := (fun _ => 0), f_letterPlace := (fun _ => 0), f_hasFrom := (fun _ => 0), f_from := (fun _ => 0), f_number := (fun _ => 0), f_digits := (fun _ => 0) }, O_Slots := { f_bits := (fun _ => none), f_blockFirst := (fun _ => none), f_blockSize := (fun _ => none), f_summary := (fun _ => 0), f_looks := (fun _ => 0) }, O_SlotMaps := { f_now := (fun _ => none), f_trial := (fun _ => none), f_history := (fun _ => none), f_program := (fun _ => none), f_text := (fun _ => none), f_textLength := (fun _ => 0) }, O_SlotMapsModel := { f_now := (fun _ => none), f_past := (fun _ => none), f_pasts := (fun _ => 0), f_before := (fun _ => none), f_trial := (fun _ => none), f_text := (fun _ => none), f_typed := (fun _ => 0), f_at := (fun _ => 0) }, R_C := { len := (fun _ => 0), row := (fun _ _ => 0) }, R_I := { len := (fun _ => 0), row := (fun _ _ => 0) }, R_Slots := { len := (fun _ => 0), row := (fun _ _ => none) }, R__I := { len := (fun _ => 0), row := (fun _ _ => none) } }
/-- the pool's rows by their kinds -/
abbrev wPF (cyC : ClassId) (cyI : ClassId) (cyO311cb : ClassId) (cyO28f5b : ClassId) (S : wPS) : Nat → va_E := fun a => if S.K a = 0 then .inr (0, [va_rf (S.O_History.f_ring a), .int (S.O_History.f_oldest a), .int (S.O_History.f_states a)]) else if S.K a = 1 then .inr (1, [.int (S.O_Program.f_letter a), .int (S.O_Program.f_letterPlace a), .int (S.O_Program.f_hasFrom a), .int (S.O_Program.f_from a), .int (S.O_Program.f_number a), .int (S.O_Program.f_digits a)]) else if S.K a = 2 then .inr (2, [va_rf (S.O_Slots.f_bits a), va_rf (S.O_Slots.f_blockFirst a), va_rf (S.O_Slots.f_blockSize a), .int (S.O_Slots.f_summary a), .int (S.O_Slots.f_looks a)]) else if S.K a = 3 then .inr (3, [va_rf (S.O_SlotMaps.f_now a), va_rf (S.O_SlotMaps.f_trial a), va_rf (S.O_SlotMaps.f_history a), va_rf (S.O_SlotMaps.f_program a), va_rf (S.O_SlotMaps.f_text a), .int (S.O_SlotMaps.f_textLength a)]) else if S.K a = 4 then .inr (4, [va_rf (S.O_SlotMapsModel.f_now a), va_rf (S.O_SlotMapsModel.f_past a), .int (S.O_SlotMapsModel.f_pasts a), va_rf (S.O_SlotMapsModel.f_before a), va_rf (S.O_SlotMapsModel.f_trial a), va_rf (S.O_SlotMapsModel.f_text a), .int (S.O_SlotMapsModel.f_typed a), .int (S.O_SlotMapsModel.f_at a)]) else if S.K a = 5 then .inl (cyC, S.R_C.len a, .inl (S.R_C.row a)) else if S.K a = 6 then .inl (cyI, S.R_I.len a, .inl (S.R_I.row a)) else if S.K a = 7 then .inl (cyO311cb, S.R_Slots.len a, .inr (.inr (.inr (.inr (S.R_Slots.row a))))) else .inl (cyO28f5b, S.R__I.len a, .inr (.inr (.inr (.inr (S.R__I.row a)))))
theorem wAt_O_History (cyC : ClassId) (cyI : ClassId) (cyO311cb : ClassId) (cyO28f5b : ClassId) (S : wPS) {a : Nat} (h : S.K a = 0) : wPF cyC cyI cyO311cb cyO28f5b S a = .inr (0, [va_rf (S.O_History.f_ring a), .int (S.O_History.f_oldest a), .int (S.O_History.f_states a)]) := by simp [wPF, h]
theorem wGt_O_History (cyC : ClassId) (cyI : ClassId) (cyO311cb : ClassId) (cyO28f5b : ClassId) (X : va_W) (S : wPS) {a : Nat} (hL : a ∈ S.L) (h : S.K a = 0) : ∃ k : Nat, (X ++ va_pl S.L (wPF cyC cyI cyO311cb cyO28f5b S))[k]? = some (a, wPF cyC cyI cyO311cb cyO28f5b S a) ∧ (X ++ va_pl S.L (wPF cyC cyI cyO311cb cyO28f5b S))[k]? = some (a, .inr (0, [va_rf (S.O_History.f_ring a), .int (S.O_History.f_oldest a), .int (S.O_History.f_states a)])) := by
  obtain ⟨k, hk⟩ := va_pl_get (X := X) (f := wPF cyC cyI cyO311cb cyO28f5b S) hL
  exact ⟨k, hk, hk.trans (congrArg (fun e => some (a, e)) (wAt_O_History cyC cyI cyO311cb cyO28f5b S h))⟩
theorem wSt_O_History_f_ring (cyC : ClassId) (cyI : ClassId) (cyO311cb : ClassId) (cyO28f5b : ClassId) (S : wPS) {a : Nat} (h : S.K a = 0) (v : Option Nat) (b : Nat) : va_up (wPF cyC cyI cyO311cb cyO28f5b S) a (.inr (0, [va_rf v, .int (S.O_History.f_oldest a), .int (S.O_History.f_states a)])) b = wPF cyC cyI cyO311cb cyO28f5b { S with O_History := { S.O_History with f_ring := va_up S.O_History.f_ring a v } } b := by by_cases hb : b = a <;> first | (simp only [wPF, va_up_ne _ _ hb]; done) | (simp only [wPF, va_up, if_neg hb]; done) | simp [wPF, va_re, va_up, va_rf, hb, h]
theorem wPu_O_History_f_ring (cyC : ClassId) (cyI : ClassId) (cyO311cb : ClassId) (cyO28f5b : ClassId) (X : va_W) (S : wPS) {A : Nat → Prop} {a k : Nat} (hD : va_D A (X ++ va_pl S.L (wPF cyC cyI cyO311cb cyO28f5b S))) (hL : a ∈ S.L) (h : S.K a = 0) (hk : (X ++ va_pl S.L (wPF cyC cyI cyO311cb cyO28f5b S))[k]? = some (a, wPF cyC cyI cyO311cb cyO28f5b S a)) (v : Option Nat) : (X ++ va_pl S.L (wPF cyC cyI cyO311cb cyO28f5b S)).set k (a, .inr (0, [va_rf v, .int (S.O_History.f_oldest a), .int (S.O_History.f_states a)])) = X ++ va_pl S.L (wPF cyC cyI cyO311cb cyO28f5b { S with O_History := { S.O_History with f_ring := va_up S.O_History.f_ring a v } }) := by
  rw [va_pl_set hD hL hk]
  exact congrArg (fun l => X ++ l) (va_pl_congr (wSt_O_History_f_ring cyC cyI cyO311cb cyO28f5b S h v))
theorem wSt_O_History_f_oldest (cyC : ClassId) (cyI : ClassId) (cyO311cb : ClassId) (cyO28f5b : ClassId) (S : wPS) {a : Nat} (h : S.K a = 0) (v : Int32) (b : Nat) : va_up (wPF cyC cyI cyO311cb cyO28f5b S) a (.inr (0, [va_rf (S.O_History.f_ring a), .int v, .int (S.O_History.f_states a)])) b = wPF cyC cyI cyO311cb cyO28f5b { S with O_History := { S.O_History with f_oldest := va_up S.O_History.f_oldest a v } } b := by by_cases hb : b = a <;> first | (simp only [wPF, va_up_ne _ _ hb]; done) | (simp only [wPF, va_up, if_neg hb]; done) | simp [wPF, va_re, va_up, va_rf, hb, h]
theorem wPu_O_History_f_oldest (cyC : ClassId) (cyI : ClassId) (cyO311cb : ClassId) (cyO28f5b : ClassId) (X : va_W) (S : wPS) {A : Nat → Prop} {a k : Nat} (hD : va_D A (X ++ va_pl S.L (wPF cyC cyI cyO311cb cyO28f5b S))) (hL : a ∈ S.L) (h : S.K a = 0) (hk : (X ++ va_pl S.L (wPF cyC cyI cyO311cb cyO28f5b S))[k]? = some (a, wPF cyC cyI cyO311cb cyO28f5b S a)) (v : Int32) : (X ++ va_pl S.L (wPF cyC cyI cyO311cb cyO28f5b S)).set k (a, .inr (0, [va_rf (S.O_History.f_ring a), .int v, .int (S.O_History.f_states a)])) = X ++ va_pl S.L (wPF cyC cyI cyO311cb cyO28f5b { S with O_History := { S.O_History with f_oldest := va_up S.O_History.f_oldest a v } }) := by
  rw [va_pl_set hD hL hk]
  exact congrArg (fun l => X ++ l) (va_pl_congr (wSt_O_History_f_oldest cyC cyI cyO311cb cyO28f5b S h v))
theorem wSt_O_History_f_states (cyC : ClassId) (cyI : ClassId) (cyO311cb : ClassId) (cyO28f5b : ClassId) (S : wPS) {a : Nat} (h : S.K a = 0) (v : Int32) (b : Nat) : va_up (wPF cyC cyI cyO311cb cyO28f5b S) a (.inr (0, [va_rf (S.O_History.f_ring a), .int (S.O_History.f_oldest a), .int v])) b = wPF cyC cyI cyO311cb cyO28f5b { S with O_History := { S.O_History with f_states := va_up S.O_History.f_states a v } } b := by by_cases hb : b = a <;> first | (simp only [wPF, va_up_ne _ _ hb]; done) | (simp only [wPF, va_up, if_neg hb]; done) | simp [wPF, va_re, va_up, va_rf, hb, h]
theorem wPu_O_History_f_states (cyC : ClassId) (cyI : ClassId) (cyO311cb : ClassId) (cyO28f5b : ClassId) (X : va_W) (S : wPS) {A : Nat → Prop} {a k : Nat} (hD : va_D A (X ++ va_pl S.L (wPF cyC cyI cyO311cb cyO28f5b S))) (hL : a ∈ S.L) (h : S.K a = 0) (hk : (X ++ va_pl S.L (wPF cyC cyI cyO311cb cyO28f5b S))[k]? = some (a, wPF cyC cyI cyO311cb cyO28f5b S a)) (v : Int32) : (X ++ va_pl S.L (wPF cyC cyI cyO311cb cyO28f5b S)).set k (a, .inr (0, [va_rf (S.O_History.f_ring a), .int (S.O_History.f_oldest a), .int v])) = X ++ va_pl S.L (wPF cyC cyI cyO311cb cyO28f5b { S with O_History := { S.O_History with f_states := va_up S.O_History.f_states a v } }) := by
  rw [va_pl_set hD hL hk]
  exact congrArg (fun l => X ++ l) (va_pl_congr (wSt_O_History_f_states cyC cyI cyO311cb cyO28f5b S h v))
theorem wNw_O_History (cyC : ClassId) (cyI : ClassId) (cyO311cb : ClassId) (cyO28f5b : ClassId) (S : wPS) (a b : Nat) : va_up (wPF cyC cyI cyO311cb cyO28f5b S) a (.inr (0, [.null, .int 0, .int 0])) b = wPF cyC cyI cyO311cb cyO28f5b { S with L := S.L ++ [a], K := va_up S.K a 0, O_History := { f_ring := va_up S.O_History.f_ring a none, f_oldest := va_up S.O_History.f_oldest a 0, f_states := va_up S.O_History.f_states a 0 } } b := by by_cases hb : b = a <;> first | (simp only [wPF, va_up_ne _ _ hb]; done) | (simp only [wPF, va_up, if_neg hb]; done) | simp [wPF, va_re, va_up, va_rf, hb]
theorem wPn_O_History (cyC : ClassId) (cyI : ClassId) (cyO311cb : ClassId) (cyO28f5b : ClassId) (X : va_W) (S : wPS) {a : Nat} (ha : a ∉ S.L) : (X ++ va_pl S.L (wPF cyC cyI cyO311cb cyO28f5b S)) ++ [(a, .inr (0, [.null, .int 0, .int 0]))] = X ++ va_pl (S.L ++ [a]) (wPF cyC cyI cyO311cb cyO28f5b { S with L := S.L ++ [a], K := va_up S.K a 0, O_History := { f_ring := va_up S.O_History.f_ring a none, f_oldest := va_up S.O_History.f_oldest a 0, f_states := va_up S.O_History.f_states a 0 } }) := by
  rw [List.append_assoc, va_pl_push ha]
  exact congrArg (fun l => X ++ l) (va_pl_congr (wNw_O_History cyC cyI cyO311cb cyO28f5b S a))
theorem wAt_O_Program (cyC : ClassId) (cyI : ClassId) (cyO311cb : ClassId) (cyO28f5b : ClassId) (S : wPS) {a : Nat} (h : S.K a = 1) : wPF cyC cyI cyO311cb cyO28f5b S a = .inr (1, [.int (S.O_Program.f_letter a), .int (S.O_Program.f_letterPlace a), .int (S.O_Program.f_hasFrom a), .int (S.O_Program.f_from a), .int (S.O_Program.f_number a), .int (S.O_Program.f_digits a)]) := by simp [wPF, h]
theorem wGt_O_Program (cyC : ClassId) (cyI : ClassId) (cyO311cb : ClassId) (cyO28f5b : ClassId) (X : va_W) (S : wPS) {a : Nat} (hL : a ∈ S.L) (h : S.K a = 1) : ∃ k : Nat, (X ++ va_pl S.L (wPF cyC cyI cyO311cb cyO28f5b S))[k]? = some (a, wPF cyC cyI cyO311cb cyO28f5b S a) ∧ (X ++ va_pl S.L (wPF cyC cyI cyO311cb cyO28f5b S))[k]? = some (a, .inr (1, [.int (S.O_Program.f_letter a), .int (S.O_Program.f_letterPlace a), .int (S.O_Program.f_hasFrom a), .int (S.O_Program.f_from a), .int (S.O_Program.f_number a), .int (S.O_Program.f_digits a)])) := by
  obtain ⟨k, hk⟩ := va_pl_get (X := X) (f := wPF cyC cyI cyO311cb cyO28f5b S) hL
  exact ⟨k, hk, hk.trans (congrArg (fun e => some (a, e)) (wAt_O_Program cyC cyI cyO311cb cyO28f5b S h))⟩
theorem wSt_O_Program_f_letter (cyC : ClassId) (cyI : ClassId) (cyO311cb : ClassId) (cyO28f5b : ClassId) (S : wPS) {a : Nat} (h : S.K a = 1) (v : Int32) (b : Nat) : va_up (wPF cyC cyI cyO311cb cyO28f5b S) a (.inr (1, [.int v, .int (S.O_Program.f_letterPlace a), .int (S.O_Program.f_hasFrom a), .int (S.O_Program.f_from a), .int (S.O_Program.f_number a), .int (S.O_Program.f_digits a)])) b = wPF cyC cyI cyO311cb cyO28f5b { S with O_Program := { S.O_Program with f_letter := va_up S.O_Program.f_letter a v } } b := by by_cases hb : b = a <;> first | (simp only [wPF, va_up_ne _ _ hb]; done) | (simp only [wPF, va_up, if_neg hb]; done) | simp [wPF, va_re, va_up, va_rf, hb, h]
theorem wPu_O_Program_f_letter (cyC : ClassId) (cyI : ClassId) (cyO311cb : ClassId) (cyO28f5b : ClassId) (X : va_W) (S : wPS) {A : Nat → Prop} {a k : Nat} (hD : va_D A (X ++ va_pl S.L (wPF cyC cyI cyO311cb cyO28f5b S))) (hL : a ∈ S.L) (h : S.K a = 1) (hk : (X ++ va_pl S.L (wPF cyC cyI cyO311cb cyO28f5b S))[k]? = some (a, wPF cyC cyI cyO311cb cyO28f5b S a)) (v : Int32) : (X ++ va_pl S.L (wPF cyC cyI cyO311cb cyO28f5b S)).set k (a, .inr (1, [.int v, .int (S.O_Program.f_letterPlace a), .int (S.O_Program.f_hasFrom a), .int (S.O_Program.f_from a), .int (S.O_Program.f_number a), .int (S.O_Program.f_digits a)])) = X ++ va_pl S.L (wPF cyC cyI cyO311cb cyO28f5b { S with O_Program := { S.O_Program with f_letter := va_up S.O_Program.f_letter a v } }) := by
  rw [va_pl_set hD hL hk]
  exact congrArg (fun l => X ++ l) (va_pl_congr (wSt_O_Program_f_letter cyC cyI cyO311cb cyO28f5b S h v))
theorem wSt_O_Program_f_letterPlace (cyC : ClassId) (cyI : ClassId) (cyO311cb : ClassId) (cyO28f5b : ClassId) (S : wPS) {a : Nat} (h : S.K a = 1) (v : Int32) (b : Nat) : va_up (wPF cyC cyI cyO311cb cyO28f5b S) a (.inr (1, [.int (S.O_Program.f_letter a), .int v, .int (S.O_Program.f_hasFrom a), .int (S.O_Program.f_from a), .int (S.O_Program.f_number a), .int (S.O_Program.f_digits a)])) b = wPF cyC cyI cyO311cb cyO28f5b { S with O_Program := { S.O_Program with f_letterPlace := va_up S.O_Program.f_letterPlace a v } } b := by by_cases hb : b = a <;> first | (simp only [wPF, va_up_ne _ _ hb]; done) | (simp only [wPF, va_up, if_neg hb]; done) | simp [wPF, va_re, va_up, va_rf, hb, h]
theorem wPu_O_Program_f_letterPlace (cyC : ClassId) (cyI : ClassId) (cyO311cb : ClassId) (cyO28f5b : ClassId) (X : va_W) (S : wPS) {A : Nat → Prop} {a k : Nat} (hD : va_D A (X ++ va_pl S.L (wPF cyC cyI cyO311cb cyO28f5b S))) (hL : a ∈ S.L) (h : S.K a = 1) (hk : (X ++ va_pl S.L (wPF cyC cyI cyO311cb cyO28f5b S))[k]? = some (a, wPF cyC cyI cyO311cb cyO28f5b S a)) (v : Int32) : (X ++ va_pl S.L (wPF cyC cyI cyO311cb cyO28f5b S)).set k (a, .inr (1, [.int (S.O_Program.f_letter a), .int v, .int (S.O_Program.f_hasFrom a), .int (S.O_Program.f_from a), .int (S.O_Program.f_number a), .int (S.O_Program.f_digits a)])) = X ++ va_pl S.L (wPF cyC cyI cyO311cb cyO28f5b { S with O_Program := { S.O_Program with f_letterPlace := va_up S.O_Program.f_letterPlace a v } }) := by
  rw [va_pl_set hD hL hk]
  exact congrArg (fun l => X ++ l) (va_pl_congr (wSt_O_Program_f_letterPlace cyC cyI cyO311cb cyO28f5b S h v))
theorem wSt_O_Program_f_hasFrom (cyC : ClassId) (cyI : ClassId) (cyO311cb : ClassId) (cyO28f5b : ClassId) (S : wPS) {a : Nat} (h : S.K a = 1) (v : Int32) (b : Nat) : va_up (wPF cyC cyI cyO311cb cyO28f5b S) a (.inr (1, [.int (S.O_Program.f_letter a), .int (S.O_Program.f_letterPlace a), .int v, .int (S.O_Program.f_from a), .int (S.O_Program.f_number a), .int (S.O_Program.f_digits a)])) b = wPF cyC cyI cyO311cb cyO28f5b { S with O_Program := { S.O_Program with f_hasFrom := va_up S.O_Program.f_hasFrom a v } } b := by by_cases hb : b = a <;> first | (simp only [wPF, va_up_ne _ _ hb]; done) | (simp only [wPF, va_up, if_neg hb]; done) | simp [wPF, va_re, va_up, va_rf, hb, h]
theorem wPu_O_Program_f_hasFrom (cyC : ClassId) (cyI : ClassId) (cyO311cb : ClassId) (cyO28f5b : ClassId) (X : va_W) (S : wPS) {A : Nat → Prop} {a k : Nat} (hD : va_D A (X ++ va_pl S.L (wPF cyC cyI cyO311cb cyO28f5b S))) (hL : a ∈ S.L) (h : S.K a = 1) (hk : (X ++ va_pl S.L (wPF cyC cyI cyO311cb cyO28f5b S))[k]? = some (a, wPF cyC cyI cyO311cb cyO28f5b S a)) (v : Int32) : (X ++ va_pl S.L (wPF cyC cyI cyO311cb cyO28f5b S)).set k (a, .inr (1, [.int (S.O_Program.f_letter a), .int (S.O_Program.f_letterPlace a), .int v, .int (S.O_Program.f_from a), .int (S.O_Program.f_number a), .int (S.O_Program.f_digits a)])) = X ++ va_pl S.L (wPF cyC cyI cyO311cb cyO28f5b { S with O_Program := { S.O_Program with f_hasFrom := va_up S.O_Program.f_hasFrom a v } }) := by
  rw [va_pl_set hD hL hk]
  exact congrArg (fun l => X ++ l) (va_pl_congr (wSt_O_Program_f_hasFrom cyC cyI cyO311cb cyO28f5b S h v))
theorem wSt_O_Program_f_from (cyC : ClassId) (cyI : ClassId) (cyO311cb : ClassId) (cyO28f5b : ClassId) (S : wPS) {a : Nat} (h : S.K a = 1) (v : Int32) (b : Nat) : va_up (wPF cyC cyI cyO311cb cyO28f5b S) a (.inr (1, [.int (S.O_Program.f_letter a), .int (S.O_Program.f_letterPlace a), .int (S.O_Program.f_hasFrom a), .int v, .int (S.O_Program.f_number a), .int (S.O_Program.f_digits a)])) b = wPF cyC cyI cyO311cb cyO28f5b { S with O_Program := { S.O_Program with f_from := va_up S.O_Program.f_from a v } } b := by by_cases hb : b = a <;> first | (simp only [wPF, va_up_ne _ _ hb]; done) | (simp only [wPF, va_up, if_neg hb]; done) | simp [wPF, va_re, va_up, va_rf, hb, h]
theorem wPu_O_Program_f_from (cyC : ClassId) (cyI : ClassId) (cyO311cb : ClassId) (cyO28f5b : ClassId) (X : va_W) (S : wPS) {A : Nat → Prop} {a k : Nat} (hD : va_D A (X ++ va_pl S.L (wPF cyC cyI cyO311cb cyO28f5b S))) (hL : a ∈ S.L) (h : S.K a = 1) (hk : (X ++ va_pl S.L (wPF cyC cyI cyO311cb cyO28f5b S))[k]? = some (a, wPF cyC cyI cyO311cb cyO28f5b S a)) (v : Int32) : (X ++ va_pl S.L (wPF cyC cyI cyO311cb cyO28f5b S)).set k (a, .inr (1, [.int (S.O_Program.f_letter a), .int (S.O_Program.f_letterPlace a), .int (S.O_Program.f_hasFrom a), .int v, .int (S.O_Program.f_number a), .int (S.O_Program.f_digits a)])) = X ++ va_pl S.L (wPF cyC cyI cyO311cb cyO28f5b { S with O_Program := { S.O_Program with f_from := va_up S.O_Program.f_from a v } }) := by
  rw [va_pl_set hD hL hk]
  exact congrArg (fun l => X ++ l) (va_pl_congr (wSt_O_Program_f_from cyC cyI cyO311cb cyO28f5b S h v))
theorem wSt_O_Program_f_number (cyC : ClassId) (cyI : ClassId) (cyO311cb : ClassId) (cyO28f5b : ClassId) (S : wPS) {a : Nat} (h : S.K a = 1) (v : Int32) (b : Nat) : va_up (wPF cyC cyI cyO311cb cyO28f5b S) a (.inr (1, [.int (S.O_Program.f_letter a), .int (S.O_Program.f_letterPlace a), .int (S.O_Program.f_hasFrom a), .int (S.O_Program.f_from a), .int v, .int (S.O_Program.f_digits a)])) b = wPF cyC cyI cyO311cb cyO28f5b { S with O_Program := { S.O_Program with f_number := va_up S.O_Program.f_number a v } } b := by by_cases hb : b = a <;> first | (simp only [wPF, va_up_ne _ _ hb]; done) | (simp only [wPF, va_up, if_neg hb]; done) | simp [wPF, va_re, va_up, va_rf, hb, h]
theorem wPu_O_Program_f_number (cyC : ClassId) (cyI : ClassId) (cyO311cb : ClassId) (cyO28f5b : ClassId) (X : va_W) (S : wPS) {A : Nat → Prop} {a k : Nat} (hD : va_D A (X ++ va_pl S.L (wPF cyC cyI cyO311cb cyO28f5b S))) (hL : a ∈ S.L) (h : S.K a = 1) (hk : (X ++ va_pl S.L (wPF cyC cyI cyO311cb cyO28f5b S))[k]? = some (a, wPF cyC cyI cyO311cb cyO28f5b S a)) (v : Int32) : (X ++ va_pl S.L (wPF cyC cyI cyO311cb cyO28f5b S)).set k (a, .inr (1, [.int (S.O_Program.f_letter a), .int (S.O_Program.f_letterPlace a), .int (S.O_Program.f_hasFrom a), .int (S.O_Program.f_from a), .int v, .int (S.O_Program.f_digits a)])) = X ++ va_pl S.L (wPF cyC cyI cyO311cb cyO28f5b { S with O_Program := { S.O_Program with f_number := va_up S.O_Program.f_number a v } }) := by
  rw [va_pl_set hD hL hk]
  exact congrArg (fun l => X ++ l) (va_pl_congr (wSt_O_Program_f_number cyC cyI cyO311cb cyO28f5b S h v))
theorem wSt_O_Program_f_digits (cyC : ClassId) (cyI : ClassId) (cyO311cb : ClassId) (cyO28f5b : ClassId) (S : wPS) {a : Nat} (h : S.K a = 1) (v : Int32) (b : Nat) : va_up (wPF cyC cyI cyO311cb cyO28f5b S) a (.inr (1, [.int (S.O_Program.f_letter a), .int (S.O_Program.f_letterPlace a), .int (S.O_Program.f_hasFrom a), .int (S.O_Program.f_from a), .int (S.O_Program.f_number a), .int v])) b = wPF cyC cyI cyO311cb cyO28f5b { S with O_Program := { S.O_Program with f_digits := va_up S.O_Program.f_digits a v } } b := by by_cases hb : b = a <;> first | (simp only [wPF, va_up_ne _ _ hb]; done) | (simp only [wPF, va_up, if_neg hb]; done) | simp [wPF, va_re, va_up, va_rf, hb, h]
theorem wPu_O_Program_f_digits (cyC : ClassId) (cyI : ClassId) (cyO311cb : ClassId) (cyO28f5b : ClassId) (X : va_W) (S : wPS) {A : Nat → Prop} {a k : Nat} (hD : va_D A (X ++ va_pl S.L (wPF cyC cyI cyO311cb cyO28f5b S))) (hL : a ∈ S.L) (h : S.K a = 1) (hk : (X ++ va_pl S.L (wPF cyC cyI cyO311cb cyO28f5b S))[k]? = some (a, wPF cyC cyI cyO311cb cyO28f5b S a)) (v : Int32) : (X ++ va_pl S.L (wPF cyC cyI cyO311cb cyO28f5b S)).set k (a, .inr (1, [.int (S.O_Program.f_letter a), .int (S.O_Program.f_letterPlace a), .int (S.O_Program.f_hasFrom a), .int (S.O_Program.f_from a), .int (S.O_Program.f_number a), .int v])) = X ++ va_pl S.L (wPF cyC cyI cyO311cb cyO28f5b { S with O_Program := { S.O_Program with f_digits := va_up S.O_Program.f_digits a v } }) := by
  rw [va_pl_set hD hL hk]
  exact congrArg (fun l => X ++ l) (va_pl_congr (wSt_O_Program_f_digits cyC cyI cyO311cb cyO28f5b S h v))
theorem wNw_O_Program (cyC : ClassId) (cyI : ClassId) (cyO311cb : ClassId) (cyO28f5b : ClassId) (S : wPS) (a b : Nat) : va_up (wPF cyC cyI cyO311cb cyO28f5b S) a (.inr (1, [.int 0, .int 0, .int 0, .int 0, .int 0, .int 0])) b = wPF cyC cyI cyO311cb cyO28f5b { S with L := S.L ++ [a], K := va_up S.K a 1, O_Program := { f_letter := va_up S.O_Program.f_letter a 0, f_letterPlace := va_up S.O_Program.f_letterPlace a 0, f_hasFrom := va_up S.O_Program.f_hasFrom a 0, f_from := va_up S.O_Program.f_from a 0, f_number := va_up S.O_Program.f_number a 0, f_digits := va_up S.O_Program.f_digits a 0 } } b := by by_cases hb : b = a <;> first | (simp only [wPF, va_up_ne _ _ hb]; done) | (simp only [wPF, va_up, if_neg hb]; done) | simp [wPF, va_re, va_up, va_rf, hb]
theorem wPn_O_Program (cyC : ClassId) (cyI : ClassId) (cyO311cb : ClassId) (cyO28f5b : ClassId) (X : va_W) (S : wPS) {a : Nat} (ha : a ∉ S.L) : (X ++ va_pl S.L (wPF cyC cyI cyO311cb cyO28f5b S)) ++ [(a, .inr (1, [.int 0, .int 0, .int 0, .int 0, .int 0, .int 0]))] = X ++ va_pl (S.L ++ [a]) (wPF cyC cyI cyO311cb cyO28f5b { S with L := S.L ++ [a], K := va_up S.K a 1, O_Program := { f_letter := va_up S.O_Program.f_letter a 0, f_letterPlace := va_up S.O_Program.f_letterPlace a 0, f_hasFrom := va_up S.O_Program.f_hasFrom a 0, f_from := va_up S.O_Program.f_from a 0, f_number := va_up S.O_Program.f_number a 0, f_digits := va_up S.O_Program.f_digits a 0 } }) := by
  rw [List.append_assoc, va_pl_push ha]
  exact congrArg (fun l => X ++ l) (va_pl_congr (wNw_O_Program cyC cyI cyO311cb cyO28f5b S a))
theorem wAt_O_Slots (cyC : ClassId) (cyI : ClassId) (cyO311cb : ClassId) (cyO28f5b : ClassId) (S : wPS) {a : Nat} (h : S.K a = 2) : wPF cyC cyI cyO311cb cyO28f5b S a = .inr (2, [va_rf (S.O_Slots.f_bits a), va_rf (S.O_Slots.f_blockFirst a), va_rf (S.O_Slots.f_blockSize a), .int (S.O_Slots.f_summary a), .int (S.O_Slots.f_looks a)]) := by simp [wPF, h]
theorem wGt_O_Slots (cyC : ClassId) (cyI : ClassId) (cyO311cb : ClassId) (cyO28f5b : ClassId) (X : va_W) (S : wPS) {a : Nat} (hL : a ∈ S.L) (h : S.K a = 2) : ∃ k : Nat, (X ++ va_pl S.L (wPF cyC cyI cyO311cb cyO28f5b S))[k]? = some (a, wPF cyC cyI cyO311cb cyO28f5b S a) ∧ (X ++ va_pl S.L (wPF cyC cyI cyO311cb cyO28f5b S))[k]? = some (a, .inr (2, [va_rf (S.O_Slots.f_bits a), va_rf (S.O_Slots.f_blockFirst a), va_rf (S.O_Slots.f_blockSize a), .int (S.O_Slots.f_summary a), .int (S.O_Slots.f_looks a)])) := by
  obtain ⟨k, hk⟩ := va_pl_get (X := X) (f := wPF cyC cyI cyO311cb cyO28f5b S) hL
  exact ⟨k, hk, hk.trans (congrArg (fun e => some (a, e)) (wAt_O_Slots cyC cyI cyO311cb cyO28f5b S h))⟩
theorem wSt_O_Slots_f_bits (cyC : ClassId) (cyI : ClassId) (cyO311cb : ClassId) (cyO28f5b : ClassId) (S : wPS) {a : Nat} (h : S.K a = 2) (v : Option Nat) (b : Nat) : va_up (wPF cyC cyI cyO311cb cyO28f5b S) a (.inr (2, [va_rf v, va_rf (S.O_Slots.f_blockFirst a), va_rf (S.O_Slots.f_blockSize a), .int (S.O_Slots.f_summary a), .int (S.O_Slots.f_looks a)])) b = wPF cyC cyI cyO311cb cyO28f5b { S with O_Slots := { S.O_Slots with f_bits := va_up S.O_Slots.f_bits a v } } b := by by_cases hb : b = a <;> first | (simp only [wPF, va_up_ne _ _ hb]; done) | (simp only [wPF, va_up, if_neg hb]; done) | simp [wPF, va_re, va_up, va_rf, hb, h]
theorem wPu_O_Slots_f_bits (cyC : ClassId) (cyI : ClassId) (cyO311cb : ClassId) (cyO28f5b : ClassId) (X : va_W) (S : wPS) {A : Nat → Prop} {a k : Nat} (hD : va_D A (X ++ va_pl S.L (wPF cyC cyI cyO311cb cyO28f5b S))) (hL : a ∈ S.L) (h : S.K a = 2) (hk : (X ++ va_pl S.L (wPF cyC cyI cyO311cb cyO28f5b S))[k]? = some (a, wPF cyC cyI cyO311cb cyO28f5b S a)) (v : Option Nat) : (X ++ va_pl S.L (wPF cyC cyI cyO311cb cyO28f5b S)).set k (a, .inr (2, [va_rf v, va_rf (S.O_Slots.f_blockFirst a), va_rf (S.O_Slots.f_blockSize a), .int (S.O_Slots.f_summary a), .int (S.O_Slots.f_looks a)])) = X ++ va_pl S.L (wPF cyC cyI cyO311cb cyO28f5b { S with O_Slots := { S.O_Slots with f_bits := va_up S.O_Slots.f_bits a v } }) := by
  rw [va_pl_set hD hL hk]
  exact congrArg (fun l => X ++ l) (va_pl_congr (wSt_O_Slots_f_bits cyC cyI cyO311cb cyO28f5b S h v))
theorem wSt_O_Slots_f_blockFirst (cyC : ClassId) (cyI : ClassId) (cyO311cb : ClassId) (cyO28f5b : ClassId) (S : wPS) {a : Nat} (h : S.K a = 2) (v : Option Nat) (b : Nat) : va_up (wPF cyC cyI cyO311cb cyO28f5b S) a (.inr (2, [va_rf (S.O_Slots.f_bits a), va_rf v, va_rf (S.O_Slots.f_blockSize a), .int (S.O_Slots.f_summary a), .int (S.O_Slots.f_looks a)])) b = wPF cyC cyI cyO311cb cyO28f5b { S with O_Slots := { S.O_Slots with f_blockFirst := va_up S.O_Slots.f_blockFirst a v } } b := by by_cases hb : b = a <;> first | (simp only [wPF, va_up_ne _ _ hb]; done) | (simp only [wPF, va_up, if_neg hb]; done) | simp [wPF, va_re, va_up, va_rf, hb, h]
theorem wPu_O_Slots_f_blockFirst (cyC : ClassId) (cyI : ClassId) (cyO311cb : ClassId) (cyO28f5b : ClassId) (X : va_W) (S : wPS) {A : Nat → Prop} {a k : Nat} (hD : va_D A (X ++ va_pl S.L (wPF cyC cyI cyO311cb cyO28f5b S))) (hL : a ∈ S.L) (h : S.K a = 2) (hk : (X ++ va_pl S.L (wPF cyC cyI cyO311cb cyO28f5b S))[k]? = some (a, wPF cyC cyI cyO311cb cyO28f5b S a)) (v : Option Nat) : (X ++ va_pl S.L (wPF cyC cyI cyO311cb cyO28f5b S)).set k (a, .inr (2, [va_rf (S.O_Slots.f_bits a), va_rf v, va_rf (S.O_Slots.f_blockSize a), .int (S.O_Slots.f_summary a), .int (S.O_Slots.f_looks a)])) = X ++ va_pl S.L (wPF cyC cyI cyO311cb cyO28f5b { S with O_Slots := { S.O_Slots with f_blockFirst := va_up S.O_Slots.f_blockFirst a v } }) := by
  rw [va_pl_set hD hL hk]
  exact congrArg (fun l => X ++ l) (va_pl_congr (wSt_O_Slots_f_blockFirst cyC cyI cyO311cb cyO28f5b S h v))
theorem wSt_O_Slots_f_blockSize (cyC : ClassId) (cyI : ClassId) (cyO311cb : ClassId) (cyO28f5b : ClassId) (S : wPS) {a : Nat} (h : S.K a = 2) (v : Option Nat) (b : Nat) : va_up (wPF cyC cyI cyO311cb cyO28f5b S) a (.inr (2, [va_rf (S.O_Slots.f_bits a), va_rf (S.O_Slots.f_blockFirst a), va_rf v, .int (S.O_Slots.f_summary a), .int (S.O_Slots.f_looks a)])) b = wPF cyC cyI cyO311cb cyO28f5b { S with O_Slots := { S.O_Slots with f_blockSize := va_up S.O_Slots.f_blockSize a v } } b := by by_cases hb : b = a <;> first | (simp only [wPF, va_up_ne _ _ hb]; done) | (simp only [wPF, va_up, if_neg hb]; done) | simp [wPF, va_re, va_up, va_rf, hb, h]
theorem wPu_O_Slots_f_blockSize (cyC : ClassId) (cyI : ClassId) (cyO311cb : ClassId) (cyO28f5b : ClassId) (X : va_W) (S : wPS) {A : Nat → Prop} {a k : Nat} (hD : va_D A (X ++ va_pl S.L (wPF cyC cyI cyO311cb cyO28f5b S))) (hL : a ∈ S.L) (h : S.K a = 2) (hk : (X ++ va_pl S.L (wPF cyC cyI cyO311cb cyO28f5b S))[k]? = some (a, wPF cyC cyI cyO311cb cyO28f5b S a)) (v : Option Nat) : (X ++ va_pl S.L (wPF cyC cyI cyO311cb cyO28f5b S)).set k (a, .inr (2, [va_rf (S.O_Slots.f_bits a), va_rf (S.O_Slots.f_blockFirst a), va_rf v, .int (S.O_Slots.f_summary a), .int (S.O_Slots.f_looks a)])) = X ++ va_pl S.L (wPF cyC cyI cyO311cb cyO28f5b { S with O_Slots := { S.O_Slots with f_blockSize := va_up S.O_Slots.f_blockSize a v } }) := by
  rw [va_pl_set hD hL hk]
  exact congrArg (fun l => X ++ l) (va_pl_congr (wSt_O_Slots_f_blockSize cyC cyI cyO311cb cyO28f5b S h v))
theorem wSt_O_Slots_f_summary (cyC : ClassId) (cyI : ClassId) (cyO311cb : ClassId) (cyO28f5b : ClassId) (S : wPS) {a : Nat} (h : S.K a = 2) (v : Int32) (b : Nat) : va_up (wPF cyC cyI cyO311cb cyO28f5b S) a (.inr (2, [va_rf (S.O_Slots.f_bits a), va_rf (S.O_Slots.f_blockFirst a), va_rf (S.O_Slots.f_blockSize a), .int v, .int (S.O_Slots.f_looks a)])) b = wPF cyC cyI cyO311cb cyO28f5b { S with O_Slots := { S.O_Slots with f_summary := va_up S.O_Slots.f_summary a v } } b := by by_cases hb : b = a <;> first | (simp only [wPF, va_up_ne _ _ hb]; done) | (simp only [wPF, va_up, if_neg hb]; done) | simp [wPF, va_re, va_up, va_rf, hb, h]
theorem wPu_O_Slots_f_summary (cyC : ClassId) (cyI : ClassId) (cyO311cb : ClassId) (cyO28f5b : ClassId) (X : va_W) (S : wPS) {A : Nat → Prop} {a k : Nat} (hD : va_D A (X ++ va_pl S.L (wPF cyC cyI cyO311cb cyO28f5b S))) (hL : a ∈ S.L) (h : S.K a = 2) (hk : (X ++ va_pl S.L (wPF cyC cyI cyO311cb cyO28f5b S))[k]? = some (a, wPF cyC cyI cyO311cb cyO28f5b S a)) (v : Int32) : (X ++ va_pl S.L (wPF cyC cyI cyO311cb cyO28f5b S)).set k (a, .inr (2, [va_rf (S.O_Slots.f_bits a), va_rf (S.O_Slots.f_blockFirst a), va_rf (S.O_Slots.f_blockSize a), .int v, .int (S.O_Slots.f_looks a)])) = X ++ va_pl S.L (wPF cyC cyI cyO311cb cyO28f5b { S with O_Slots := { S.O_Slots with f_summary := va_up S.O_Slots.f_summary a v } }) := by
  rw [va_pl_set hD hL hk]
  exact congrArg (fun l => X ++ l) (va_pl_congr (wSt_O_Slots_f_summary cyC cyI cyO311cb cyO28f5b S h v))
theorem wSt_O_Slots_f_looks (cyC : ClassId) (cyI : ClassId) (cyO311cb : ClassId) (cyO28f5b : ClassId) (S : wPS) {a : Nat} (h : S.K a = 2) (v : Int32) (b : Nat) : va_up (wPF cyC cyI cyO311cb cyO28f5b S) a (.inr (2, [va_rf (S.O_Slots.f_bits a), va_rf (S.O_Slots.f_blockFirst a), va_rf (S.O_Slots.f_blockSize a), .int (S.O_Slots.f_summary a), .int v])) b = wPF cyC cyI cyO311cb cyO28f5b { S with O_Slots := { S.O_Slots with f_looks := va_up S.O_Slots.f_looks a v } } b := by by_cases hb : b = a <;> first | (simp only [wPF, va_up_ne _ _ hb]; done) | (simp only [wPF, va_up, if_neg hb]; done) | simp [wPF, va_re, va_up, va_rf, hb, h]
theorem wPu_O_Slots_f_looks (cyC : ClassId) (cyI : ClassId) (cyO311cb : ClassId) (cyO28f5b : ClassId) (X : va_W) (S : wPS) {A : Nat → Prop} {a k : Nat} (hD : va_D A (X ++ va_pl S.L (wPF cyC cyI cyO311cb cyO28f5b S))) (hL : a ∈ S.L) (h : S.K a = 2) (hk : (X ++ va_pl S.L (wPF cyC cyI cyO311cb cyO28f5b S))[k]? = some (a, wPF cyC cyI cyO311cb cyO28f5b S a)) (v : Int32) : (X ++ va_pl S.L (wPF cyC cyI cyO311cb cyO28f5b S)).set k (a, .inr (2, [va_rf (S.O_Slots.f_bits a), va_rf (S.O_Slots.f_blockFirst a), va_rf (S.O_Slots.f_blockSize a), .int (S.O_Slots.f_summary a), .int v])) = X ++ va_pl S.L (wPF cyC cyI cyO311cb cyO28f5b { S with O_Slots := { S.O_Slots with f_looks := va_up S.O_Slots.f_looks a v } }) := by
  rw [va_pl_set hD hL hk]
  exact congrArg (fun l => X ++ l) (va_pl_congr (wSt_O_Slots_f_looks cyC cyI cyO311cb cyO28f5b S h v))
theorem wNw_O_Slots (cyC : ClassId) (cyI : ClassId) (cyO311cb : ClassId) (cyO28f5b : ClassId) (S : wPS) (a b : Nat) : va_up (wPF cyC cyI cyO311cb cyO28f5b S) a (.inr (2, [.null, .null, .null, .int 0, .int 0])) b = wPF cyC cyI cyO311cb cyO28f5b { S with L := S.L ++ [a], K := va_up S.K a 2, O_Slots := { f_bits := va_up S.O_Slots.f_bits a none, f_blockFirst := va_up S.O_Slots.f_blockFirst a none, f_blockSize := va_up S.O_Slots.f_blockSize a none, f_summary := va_up S.O_Slots.f_summary a 0, f_looks := va_up S.O_Slots.f_looks a 0 } } b := by by_cases hb : b = a <;> first | (simp only [wPF, va_up_ne _ _ hb]; done) | (simp only [wPF, va_up, if_neg hb]; done) | simp [wPF, va_re, va_up, va_rf, hb]
theorem wPn_O_Slots (cyC : ClassId) (cyI : ClassId) (cyO311cb : ClassId) (cyO28f5b : ClassId) (X : va_W) (S : wPS) {a : Nat} (ha : a ∉ S.L) : (X ++ va_pl S.L (wPF cyC cyI cyO311cb cyO28f5b S)) ++ [(a, .inr (2, [.null, .null, .null, .int 0, .int 0]))] = X ++ va_pl (S.L ++ [a]) (wPF cyC cyI cyO311cb cyO28f5b { S with L := S.L ++ [a], K := va_up S.K a 2, O_Slots := { f_bits := va_up S.O_Slots.f_bits a none, f_blockFirst := va_up S.O_Slots.f_blockFirst a none, f_blockSize := va_up S.O_Slots.f_blockSize a none, f_summary := va_up S.O_Slots.f_summary a 0, f_looks := va_up S.O_Slots.f_looks a 0 } }) := by
  rw [List.append_assoc, va_pl_push ha]
  exact congrArg (fun l => X ++ l) (va_pl_congr (wNw_O_Slots cyC cyI cyO311cb cyO28f5b S a))
theorem wAt_O_SlotMaps (cyC : ClassId) (cyI : ClassId) (cyO311cb : ClassId) (cyO28f5b : ClassId) (S : wPS) {a : Nat} (h : S.K a = 3) : wPF cyC cyI cyO311cb cyO28f5b S a = .inr (3, [va_rf (S.O_SlotMaps.f_now a), va_rf (S.O_SlotMaps.f_trial a), va_rf (S.O_SlotMaps.f_history a), va_rf (S.O_SlotMaps.f_program a), va_rf (S.O_SlotMaps.f_text a), .int (S.O_SlotMaps.f_textLength a)]) := by simp [wPF, h]
theorem wGt_O_SlotMaps (cyC : ClassId) (cyI : ClassId) (cyO311cb : ClassId) (cyO28f5b : ClassId) (X : va_W) (S : wPS) {a : Nat} (hL : a ∈ S.L) (h : S.K a = 3) : ∃ k : Nat, (X ++ va_pl S.L (wPF cyC cyI cyO311cb cyO28f5b S))[k]? = some (a, wPF cyC cyI cyO311cb cyO28f5b S a) ∧ (X ++ va_pl S.L (wPF cyC cyI cyO311cb cyO28f5b S))[k]? = some (a, .inr (3, [va_rf (S.O_SlotMaps.f_now a), va_rf (S.O_SlotMaps.f_trial a), va_rf (S.O_SlotMaps.f_history a), va_rf (S.O_SlotMaps.f_program a), va_rf (S.O_SlotMaps.f_text a), .int (S.O_SlotMaps.f_textLength a)])) := by
  obtain ⟨k, hk⟩ := va_pl_get (X := X) (f := wPF cyC cyI cyO311cb cyO28f5b S) hL
  exact ⟨k, hk, hk.trans (congrArg (fun e => some (a, e)) (wAt_O_SlotMaps cyC cyI cyO311cb cyO28f5b S h))⟩
theorem wSt_O_SlotMaps_f_now (cyC : ClassId) (cyI : ClassId) (cyO311cb : ClassId) (cyO28f5b : ClassId) (S : wPS) {a : Nat} (h : S.K a = 3) (v : Option Nat) (b : Nat) : va_up (wPF cyC cyI cyO311cb cyO28f5b S) a (.inr (3, [va_rf v, va_rf (S.O_SlotMaps.f_trial a), va_rf (S.O_SlotMaps.f_history a), va_rf (S.O_SlotMaps.f_program a), va_rf (S.O_SlotMaps.f_text a), .int (S.O_SlotMaps.f_textLength a)])) b = wPF cyC cyI cyO311cb cyO28f5b { S with O_SlotMaps := { S.O_SlotMaps with f_now := va_up S.O_SlotMaps.f_now a v } } b := by by_cases hb : b = a <;> first | (simp only [wPF, va_up_ne _ _ hb]; done) | (simp only [wPF, va_up, if_neg hb]; done) | simp [wPF, va_re, va_up, va_rf, hb, h]
theorem wPu_O_SlotMaps_f_now (cyC : ClassId) (cyI : ClassId) (cyO311cb : ClassId) (cyO28f5b : ClassId) (X : va_W) (S : wPS) {A : Nat → Prop} {a k : Nat} (hD : va_D A (X ++ va_pl S.L (wPF cyC cyI cyO311cb cyO28f5b S))) (hL : a ∈ S.L) (h : S.K a = 3) (hk : (X ++ va_pl S.L (wPF cyC cyI cyO311cb cyO28f5b S))[k]? = some (a, wPF cyC cyI cyO311cb cyO28f5b S a)) (v : Option Nat) : (X ++ va_pl S.L (wPF cyC cyI cyO311cb cyO28f5b S)).set k (a, .inr (3, [va_rf v, va_rf (S.O_SlotMaps.f_trial a), va_rf (S.O_SlotMaps.f_history a), va_rf (S.O_SlotMaps.f_program a), va_rf (S.O_SlotMaps.f_text a), .int (S.O_SlotMaps.f_textLength a)])) = X ++ va_pl S.L (wPF cyC cyI cyO311cb cyO28f5b { S with O_SlotMaps := { S.O_SlotMaps with f_now := va_up S.O_SlotMaps.f_now a v } }) := by
  rw [va_pl_set hD hL hk]
  exact congrArg (fun l => X ++ l) (va_pl_congr (wSt_O_SlotMaps_f_now cyC cyI cyO311cb cyO28f5b S h v))
theorem wSt_O_SlotMaps_f_trial (cyC : ClassId) (cyI : ClassId) (cyO311cb : ClassId) (cyO28f5b : ClassId) (S : wPS) {a : Nat} (h : S.K a = 3) (v : Option Nat) (b : Nat) : va_up (wPF cyC cyI cyO311cb cyO28f5b S) a (.inr (3, [va_rf (S.O_SlotMaps.f_now a), va_rf v, va_rf (S.O_SlotMaps.f_history a), va_rf (S.O_SlotMaps.f_program a), va_rf (S.O_SlotMaps.f_text a), .int (S.O_SlotMaps.f_textLength a)])) b = wPF cyC cyI cyO311cb cyO28f5b { S with O_SlotMaps := { S.O_SlotMaps with f_trial := va_up S.O_SlotMaps.f_trial a v } } b := by by_cases hb : b = a <;> first | (simp only [wPF, va_up_ne _ _ hb]; done) | (simp only [wPF, va_up, if_neg hb]; done) | simp [wPF, va_re, va_up, va_rf, hb, h]
theorem wPu_O_SlotMaps_f_trial (cyC : ClassId) (cyI : ClassId) (cyO311cb : ClassId) (cyO28f5b : ClassId) (X : va_W) (S : wPS) {A : Nat → Prop} {a k : Nat} (hD : va_D A (X ++ va_pl S.L (wPF cyC cyI cyO311cb cyO28f5b S))) (hL : a ∈ S.L) (h : S.K a = 3) (hk : (X ++ va_pl S.L (wPF cyC cyI cyO311cb cyO28f5b S))[k]? = some (a, wPF cyC cyI cyO311cb cyO28f5b S a)) (v : Option Nat) : (X ++ va_pl S.L (wPF cyC cyI cyO311cb cyO28f5b S)).set k (a, .inr (3, [va_rf (S.O_SlotMaps.f_now a), va_rf v, va_rf (S.O_SlotMaps.f_history a), va_rf (S.O_SlotMaps.f_program a), va_rf (S.O_SlotMaps.f_text a), .int (S.O_SlotMaps.f_textLength a)])) = X ++ va_pl S.L (wPF cyC cyI cyO311cb cyO28f5b { S with O_SlotMaps := { S.O_SlotMaps with f_trial := va_up S.O_SlotMaps.f_trial a v } }) := by
  rw [va_pl_set hD hL hk]
  exact congrArg (fun l => X ++ l) (va_pl_congr (wSt_O_SlotMaps_f_trial cyC cyI cyO311cb cyO28f5b S h v))
theorem wSt_O_SlotMaps_f_history (cyC : ClassId) (cyI : ClassId) (cyO311cb : ClassId) (cyO28f5b : ClassId) (S : wPS) {a : Nat} (h : S.K a = 3) (v : Option Nat) (b : Nat) : va_up (wPF cyC cyI cyO311cb cyO28f5b S) a (.inr (3, [va_rf (S.O_SlotMaps.f_now a), va_rf (S.O_SlotMaps.f_trial a), va_rf v, va_rf (S.O_SlotMaps.f_program a), va_rf (S.O_SlotMaps.f_text a), .int (S.O_SlotMaps.f_textLength a)])) b = wPF cyC cyI cyO311cb cyO28f5b { S with O_SlotMaps := { S.O_SlotMaps with f_history := va_up S.O_SlotMaps.f_history a v } } b := by by_cases hb : b = a <;> first | (simp only [wPF, va_up_ne _ _ hb]; done) | (simp only [wPF, va_up, if_neg hb]; done) | simp [wPF, va_re, va_up, va_rf, hb, h]
theorem wPu_O_SlotMaps_f_history (cyC : ClassId) (cyI : ClassId) (cyO311cb : ClassId) (cyO28f5b : ClassId) (X : va_W) (S : wPS) {A : Nat → Prop} {a k : Nat} (hD : va_D A (X ++ va_pl S.L (wPF cyC cyI cyO311cb cyO28f5b S))) (hL : a ∈ S.L) (h : S.K a = 3) (hk : (X ++ va_pl S.L (wPF cyC cyI cyO311cb cyO28f5b S))[k]? = some (a, wPF cyC cyI cyO311cb cyO28f5b S a)) (v : Option Nat) : (X ++ va_pl S.L (wPF cyC cyI cyO311cb cyO28f5b S)).set k (a, .inr (3, [va_rf (S.O_SlotMaps.f_now a), va_rf (S.O_SlotMaps.f_trial a), va_rf v, va_rf (S.O_SlotMaps.f_program a), va_rf (S.O_SlotMaps.f_text a), .int (S.O_SlotMaps.f_textLength a)])) = X ++ va_pl S.L (wPF cyC cyI cyO311cb cyO28f5b { S with O_SlotMaps := { S.O_SlotMaps with f_history := va_up S.O_SlotMaps.f_history a v } }) := by
  rw [va_pl_set hD hL hk]
  exact congrArg (fun l => X ++ l) (va_pl_congr (wSt_O_SlotMaps_f_history cyC cyI cyO311cb cyO28f5b S h v))
theorem wSt_O_SlotMaps_f_program (cyC : ClassId) (cyI : ClassId) (cyO311cb : ClassId) (cyO28f5b : ClassId) (S : wPS) {a : Nat} (h : S.K a = 3) (v : Option Nat) (b : Nat) : va_up (wPF cyC cyI cyO311cb cyO28f5b S) a (.inr (3, [va_rf (S.O_SlotMaps.f_now a), va_rf (S.O_SlotMaps.f_trial a), va_rf (S.O_SlotMaps.f_history a), va_rf v, va_rf (S.O_SlotMaps.f_text a), .int (S.O_SlotMaps.f_textLength a)])) b = wPF cyC cyI cyO311cb cyO28f5b { S with O_SlotMaps := { S.O_SlotMaps with f_program := va_up S.O_SlotMaps.f_program a v } } b := by by_cases hb : b = a <;> first | (simp only [wPF, va_up_ne _ _ hb]; done) | (simp only [wPF, va_up, if_neg hb]; done) | simp [wPF, va_re, va_up, va_rf, hb, h]
theorem wPu_O_SlotMaps_f_program (cyC : ClassId) (cyI : ClassId) (cyO311cb : ClassId) (cyO28f5b : ClassId) (X : va_W) (S : wPS) {A : Nat → Prop} {a k : Nat} (hD : va_D A (X ++ va_pl S.L (wPF cyC cyI cyO311cb cyO28f5b S))) (hL : a ∈ S.L) (h : S.K a = 3) (hk : (X ++ va_pl S.L (wPF cyC cyI cyO311cb cyO28f5b S))[k]? = some (a, wPF cyC cyI cyO311cb cyO28f5b S a)) (v : Option Nat) : (X ++ va_pl S.L (wPF cyC cyI cyO311cb cyO28f5b S)).set k (a, .inr (3, [va_rf (S.O_SlotMaps.f_now a), va_rf (S.O_SlotMaps.f_trial a), va_rf (S.O_SlotMaps.f_history a), va_rf v, va_rf (S.O_SlotMaps.f_text a), .int (S.O_SlotMaps.f_textLength a)])) = X ++ va_pl S.L (wPF cyC cyI cyO311cb cyO28f5b { S with O_SlotMaps := { S.O_SlotMaps with f_program := va_up S.O_SlotMaps.f_program a v } }) := by
  rw [va_pl_set hD hL hk]
  exact congrArg (fun l => X ++ l) (va_pl_congr (wSt_O_SlotMaps_f_program cyC cyI cyO311cb cyO28f5b S h v))
theorem wSt_O_SlotMaps_f_text (cyC : ClassId) (cyI : ClassId) (cyO311cb : ClassId) (cyO28f5b : ClassId) (S : wPS) {a : Nat} (h : S.K a = 3) (v : Option Nat) (b : Nat) : va_up (wPF cyC cyI cyO311cb cyO28f5b S) a (.inr (3, [va_rf (S.O_SlotMaps.f_now a), va_rf (S.O_SlotMaps.f_trial a), va_rf (S.O_SlotMaps.f_history a), va_rf (S.O_SlotMaps.f_program a), va_rf v, .int (S.O_SlotMaps.f_textLength a)])) b = wPF cyC cyI cyO311cb cyO28f5b { S with O_SlotMaps := { S.O_SlotMaps with f_text := va_up S.O_SlotMaps.f_text a v } } b := by by_cases hb : b = a <;> first | (simp only [wPF, va_up_ne _ _ hb]; done) | (simp only [wPF, va_up, if_neg hb]; done) | simp [wPF, va_re, va_up, va_rf, hb, h]
theorem wPu_O_SlotMaps_f_text (cyC : ClassId) (cyI : ClassId) (cyO311cb : ClassId) (cyO28f5b : ClassId) (X : va_W) (S : wPS) {A : Nat → Prop} {a k : Nat} (hD : va_D A (X ++ va_pl S.L (wPF cyC cyI cyO311cb cyO28f5b S))) (hL : a ∈ S.L) (h : S.K a = 3) (hk : (X ++ va_pl S.L (wPF cyC cyI cyO311cb cyO28f5b S))[k]? = some (a, wPF cyC cyI cyO311cb cyO28f5b S a)) (v : Option Nat) : (X ++ va_pl S.L (wPF cyC cyI cyO311cb cyO28f5b S)).set k (a, .inr (3, [va_rf (S.O_SlotMaps.f_now a), va_rf (S.O_SlotMaps.f_trial a), va_rf (S.O_SlotMaps.f_history a), va_rf (S.O_SlotMaps.f_program a), va_rf v, .int (S.O_SlotMaps.f_textLength a)])) = X ++ va_pl S.L (wPF cyC cyI cyO311cb cyO28f5b { S with O_SlotMaps := { S.O_SlotMaps with f_text := va_up S.O_SlotMaps.f_text a v } }) := by
  rw [va_pl_set hD hL hk]
  exact congrArg (fun l => X ++ l) (va_pl_congr (wSt_O_SlotMaps_f_text cyC cyI cyO311cb cyO28f5b S h v))
theorem wSt_O_SlotMaps_f_textLength (cyC : ClassId) (cyI : ClassId) (cyO311cb : ClassId) (cyO28f5b : ClassId) (S : wPS) {a : Nat} (h : S.K a = 3) (v : Int32) (b : Nat) : va_up (wPF cyC cyI cyO311cb cyO28f5b S) a (.inr (3, [va_rf (S.O_SlotMaps.f_now a), va_rf (S.O_SlotMaps.f_trial a), va_rf (S.O_SlotMaps.f_history a), va_rf (S.O_SlotMaps.f_program a), va_rf (S.O_SlotMaps.f_text a), .int v])) b = wPF cyC cyI cyO311cb cyO28f5b { S with O_SlotMaps := { S.O_SlotMaps with f_textLength := va_up S.O_SlotMaps.f_textLength a v } } b := by by_cases hb : b = a <;> first | (simp only [wPF, va_up_ne _ _ hb]; done) | (simp only [wPF, va_up, if_neg hb]; done) | simp [wPF, va_re, va_up, va_rf, hb, h]
theorem wPu_O_SlotMaps_f_textLength (cyC : ClassId) (cyI : ClassId) (cyO311cb : ClassId) (cyO28f5b : ClassId) (X : va_W) (S : wPS) {A : Nat → Prop} {a k : Nat} (hD : va_D A (X ++ va_pl S.L (wPF cyC cyI cyO311cb cyO28f5b S))) (hL : a ∈ S.L) (h : S.K a = 3) (hk : (X ++ va_pl S.L (wPF cyC cyI cyO311cb cyO28f5b S))[k]? = some (a, wPF cyC cyI cyO311cb cyO28f5b S a)) (v : Int32) : (X ++ va_pl S.L (wPF cyC cyI cyO311cb cyO28f5b S)).set k (a, .inr (3, [va_rf (S.O_SlotMaps.f_now a), va_rf (S.O_SlotMaps.f_trial a), va_rf (S.O_SlotMaps.f_history a), va_rf (S.O_SlotMaps.f_program a), va_rf (S.O_SlotMaps.f_text a), .int v])) = X ++ va_pl S.L (wPF cyC cyI cyO311cb cyO28f5b { S with O_SlotMaps := { S.O_SlotMaps with f_textLength := va_up S.O_SlotMaps.f_textLength a v } }) := by
  rw [va_pl_set hD hL hk]
  exact congrArg (fun l => X ++ l) (va_pl_congr (wSt_O_SlotMaps_f_textLength cyC cyI cyO311cb cyO28f5b S h v))
theorem wNw_O_SlotMaps (cyC : ClassId) (cyI : ClassId) (cyO311cb : ClassId) (cyO28f5b : ClassId) (S : wPS) (a b : Nat) : va_up (wPF cyC cyI cyO311cb cyO28f5b S) a (.inr (3, [.null, .null, .null, .null, .null, .int 0])) b = wPF cyC cyI cyO311cb cyO28f5b { S with L := S.L ++ [a], K := va_up S.K a 3, O_SlotMaps := { f_now := va_up S.O_SlotMaps.f_now a none, f_trial := va_up S.O_SlotMaps.f_trial a none, f_history := va_up S.O_SlotMaps.f_history a none, f_program := va_up S.O_SlotMaps.f_program a none, f_text := va_up S.O_SlotMaps.f_text a none, f_textLength := va_up S.O_SlotMaps.f_textLength a 0 } } b := by by_cases hb : b = a <;> first | (simp only [wPF, va_up_ne _ _ hb]; done) | (simp only [wPF, va_up, if_neg hb]; done) | simp [wPF, va_re, va_up, va_rf, hb]
theorem wPn_O_SlotMaps (cyC : ClassId) (cyI : ClassId) (cyO311cb : ClassId) (cyO28f5b : ClassId) (X : va_W) (S : wPS) {a : Nat} (ha : a ∉ S.L) : (X ++ va_pl S.L (wPF cyC cyI cyO311cb cyO28f5b S)) ++ [(a, .inr (3, [.null, .null, .null, .null, .null, .int 0]))] = X ++ va_pl (S.L ++ [a]) (wPF cyC cyI cyO311cb cyO28f5b { S with L := S.L ++ [a], K := va_up S.K a 3, O_SlotMaps := { f_now := va_up S.O_SlotMaps.f_now a none, f_trial := va_up S.O_SlotMaps.f_trial a none, f_history := va_up S.O_SlotMaps.f_history a none, f_program := va_up S.O_SlotMaps.f_program a none, f_text := va_up S.O_SlotMaps.f_text a none, f_textLength := va_up S.O_SlotMaps.f_textLength a 0 } }) := by
  rw [List.append_assoc, va_pl_push ha]
  exact congrArg (fun l => X ++ l) (va_pl_congr (wNw_O_SlotMaps cyC cyI cyO311cb cyO28f5b S a))
theorem wAt_O_SlotMapsModel (cyC : ClassId) (cyI : ClassId) (cyO311cb : ClassId) (cyO28f5b : ClassId) (S : wPS) {a : Nat} (h : S.K a = 4) : wPF cyC cyI cyO311cb cyO28f5b S a = .inr (4, [va_rf (S.O_SlotMapsModel.f_now a), va_rf (S.O_SlotMapsModel.f_past a), .int (S.O_SlotMapsModel.f_pasts a), va_rf (S.O_SlotMapsModel.f_before a), va_rf (S.O_SlotMapsModel.f_trial a), va_rf (S.O_SlotMapsModel.f_text a), .int (S.O_SlotMapsModel.f_typed a), .int (S.O_SlotMapsModel.f_at a)]) := by simp [wPF, h]
theorem wGt_O_SlotMapsModel (cyC : ClassId) (cyI : ClassId) (cyO311cb : ClassId) (cyO28f5b : ClassId) (X : va_W) (S : wPS) {a : Nat} (hL : a ∈ S.L) (h : S.K a = 4) : ∃ k : Nat, (X ++ va_pl S.L (wPF cyC cyI cyO311cb cyO28f5b S))[k]? = some (a, wPF cyC cyI cyO311cb cyO28f5b S a) ∧ (X ++ va_pl S.L (wPF cyC cyI cyO311cb cyO28f5b S))[k]? = some (a, .inr (4, [va_rf (S.O_SlotMapsModel.f_now a), va_rf (S.O_SlotMapsModel.f_past a), .int (S.O_SlotMapsModel.f_pasts a), va_rf (S.O_SlotMapsModel.f_before a), va_rf (S.O_SlotMapsModel.f_trial a), va_rf (S.O_SlotMapsModel.f_text a), .int (S.O_SlotMapsModel.f_typed a), .int (S.O_SlotMapsModel.f_at a)])) := by
  obtain ⟨k, hk⟩ := va_pl_get (X := X) (f := wPF cyC cyI cyO311cb cyO28f5b S) hL
  exact ⟨k, hk, hk.trans (congrArg (fun e => some (a, e)) (wAt_O_SlotMapsModel cyC cyI cyO311cb cyO28f5b S h))⟩
theorem wSt_O_SlotMapsModel_f_now (cyC : ClassId) (cyI : ClassId) (cyO311cb : ClassId) (cyO28f5b : ClassId) (S : wPS) {a : Nat} (h : S.K a = 4) (v : Option Nat) (b : Nat) : va_up (wPF cyC cyI cyO311cb cyO28f5b S) a (.inr (4, [va_rf v, va_rf (S.O_SlotMapsModel.f_past a), .int (S.O_SlotMapsModel.f_pasts a), va_rf (S.O_SlotMapsModel.f_before a), va_rf (S.O_SlotMapsModel.f_trial a), va_rf (S.O_SlotMapsModel.f_text a), .int (S.O_SlotMapsModel.f_typed a), .int (S.O_SlotMapsModel.f_at a)])) b = wPF cyC cyI cyO311cb cyO28f5b { S with O_SlotMapsModel := { S.O_SlotMapsModel with f_now := va_up S.O_SlotMapsModel.f_now a v } } b := by by_cases hb : b = a <;> first | (simp only [wPF, va_up_ne _ _ hb]; done) | (simp only [wPF, va_up, if_neg hb]; done) | simp [wPF, va_re, va_up, va_rf, hb, h]
theorem wPu_O_SlotMapsModel_f_now (cyC : ClassId) (cyI : ClassId) (cyO311cb : ClassId) (cyO28f5b : ClassId) (X : va_W) (S : wPS) {A : Nat → Prop} {a k : Nat} (hD : va_D A (X ++ va_pl S.L (wPF cyC cyI cyO311cb cyO28f5b S))) (hL : a ∈ S.L) (h : S.K a = 4) (hk : (X ++ va_pl S.L (wPF cyC cyI cyO311cb cyO28f5b S))[k]? = some (a, wPF cyC cyI cyO311cb cyO28f5b S a)) (v : Option Nat) : (X ++ va_pl S.L (wPF cyC cyI cyO311cb cyO28f5b S)).set k (a, .inr (4, [va_rf v, va_rf (S.O_SlotMapsModel.f_past a), .int (S.O_SlotMapsModel.f_pasts a), va_rf (S.O_SlotMapsModel.f_before a), va_rf (S.O_SlotMapsModel.f_trial a), va_rf (S.O_SlotMapsModel.f_text a), .int (S.O_SlotMapsModel.f_typed a), .int (S.O_SlotMapsModel.f_at a)])) = X ++ va_pl S.L (wPF cyC cyI cyO311cb cyO28f5b { S with O_SlotMapsModel := { S.O_SlotMapsModel with f_now := va_up S.O_SlotMapsModel.f_now a v } }) := by
  rw [va_pl_set hD hL hk]
  exact congrArg (fun l => X ++ l) (va_pl_congr (wSt_O_SlotMapsModel_f_now cyC cyI cyO311cb cyO28f5b S h v))
theorem wSt_O_SlotMapsModel_f_past (cyC : ClassId) (cyI : ClassId) (cyO311cb : ClassId) (cyO28f5b : ClassId) (S : wPS) {a : Nat} (h : S.K a = 4) (v : Option Nat) (b : Nat) : va_up (wPF cyC cyI cyO311cb cyO28f5b S) a (.inr (4, [va_rf (S.O_SlotMapsModel.f_now a), va_rf v, .int (S.O_SlotMapsModel.f_pasts a), va_rf (S.O_SlotMapsModel.f_before a), va_rf (S.O_SlotMapsModel.f_trial a), va_rf (S.O_SlotMapsModel.f_text a), .int (S.O_SlotMapsModel.f_typed a), .int (S.O_SlotMapsModel.f_at a)])) b = wPF cyC cyI cyO311cb cyO28f5b { S with O_SlotMapsModel := { S.O_SlotMapsModel with f_past := va_up S.O_SlotMapsModel.f_past a v } } b := by by_cases hb : b = a <;> first | (simp only [wPF, va_up_ne _ _ hb]; done) | (simp only [wPF, va_up, if_neg hb]; done) | simp [wPF, va_re, va_up, va_rf, hb, h]
theorem wPu_O_SlotMapsModel_f_past (cyC : ClassId) (cyI : ClassId) (cyO311cb : ClassId) (cyO28f5b : ClassId) (X : va_W) (S : wPS) {A : Nat → Prop} {a k : Nat} (hD : va_D A (X ++ va_pl S.L (wPF cyC cyI cyO311cb cyO28f5b S))) (hL : a ∈ S.L) (h : S.K a = 4) (hk : (X ++ va_pl S.L (wPF cyC cyI cyO311cb cyO28f5b S))[k]? = some (a, wPF cyC cyI cyO311cb cyO28f5b S a)) (v : Option Nat) : (X ++ va_pl S.L (wPF cyC cyI cyO311cb cyO28f5b S)).set k (a, .inr (4, [va_rf (S.O_SlotMapsModel.f_now a), va_rf v, .int (S.O_SlotMapsModel.f_pasts a), va_rf (S.O_SlotMapsModel.f_before a), va_rf (S.O_SlotMapsModel.f_trial a), va_rf (S.O_SlotMapsModel.f_text a), .int (S.O_SlotMapsModel.f_typed a), .int (S.O_SlotMapsModel.f_at a)])) = X ++ va_pl S.L (wPF cyC cyI cyO311cb cyO28f5b { S with O_SlotMapsModel := { S.O_SlotMapsModel with f_past := va_up S.O_SlotMapsModel.f_past a v } }) := by
  rw [va_pl_set hD hL hk]
  exact congrArg (fun l => X ++ l) (va_pl_congr (wSt_O_SlotMapsModel_f_past cyC cyI cyO311cb cyO28f5b S h v))
theorem wSt_O_SlotMapsModel_f_pasts (cyC : ClassId) (cyI : ClassId) (cyO311cb : ClassId) (cyO28f5b : ClassId) (S : wPS) {a : Nat} (h : S.K a = 4) (v : Int32) (b : Nat) : va_up (wPF cyC cyI cyO311cb cyO28f5b S) a (.inr (4, [va_rf (S.O_SlotMapsModel.f_now a), va_rf (S.O_SlotMapsModel.f_past a), .int v, va_rf (S.O_SlotMapsModel.f_before a), va_rf (S.O_SlotMapsModel.f_trial a), va_rf (S.O_SlotMapsModel.f_text a), .int (S.O_SlotMapsModel.f_typed a), .int (S.O_SlotMapsModel.f_at a)])) b = wPF cyC cyI cyO311cb cyO28f5b { S with O_SlotMapsModel := { S.O_SlotMapsModel with f_pasts := va_up S.O_SlotMapsModel.f_pasts a v } } b := by by_cases hb : b = a <;> first | (simp only [wPF, va_up_ne _ _ hb]; done) | (simp only [wPF, va_up, if_neg hb]; done) | simp [wPF, va_re, va_up, va_rf, hb, h]
theorem wPu_O_SlotMapsModel_f_pasts (cyC : ClassId) (cyI : ClassId) (cyO311cb : ClassId) (cyO28f5b : ClassId) (X : va_W) (S : wPS) {A : Nat → Prop} {a k : Nat} (hD : va_D A (X ++ va_pl S.L (wPF cyC cyI cyO311cb cyO28f5b S))) (hL : a ∈ S.L) (h : S.K a = 4) (hk : (X ++ va_pl S.L (wPF cyC cyI cyO311cb cyO28f5b S))[k]? = some (a, wPF cyC cyI cyO311cb cyO28f5b S a)) (v : Int32) : (X ++ va_pl S.L (wPF cyC cyI cyO311cb cyO28f5b S)).set k (a, .inr (4, [va_rf (S.O_SlotMapsModel.f_now a), va_rf (S.O_SlotMapsModel.f_past a), .int v, va_rf (S.O_SlotMapsModel.f_before a), va_rf (S.O_SlotMapsModel.f_trial a), va_rf (S.O_SlotMapsModel.f_text a), .int (S.O_SlotMapsModel.f_typed a), .int (S.O_SlotMapsModel.f_at a)])) = X ++ va_pl S.L (wPF cyC cyI cyO311cb cyO28f5b { S with O_SlotMapsModel := { S.O_SlotMapsModel with f_pasts := va_up S.O_SlotMapsModel.f_pasts a v } }) := by
  rw [va_pl_set hD hL hk]
  exact congrArg (fun l => X ++ l) (va_pl_congr (wSt_O_SlotMapsModel_f_pasts cyC cyI cyO311cb cyO28f5b S h v))
theorem wSt_O_SlotMapsModel_f_before (cyC : ClassId) (cyI : ClassId) (cyO311cb : ClassId) (cyO28f5b : ClassId) (S : wPS) {a : Nat} (h : S.K a = 4) (v : Option Nat) (b : Nat) : va_up (wPF cyC cyI cyO311cb cyO28f5b S) a (.inr (4, [va_rf (S.O_SlotMapsModel.f_now a), va_rf (S.O_SlotMapsModel.f_past a), .int (S.O_SlotMapsModel.f_pasts a), va_rf v, va_rf (S.O_SlotMapsModel.f_trial a), va_rf (S.O_SlotMapsModel.f_text a), .int (S.O_SlotMapsModel.f_typed a), .int (S.O_SlotMapsModel.f_at a)])) b = wPF cyC cyI cyO311cb cyO28f5b { S with O_SlotMapsModel := { S.O_SlotMapsModel with f_before := va_up S.O_SlotMapsModel.f_before a v } } b := by by_cases hb : b = a <;> first | (simp only [wPF, va_up_ne _ _ hb]; done) | (simp only [wPF, va_up, if_neg hb]; done) | simp [wPF, va_re, va_up, va_rf, hb, h]
theorem wPu_O_SlotMapsModel_f_before (cyC : ClassId) (cyI : ClassId) (cyO311cb : ClassId) (cyO28f5b : ClassId) (X : va_W) (S : wPS) {A : Nat → Prop} {a k : Nat} (hD : va_D A (X ++ va_pl S.L (wPF cyC cyI cyO311cb cyO28f5b S))) (hL : a ∈ S.L) (h : S.K a = 4) (hk : (X ++ va_pl S.L (wPF cyC cyI cyO311cb cyO28f5b S))[k]? = some (a, wPF cyC cyI cyO311cb cyO28f5b S a)) (v : Option Nat) : (X ++ va_pl S.L (wPF cyC cyI cyO311cb cyO28f5b S)).set k (a, .inr (4, [va_rf (S.O_SlotMapsModel.f_now a), va_rf (S.O_SlotMapsModel.f_past a), .int (S.O_SlotMapsModel.f_pasts a), va_rf v, va_rf (S.O_SlotMapsModel.f_trial a), va_rf (S.O_SlotMapsModel.f_text a), .int (S.O_SlotMapsModel.f_typed a), .int (S.O_SlotMapsModel.f_at a)])) = X ++ va_pl S.L (wPF cyC cyI cyO311cb cyO28f5b { S with O_SlotMapsModel := { S.O_SlotMapsModel with f_before := va_up S.O_SlotMapsModel.f_before a v } }) := by
  rw [va_pl_set hD hL hk]
  exact congrArg (fun l => X ++ l) (va_pl_congr (wSt_O_SlotMapsModel_f_before cyC cyI cyO311cb cyO28f5b S h v))
theorem wSt_O_SlotMapsModel_f_trial (cyC : ClassId) (cyI : ClassId) (cyO311cb : ClassId) (cyO28f5b : ClassId) (S : wPS) {a : Nat} (h : S.K a = 4) (v : Option Nat) (b : Nat) : va_up (wPF cyC cyI cyO311cb cyO28f5b S) a (.inr (4, [va_rf (S.O_SlotMapsModel.f_now a), va_rf (S.O_SlotMapsModel.f_past a), .int (S.O_SlotMapsModel.f_pasts a), va_rf (S.O_SlotMapsModel.f_before a), va_rf v, va_rf (S.O_SlotMapsModel.f_text a), .int (S.O_SlotMapsModel.f_typed a), .int (S.O_SlotMapsModel.f_at a)])) b = wPF cyC cyI cyO311cb cyO28f5b { S with O_SlotMapsModel := { S.O_SlotMapsModel with f_trial := va_up S.O_SlotMapsModel.f_trial a v } } b := by by_cases hb : b = a <;> first | (simp only [wPF, va_up_ne _ _ hb]; done) | (simp only [wPF, va_up, if_neg hb]; done) | simp [wPF, va_re, va_up, va_rf, hb, h]
theorem wPu_O_SlotMapsModel_f_trial (cyC : ClassId) (cyI : ClassId) (cyO311cb : ClassId) (cyO28f5b : ClassId) (X : va_W) (S : wPS) {A : Nat → Prop} {a k : Nat} (hD : va_D A (X ++ va_pl S.L (wPF cyC cyI cyO311cb cyO28f5b S))) (hL : a ∈ S.L) (h : S.K a = 4) (hk : (X ++ va_pl S.L (wPF cyC cyI cyO311cb cyO28f5b S))[k]? = some (a, wPF cyC cyI cyO311cb cyO28f5b S a)) (v : Option Nat) : (X ++ va_pl S.L (wPF cyC cyI cyO311cb cyO28f5b S)).set k (a, .inr (4, [va_rf (S.O_SlotMapsModel.f_now a), va_rf (S.O_SlotMapsModel.f_past a), .int (S.O_SlotMapsModel.f_pasts a), va_rf (S.O_SlotMapsModel.f_before a), va_rf v, va_rf (S.O_SlotMapsModel.f_text a), .int (S.O_SlotMapsModel.f_typed a), .int (S.O_SlotMapsModel.f_at a)])) = X ++ va_pl S.L (wPF cyC cyI cyO311cb cyO28f5b { S with O_SlotMapsModel := { S.O_SlotMapsModel with f_trial := va_up S.O_SlotMapsModel.f_trial a v } }) := by
  rw [va_pl_set hD hL hk]
  exact congrArg (fun l => X ++ l) (va_pl_congr (wSt_O_SlotMapsModel_f_trial cyC cyI cyO311cb cyO28f5b S h v))
theorem wSt_O_SlotMapsModel_f_text (cyC : ClassId) (cyI : ClassId) (cyO311cb : ClassId) (cyO28f5b : ClassId) (S : wPS) {a : Nat} (h : S.K a = 4) (v : Option Nat) (b : Nat) : va_up (wPF cyC cyI cyO311cb cyO28f5b S) a (.inr (4, [va_rf (S.O_SlotMapsModel.f_now a), va_rf (S.O_SlotMapsModel.f_past a), .int (S.O_SlotMapsModel.f_pasts a), va_rf (S.O_SlotMapsModel.f_before a), va_rf (S.O_SlotMapsModel.f_trial a), va_rf v, .int (S.O_SlotMapsModel.f_typed a), .int (S.O_SlotMapsModel.f_at a)])) b = wPF cyC cyI cyO311cb cyO28f5b { S with O_SlotMapsModel := { S.O_SlotMapsModel with f_text := va_up S.O_SlotMapsModel.f_text a v } } b := by by_cases hb : b = a <;> first | (simp only [wPF, va_up_ne _ _ hb]; done) | (simp only [wPF, va_up, if_neg hb]; done) | simp [wPF, va_re, va_up, va_rf, hb, h]
theorem wPu_O_SlotMapsModel_f_text (cyC : ClassId) (cyI : ClassId) (cyO311cb : ClassId) (cyO28f5b : ClassId) (X : va_W) (S : wPS) {A : Nat → Prop} {a k : Nat} (hD : va_D A (X ++ va_pl S.L (wPF cyC cyI cyO311cb cyO28f5b S))) (hL : a ∈ S.L) (h : S.K a = 4) (hk : (X ++ va_pl S.L (wPF cyC cyI cyO311cb cyO28f5b S))[k]? = some (a, wPF cyC cyI cyO311cb cyO28f5b S a)) (v : Option Nat) : (X ++ va_pl S.L (wPF cyC cyI cyO311cb cyO28f5b S)).set k (a, .inr (4, [va_rf (S.O_SlotMapsModel.f_now a), va_rf (S.O_SlotMapsModel.f_past a), .int (S.O_SlotMapsModel.f_pasts a), va_rf (S.O_SlotMapsModel.f_before a), va_rf (S.O_SlotMapsModel.f_trial a), va_rf v, .int (S.O_SlotMapsModel.f_typed a), .int (S.O_SlotMapsModel.f_at a)])) = X ++ va_pl S.L (wPF cyC cyI cyO311cb cyO28f5b { S with O_SlotMapsModel := { S.O_SlotMapsModel with f_text := va_up S.O_SlotMapsModel.f_text a v } }) := by
  rw [va_pl_set hD hL hk]
  exact congrArg (fun l => X ++ l) (va_pl_congr (wSt_O_SlotMapsModel_f_text cyC cyI cyO311cb cyO28f5b S h v))
theorem wSt_O_SlotMapsModel_f_typed (cyC : ClassId) (cyI : ClassId) (cyO311cb : ClassId) (cyO28f5b : ClassId) (S : wPS) {a : Nat} (h : S.K a = 4) (v : Int32) (b : Nat) : va_up (wPF cyC cyI cyO311cb cyO28f5b S) a (.inr (4, [va_rf (S.O_SlotMapsModel.f_now a), va_rf (S.O_SlotMapsModel.f_past a), .int (S.O_SlotMapsModel.f_pasts a), va_rf (S.O_SlotMapsModel.f_before a), va_rf (S.O_SlotMapsModel.f_trial a), va_rf (S.O_SlotMapsModel.f_text a), .int v, .int (S.O_SlotMapsModel.f_at a)])) b = wPF cyC cyI cyO311cb cyO28f5b { S with O_SlotMapsModel := { S.O_SlotMapsModel with f_typed := va_up S.O_SlotMapsModel.f_typed a v } } b := by by_cases hb : b = a <;> first | (simp only [wPF, va_up_ne _ _ hb]; done) | (simp only [wPF, va_up, if_neg hb]; done) | simp [wPF, va_re, va_up, va_rf, hb, h]
theorem wPu_O_SlotMapsModel_f_typed (cyC : ClassId) (cyI : ClassId) (cyO311cb : ClassId) (cyO28f5b : ClassId) (X : va_W) (S : wPS) {A : Nat → Prop} {a k : Nat} (hD : va_D A (X ++ va_pl S.L (wPF cyC cyI cyO311cb cyO28f5b S))) (hL : a ∈ S.L) (h : S.K a = 4) (hk : (X ++ va_pl S.L (wPF cyC cyI cyO311cb cyO28f5b S))[k]? = some (a, wPF cyC cyI cyO311cb cyO28f5b S a)) (v : Int32) : (X ++ va_pl S.L (wPF cyC cyI cyO311cb cyO28f5b S)).set k (a, .inr (4, [va_rf (S.O_SlotMapsModel.f_now a), va_rf (S.O_SlotMapsModel.f_past a), .int (S.O_SlotMapsModel.f_pasts a), va_rf (S.O_SlotMapsModel.f_before a), va_rf (S.O_SlotMapsModel.f_trial a), va_rf (S.O_SlotMapsModel.f_text a), .int v, .int (S.O_SlotMapsModel.f_at a)])) = X ++ va_pl S.L (wPF cyC cyI cyO311cb cyO28f5b { S with O_SlotMapsModel := { S.O_SlotMapsModel with f_typed := va_up S.O_SlotMapsModel.f_typed a v } }) := by
  rw [va_pl_set hD hL hk]
  exact congrArg (fun l => X ++ l) (va_pl_congr (wSt_O_SlotMapsModel_f_typed cyC cyI cyO311cb cyO28f5b S h v))
theorem wSt_O_SlotMapsModel_f_at (cyC : ClassId) (cyI : ClassId) (cyO311cb : ClassId) (cyO28f5b : ClassId) (S : wPS) {a : Nat} (h : S.K a = 4) (v : Int32) (b : Nat) : va_up (wPF cyC cyI cyO311cb cyO28f5b S) a (.inr (4, [va_rf (S.O_SlotMapsModel.f_now a), va_rf (S.O_SlotMapsModel.f_past a), .int (S.O_SlotMapsModel.f_pasts a), va_rf (S.O_SlotMapsModel.f_before a), va_rf (S.O_SlotMapsModel.f_trial a), va_rf (S.O_SlotMapsModel.f_text a), .int (S.O_SlotMapsModel.f_typed a), .int v])) b = wPF cyC cyI cyO311cb cyO28f5b { S with O_SlotMapsModel := { S.O_SlotMapsModel with f_at := va_up S.O_SlotMapsModel.f_at a v } } b := by by_cases hb : b = a <;> first | (simp only [wPF, va_up_ne _ _ hb]; done) | (simp only [wPF, va_up, if_neg hb]; done) | simp [wPF, va_re, va_up, va_rf, hb, h]
theorem wPu_O_SlotMapsModel_f_at (cyC : ClassId) (cyI : ClassId) (cyO311cb : ClassId) (cyO28f5b : ClassId) (X : va_W) (S : wPS) {A : Nat → Prop} {a k : Nat} (hD : va_D A (X ++ va_pl S.L (wPF cyC cyI cyO311cb cyO28f5b S))) (hL : a ∈ S.L) (h : S.K a = 4) (hk : (X ++ va_pl S.L (wPF cyC cyI cyO311cb cyO28f5b S))[k]? = some (a, wPF cyC cyI cyO311cb cyO28f5b S a)) (v : Int32) : (X ++ va_pl S.L (wPF cyC cyI cyO311cb cyO28f5b S)).set k (a, .inr (4, [va_rf (S.O_SlotMapsModel.f_now a), va_rf (S.O_SlotMapsModel.f_past a), .int (S.O_SlotMapsModel.f_pasts a), va_rf (S.O_SlotMapsModel.f_before a), va_rf (S.O_SlotMapsModel.f_trial a), va_rf (S.O_SlotMapsModel.f_text a), .int (S.O_SlotMapsModel.f_typed a), .int v])) = X ++ va_pl S.L (wPF cyC cyI cyO311cb cyO28f5b { S with O_SlotMapsModel := { S.O_SlotMapsModel with f_at := va_up S.O_SlotMapsModel.f_at a v } }) := by
  rw [va_pl_set hD hL hk]
  exact congrArg (fun l => X ++ l) (va_pl_congr (wSt_O_SlotMapsModel_f_at cyC cyI cyO311cb cyO28f5b S h v))
theorem wNw_O_SlotMapsModel (cyC : ClassId) (cyI : ClassId) (cyO311cb : ClassId) (cyO28f5b : ClassId) (S : wPS) (a b : Nat) : va_up (wPF cyC cyI cyO311cb cyO28f5b S) a (.inr (4, [.null, .null, .int 0, .null, .null, .null, .int 0, .int 0])) b = wPF cyC cyI cyO311cb cyO28f5b { S with L := S.L ++ [a], K := va_up S.K a 4, O_SlotMapsModel := { f_now := va_up S.O_SlotMapsModel.f_now a none, f_past := va_up S.O_SlotMapsModel.f_past a none, f_pasts := va_up S.O_SlotMapsModel.f_pasts a 0, f_before := va_up S.O_SlotMapsModel.f_before a none, f_trial := va_up S.O_SlotMapsModel.f_trial a none, f_text := va_up S.O_SlotMapsModel.f_text a none, f_typed := va_up S.O_SlotMapsModel.f_typed a 0, f_at := va_up S.O_SlotMapsModel.f_at a 0 } } b := by by_cases hb : b = a <;> first | (simp only [wPF, va_up_ne _ _ hb]; done) | (simp only [wPF, va_up, if_neg hb]; done) | simp [wPF, va_re, va_up, va_rf, hb]
theorem wPn_O_SlotMapsModel (cyC : ClassId) (cyI : ClassId) (cyO311cb : ClassId) (cyO28f5b : ClassId) (X : va_W) (S : wPS) {a : Nat} (ha : a ∉ S.L) : (X ++ va_pl S.L (wPF cyC cyI cyO311cb cyO28f5b S)) ++ [(a, .inr (4, [.null, .null, .int 0, .null, .null, .null, .int 0, .int 0]))] = X ++ va_pl (S.L ++ [a]) (wPF cyC cyI cyO311cb cyO28f5b { S with L := S.L ++ [a], K := va_up S.K a 4, O_SlotMapsModel := { f_now := va_up S.O_SlotMapsModel.f_now a none, f_past := va_up S.O_SlotMapsModel.f_past a none, f_pasts := va_up S.O_SlotMapsModel.f_pasts a 0, f_before := va_up S.O_SlotMapsModel.f_before a none, f_trial := va_up S.O_SlotMapsModel.f_trial a none, f_text := va_up S.O_SlotMapsModel.f_text a none, f_typed := va_up S.O_SlotMapsModel.f_typed a 0, f_at := va_up S.O_SlotMapsModel.f_at a 0 } }) := by
  rw [List.append_assoc, va_pl_push ha]
  exact congrArg (fun l => X ++ l) (va_pl_congr (wNw_O_SlotMapsModel cyC cyI cyO311cb cyO28f5b S a))
theorem wAt_R_C (cyC : ClassId) (cyI : ClassId) (cyO311cb : ClassId) (cyO28f5b : ClassId) (S : wPS) {a : Nat} (h : S.K a = 5) : wPF cyC cyI cyO311cb cyO28f5b S a = .inl (cyC, S.R_C.len a, .inl (S.R_C.row a)) := by simp [wPF, h]
theorem wGt_R_C (cyC : ClassId) (cyI : ClassId) (cyO311cb : ClassId) (cyO28f5b : ClassId) (X : va_W) (S : wPS) {a : Nat} (hL : a ∈ S.L) (h : S.K a = 5) : ∃ k : Nat, (X ++ va_pl S.L (wPF cyC cyI cyO311cb cyO28f5b S))[k]? = some (a, wPF cyC cyI cyO311cb cyO28f5b S a) ∧ (X ++ va_pl S.L (wPF cyC cyI cyO311cb cyO28f5b S))[k]? = some (a, .inl (cyC, S.R_C.len a, .inl (S.R_C.row a))) := by
  obtain ⟨k, hk⟩ := va_pl_get (X := X) (f := wPF cyC cyI cyO311cb cyO28f5b S) hL
  exact ⟨k, hk, hk.trans (congrArg (fun e => some (a, e)) (wAt_R_C cyC cyI cyO311cb cyO28f5b S h))⟩
theorem wSt_R_C_row (cyC : ClassId) (cyI : ClassId) (cyO311cb : ClassId) (cyO28f5b : ClassId) (S : wPS) {a : Nat} (h : S.K a = 5) (v : Nat → Int32) (b : Nat) : va_up (wPF cyC cyI cyO311cb cyO28f5b S) a (.inl (cyC, S.R_C.len a, .inl v)) b = wPF cyC cyI cyO311cb cyO28f5b { S with R_C := { S.R_C with row := va_up S.R_C.row a v } } b := by by_cases hb : b = a <;> first | (simp only [wPF, va_up_ne _ _ hb]; done) | (simp only [wPF, va_up, if_neg hb]; done) | simp [wPF, va_re, va_up, va_rf, hb, h]
theorem wPu_R_C_row (cyC : ClassId) (cyI : ClassId) (cyO311cb : ClassId) (cyO28f5b : ClassId) (X : va_W) (S : wPS) {A : Nat → Prop} {a k : Nat} (hD : va_D A (X ++ va_pl S.L (wPF cyC cyI cyO311cb cyO28f5b S))) (hL : a ∈ S.L) (h : S.K a = 5) (hk : (X ++ va_pl S.L (wPF cyC cyI cyO311cb cyO28f5b S))[k]? = some (a, wPF cyC cyI cyO311cb cyO28f5b S a)) (v : Nat → Int32) : (X ++ va_pl S.L (wPF cyC cyI cyO311cb cyO28f5b S)).set k (a, .inl (cyC, S.R_C.len a, .inl v)) = X ++ va_pl S.L (wPF cyC cyI cyO311cb cyO28f5b { S with R_C := { S.R_C with row := va_up S.R_C.row a v } }) := by
  rw [va_pl_set hD hL hk]
  exact congrArg (fun l => X ++ l) (va_pl_congr (wSt_R_C_row cyC cyI cyO311cb cyO28f5b S h v))
theorem wNw_R_C (cyC : ClassId) (cyI : ClassId) (cyO311cb : ClassId) (cyO28f5b : ClassId) (S : wPS) (a : Nat) (z : Nat) (f : Nat → Int32) (b : Nat) : va_up (wPF cyC cyI cyO311cb cyO28f5b S) a (.inl (cyC, z, .inl f)) b = wPF cyC cyI cyO311cb cyO28f5b { S with L := S.L ++ [a], K := va_up S.K a 5, R_C := { len := va_up S.R_C.len a z, row := va_up S.R_C.row a f } } b := by by_cases hb : b = a <;> first | (simp only [wPF, va_up_ne _ _ hb]; done) | (simp only [wPF, va_up, if_neg hb]; done) | simp [wPF, va_re, va_up, va_rf, hb]
theorem wAt_R_I (cyC : ClassId) (cyI : ClassId) (cyO311cb : ClassId) (cyO28f5b : ClassId) (S : wPS) {a : Nat} (h : S.K a = 6) : wPF cyC cyI cyO311cb cyO28f5b S a = .inl (cyI, S.R_I.len a, .inl (S.R_I.row a)) := by simp [wPF, h]
theorem wGt_R_I (cyC : ClassId) (cyI : ClassId) (cyO311cb : ClassId) (cyO28f5b : ClassId) (X : va_W) (S : wPS) {a : Nat} (hL : a ∈ S.L) (h : S.K a = 6) : ∃ k : Nat, (X ++ va_pl S.L (wPF cyC cyI cyO311cb cyO28f5b S))[k]? = some (a, wPF cyC cyI cyO311cb cyO28f5b S a) ∧ (X ++ va_pl S.L (wPF cyC cyI cyO311cb cyO28f5b S))[k]? = some (a, .inl (cyI, S.R_I.len a, .inl (S.R_I.row a))) := by
  obtain ⟨k, hk⟩ := va_pl_get (X := X) (f := wPF cyC cyI cyO311cb cyO28f5b S) hL
  exact ⟨k, hk, hk.trans (congrArg (fun e => some (a, e)) (wAt_R_I cyC cyI cyO311cb cyO28f5b S h))⟩
theorem wSt_R_I_row (cyC : ClassId) (cyI : ClassId) (cyO311cb : ClassId) (cyO28f5b : ClassId) (S : wPS) {a : Nat} (h : S.K a = 6) (v : Nat → Int32) (b : Nat) : va_up (wPF cyC cyI cyO311cb cyO28f5b S) a (.inl (cyI, S.R_I.len a, .inl v)) b = wPF cyC cyI cyO311cb cyO28f5b { S with R_I := { S.R_I with row := va_up S.R_I.row a v } } b := by by_cases hb : b = a <;> first | (simp only [wPF, va_up_ne _ _ hb]; done) | (simp only [wPF, va_up, if_neg hb]; done) | simp [wPF, va_re, va_up, va_rf, hb, h]
theorem wPu_R_I_row (cyC : ClassId) (cyI : ClassId) (cyO311cb : ClassId) (cyO28f5b : ClassId) (X : va_W) (S : wPS) {A : Nat → Prop} {a k : Nat} (hD : va_D A (X ++ va_pl S.L (wPF cyC cyI cyO311cb cyO28f5b S))) (hL : a ∈ S.L) (h : S.K a = 6) (hk : (X ++ va_pl S.L (wPF cyC cyI cyO311cb cyO28f5b S))[k]? = some (a, wPF cyC cyI cyO311cb cyO28f5b S a)) (v : Nat → Int32) : (X ++ va_pl S.L (wPF cyC cyI cyO311cb cyO28f5b S)).set k (a, .inl (cyI, S.R_I.len a, .inl v)) = X ++ va_pl S.L (wPF cyC cyI cyO311cb cyO28f5b { S with R_I := { S.R_I with row := va_up S.R_I.row a v } }) := by
  rw [va_pl_set hD hL hk]
  exact congrArg (fun l => X ++ l) (va_pl_congr (wSt_R_I_row cyC cyI cyO311cb cyO28f5b S h v))
theorem wNr_R_I (cyC : ClassId) (cyI : ClassId) (cyO311cb : ClassId) (cyO28f5b : ClassId) (S : wPS) (rs : List Nat) (z : Nat) (f : Nat → Int32) (b : Nat) : vr_up (wPF cyC cyI cyO311cb cyO28f5b S) rs (.inl (cyI, z, .inl f)) b = wPF cyC cyI cyO311cb cyO28f5b { S with L := S.L ++ rs, K := vr_up S.K rs 6, R_I := { len := vr_up S.R_I.len rs z, row := vr_up S.R_I.row rs f } } b := by by_cases hb : b ∈ rs <;> first | (simp only [wPF, vr_up, if_pos hb]; done) | (simp only [wPF, vr_up, if_neg hb]; done) | (simp only [wPF, vr_up, if_pos hb]; simp; done)
theorem wNw_R_I (cyC : ClassId) (cyI : ClassId) (cyO311cb : ClassId) (cyO28f5b : ClassId) (S : wPS) (a : Nat) (z : Nat) (f : Nat → Int32) (b : Nat) : va_up (wPF cyC cyI cyO311cb cyO28f5b S) a (.inl (cyI, z, .inl f)) b = wPF cyC cyI cyO311cb cyO28f5b { S with L := S.L ++ [a], K := va_up S.K a 6, R_I := { len := va_up S.R_I.len a z, row := va_up S.R_I.row a f } } b := by by_cases hb : b = a <;> first | (simp only [wPF, va_up_ne _ _ hb]; done) | (simp only [wPF, va_up, if_neg hb]; done) | simp [wPF, va_re, va_up, va_rf, hb]
theorem wAt_R_Slots (cyC : ClassId) (cyI : ClassId) (cyO311cb : ClassId) (cyO28f5b : ClassId) (S : wPS) {a : Nat} (h : S.K a = 7) : wPF cyC cyI cyO311cb cyO28f5b S a = .inl (cyO311cb, S.R_Slots.len a, .inr (.inr (.inr (.inr (S.R_Slots.row a))))) := by simp [wPF, h]
theorem wGt_R_Slots (cyC : ClassId) (cyI : ClassId) (cyO311cb : ClassId) (cyO28f5b : ClassId) (X : va_W) (S : wPS) {a : Nat} (hL : a ∈ S.L) (h : S.K a = 7) : ∃ k : Nat, (X ++ va_pl S.L (wPF cyC cyI cyO311cb cyO28f5b S))[k]? = some (a, wPF cyC cyI cyO311cb cyO28f5b S a) ∧ (X ++ va_pl S.L (wPF cyC cyI cyO311cb cyO28f5b S))[k]? = some (a, .inl (cyO311cb, S.R_Slots.len a, .inr (.inr (.inr (.inr (S.R_Slots.row a)))))) := by
  obtain ⟨k, hk⟩ := va_pl_get (X := X) (f := wPF cyC cyI cyO311cb cyO28f5b S) hL
  exact ⟨k, hk, hk.trans (congrArg (fun e => some (a, e)) (wAt_R_Slots cyC cyI cyO311cb cyO28f5b S h))⟩
theorem wSt_R_Slots_row (cyC : ClassId) (cyI : ClassId) (cyO311cb : ClassId) (cyO28f5b : ClassId) (S : wPS) {a : Nat} (h : S.K a = 7) (v : Nat → Option Nat) (b : Nat) : va_up (wPF cyC cyI cyO311cb cyO28f5b S) a (.inl (cyO311cb, S.R_Slots.len a, .inr (.inr (.inr (.inr v))))) b = wPF cyC cyI cyO311cb cyO28f5b { S with R_Slots := { S.R_Slots with row := va_up S.R_Slots.row a v } } b := by by_cases hb : b = a <;> first | (simp only [wPF, va_up_ne _ _ hb]; done) | (simp only [wPF, va_up, if_neg hb]; done) | simp [wPF, va_re, va_up, va_rf, hb, h]
theorem wPu_R_Slots_row (cyC : ClassId) (cyI : ClassId) (cyO311cb : ClassId) (cyO28f5b : ClassId) (X : va_W) (S : wPS) {A : Nat → Prop} {a k : Nat} (hD : va_D A (X ++ va_pl S.L (wPF cyC cyI cyO311cb cyO28f5b S))) (hL : a ∈ S.L) (h : S.K a = 7) (hk : (X ++ va_pl S.L (wPF cyC cyI cyO311cb cyO28f5b S))[k]? = some (a, wPF cyC cyI cyO311cb cyO28f5b S a)) (v : Nat → Option Nat) : (X ++ va_pl S.L (wPF cyC cyI cyO311cb cyO28f5b S)).set k (a, .inl (cyO311cb, S.R_Slots.len a, .inr (.inr (.inr (.inr v))))) = X ++ va_pl S.L (wPF cyC cyI cyO311cb cyO28f5b { S with R_Slots := { S.R_Slots with row := va_up S.R_Slots.row a v } }) := by
  rw [va_pl_set hD hL hk]
  exact congrArg (fun l => X ++ l) (va_pl_congr (wSt_R_Slots_row cyC cyI cyO311cb cyO28f5b S h v))
theorem wNw_R_Slots (cyC : ClassId) (cyI : ClassId) (cyO311cb : ClassId) (cyO28f5b : ClassId) (S : wPS) (a : Nat) (z : Nat) (f : Nat → Option Nat) (b : Nat) : va_up (wPF cyC cyI cyO311cb cyO28f5b S) a (.inl (cyO311cb, z, .inr (.inr (.inr (.inr f))))) b = wPF cyC cyI cyO311cb cyO28f5b { S with L := S.L ++ [a], K := va_up S.K a 7, R_Slots := { len := va_up S.R_Slots.len a z, row := va_up S.R_Slots.row a f } } b := by by_cases hb : b = a <;> first | (simp only [wPF, va_up_ne _ _ hb]; done) | (simp only [wPF, va_up, if_neg hb]; done) | simp [wPF, va_re, va_up, va_rf, hb]
theorem wAt_R__I (cyC : ClassId) (cyI : ClassId) (cyO311cb : ClassId) (cyO28f5b : ClassId) (S : wPS) {a : Nat} (h : S.K a = 8) : wPF cyC cyI cyO311cb cyO28f5b S a = .inl (cyO28f5b, S.R__I.len a, .inr (.inr (.inr (.inr (S.R__I.row a))))) := by simp [wPF, h]
theorem wGt_R__I (cyC : ClassId) (cyI : ClassId) (cyO311cb : ClassId) (cyO28f5b : ClassId) (X : va_W) (S : wPS) {a : Nat} (hL : a ∈ S.L) (h : S.K a = 8) : ∃ k : Nat, (X ++ va_pl S.L (wPF cyC cyI cyO311cb cyO28f5b S))[k]? = some (a, wPF cyC cyI cyO311cb cyO28f5b S a) ∧ (X ++ va_pl S.L (wPF cyC cyI cyO311cb cyO28f5b S))[k]? = some (a, .inl (cyO28f5b, S.R__I.len a, .inr (.inr (.inr (.inr (S.R__I.row a)))))) := by
  obtain ⟨k, hk⟩ := va_pl_get (X := X) (f := wPF cyC cyI cyO311cb cyO28f5b S) hL
  exact ⟨k, hk, hk.trans (congrArg (fun e => some (a, e)) (wAt_R__I cyC cyI cyO311cb cyO28f5b S h))⟩
theorem wSt_R__I_row (cyC : ClassId) (cyI : ClassId) (cyO311cb : ClassId) (cyO28f5b : ClassId) (S : wPS) {a : Nat} (h : S.K a = 8) (v : Nat → Option Nat) (b : Nat) : va_up (wPF cyC cyI cyO311cb cyO28f5b S) a (.inl (cyO28f5b, S.R__I.len a, .inr (.inr (.inr (.inr v))))) b = wPF cyC cyI cyO311cb cyO28f5b { S with R__I := { S.R__I with row := va_up S.R__I.row a v } } b := by by_cases hb : b = a <;> first | (simp only [wPF, va_up_ne _ _ hb]; done) | (simp only [wPF, va_up, if_neg hb]; done) | simp [wPF, va_re, va_up, va_rf, hb, h]
theorem wPu_R__I_row (cyC : ClassId) (cyI : ClassId) (cyO311cb : ClassId) (cyO28f5b : ClassId) (X : va_W) (S : wPS) {A : Nat → Prop} {a k : Nat} (hD : va_D A (X ++ va_pl S.L (wPF cyC cyI cyO311cb cyO28f5b S))) (hL : a ∈ S.L) (h : S.K a = 8) (hk : (X ++ va_pl S.L (wPF cyC cyI cyO311cb cyO28f5b S))[k]? = some (a, wPF cyC cyI cyO311cb cyO28f5b S a)) (v : Nat → Option Nat) : (X ++ va_pl S.L (wPF cyC cyI cyO311cb cyO28f5b S)).set k (a, .inl (cyO28f5b, S.R__I.len a, .inr (.inr (.inr (.inr v))))) = X ++ va_pl S.L (wPF cyC cyI cyO311cb cyO28f5b { S with R__I := { S.R__I with row := va_up S.R__I.row a v } }) := by
  rw [va_pl_set hD hL hk]
  exact congrArg (fun l => X ++ l) (va_pl_congr (wSt_R__I_row cyC cyI cyO311cb cyO28f5b S h v))
theorem wNw_R__I (cyC : ClassId) (cyI : ClassId) (cyO311cb : ClassId) (cyO28f5b : ClassId) (S : wPS) (a : Nat) (z : Nat) (f : Nat → Option Nat) (b : Nat) : va_up (wPF cyC cyI cyO311cb cyO28f5b S) a (.inl (cyO28f5b, z, .inr (.inr (.inr (.inr f))))) b = wPF cyC cyI cyO311cb cyO28f5b { S with L := S.L ++ [a], K := va_up S.K a 8, R__I := { len := va_up S.R__I.len a z, row := va_up S.R__I.row a f } } b := by by_cases hb : b = a <;> first | (simp only [wPF, va_up_ne _ _ hb]; done) | (simp only [wPF, va_up, if_neg hb]; done) | simp [wPF, va_re, va_up, va_rf, hb]
/-! ===== END printed: names ===== -/
end
section
/-- a first row, so that the names stand in a part of their own -/
theorem zz_first : True := trivial
end
