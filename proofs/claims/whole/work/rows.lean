section
-- ===== PART A: goes FIRST, ahead of the names: the tables' words, and 'selects' of the private methods out of them =====
/-- a private method of a class that the tables say can be made, by its rows of tables_1 -/
def lw_okq (q : MethodName × Nat) : Prop := (q.1.cls ≠ "java/lang/invoke/MethodHandle" ∧ q.1.cls ≠ "java/lang/invoke/VarHandle") ∧ Cond.instantiable q.1.cls q.2 ∈ tables_1 ∧ Cond.privateMethod q.1 ∈ tables_1 ∧ Cond.instanceMethod q.1 ∈ tables_1
theorem lw_p0 : lw_okq (⟨"SlotMaps$History", "behindLatest", "()I"⟩, 3) := ⟨⟨by decide +kernel, by decide +kernel⟩, List.mem_of_getElem? (i := 48) (by decide +kernel), List.mem_of_getElem? (i := 121) (by decide +kernel), List.mem_of_getElem? (i := 122) (by decide +kernel)⟩
theorem lw_p1 : lw_okq (⟨"SlotMaps$Slots", "takeBySummaries", "()I"⟩, 5) := ⟨⟨by decide +kernel, by decide +kernel⟩, List.mem_of_getElem? (i := 18) (by decide +kernel), List.mem_of_getElem? (i := 136) (by decide +kernel), List.mem_of_getElem? (i := 137) (by decide +kernel)⟩
theorem lw_p2 : lw_okq (⟨"SlotMaps$Slots", "change", "(IIII)V"⟩, 5) := ⟨⟨by decide +kernel, by decide +kernel⟩, List.mem_of_getElem? (i := 18) (by decide +kernel), List.mem_of_getElem? (i := 160) (by decide +kernel), List.mem_of_getElem? (i := 161) (by decide +kernel)⟩
theorem lw_p3 : lw_okq (⟨"SlotMaps", "settle", "(I)I"⟩, 6) := ⟨⟨by decide +kernel, by decide +kernel⟩, List.mem_of_getElem? (i := 10) (by decide +kernel), List.mem_of_getElem? (i := 169) (by decide +kernel), List.mem_of_getElem? (i := 170) (by decide +kernel)⟩
theorem lw_p4 : lw_okq (⟨"SlotMaps$Slots", "isFree", "(I)Z"⟩, 5) := ⟨⟨by decide +kernel, by decide +kernel⟩, List.mem_of_getElem? (i := 18) (by decide +kernel), List.mem_of_getElem? (i := 196) (by decide +kernel), List.mem_of_getElem? (i := 197) (by decide +kernel)⟩
theorem lw_p5 : lw_okq (⟨"SlotMaps$Slots", "ownedBits", "(I)I"⟩, 5) := ⟨⟨by decide +kernel, by decide +kernel⟩, List.mem_of_getElem? (i := 18) (by decide +kernel), List.mem_of_getElem? (i := 220) (by decide +kernel), List.mem_of_getElem? (i := 221) (by decide +kernel)⟩
theorem lw_p6 : lw_okq (⟨"SlotMaps$Slots", "blockBits", "(I)I"⟩, 5) := ⟨⟨by decide +kernel, by decide +kernel⟩, List.mem_of_getElem? (i := 18) (by decide +kernel), List.mem_of_getElem? (i := 224) (by decide +kernel), List.mem_of_getElem? (i := 225) (by decide +kernel)⟩
theorem lw_p7 : lw_okq (⟨"SlotMaps$Slots", "firstUnusedBlock", "()I"⟩, 5) := ⟨⟨by decide +kernel, by decide +kernel⟩, List.mem_of_getElem? (i := 18) (by decide +kernel), List.mem_of_getElem? (i := 244) (by decide +kernel), List.mem_of_getElem? (i := 245) (by decide +kernel)⟩
theorem lw_p8 : lw_okq (⟨"SlotMaps$Program", "readCharacter", "(CI)Z"⟩, 6) := ⟨⟨by decide +kernel, by decide +kernel⟩, List.mem_of_getElem? (i := 68) (by decide +kernel), List.mem_of_getElem? (i := 317) (by decide +kernel), List.mem_of_getElem? (i := 318) (by decide +kernel)⟩
theorem lw_p9 : lw_okq (⟨"SlotMaps$Program", "readLetter", "(CI)Z"⟩, 6) := ⟨⟨by decide +kernel, by decide +kernel⟩, List.mem_of_getElem? (i := 68) (by decide +kernel), List.mem_of_getElem? (i := 321) (by decide +kernel), List.mem_of_getElem? (i := 322) (by decide +kernel)⟩
theorem lw_p10 : lw_okq (⟨"SlotMaps$Program", "readDigit", "(I)Z"⟩, 6) := ⟨⟨by decide +kernel, by decide +kernel⟩, List.mem_of_getElem? (i := 68) (by decide +kernel), List.mem_of_getElem? (i := 325) (by decide +kernel), List.mem_of_getElem? (i := 326) (by decide +kernel)⟩
theorem lw_p11 : lw_okq (⟨"SlotMaps$Program", "readDash", "()Z"⟩, 6) := ⟨⟨by decide +kernel, by decide +kernel⟩, List.mem_of_getElem? (i := 68) (by decide +kernel), List.mem_of_getElem? (i := 329) (by decide +kernel), List.mem_of_getElem? (i := 330) (by decide +kernel)⟩
theorem lw_p12 : lw_okq (⟨"SlotMaps$Program", "mayEnd", "()Z"⟩, 6) := ⟨⟨by decide +kernel, by decide +kernel⟩, List.mem_of_getElem? (i := 68) (by decide +kernel), List.mem_of_getElem? (i := 333) (by decide +kernel), List.mem_of_getElem? (i := 334) (by decide +kernel)⟩
theorem lw_p13 : lw_okq (⟨"SlotMaps$Program", "perform", "(LSlotMaps$Slots;)I"⟩, 6) := ⟨⟨by decide +kernel, by decide +kernel⟩, List.mem_of_getElem? (i := 68) (by decide +kernel), List.mem_of_getElem? (i := 337) (by decide +kernel), List.mem_of_getElem? (i := 338) (by decide +kernel)⟩
theorem lw_p14 : lw_okq (⟨"SlotMapsModel", "notes", "()V"⟩, 8) := ⟨⟨by decide +kernel, by decide +kernel⟩, List.mem_of_getElem? (i := 435) (by decide +kernel), List.mem_of_getElem? (i := 470) (by decide +kernel), List.mem_of_getElem? (i := 471) (by decide +kernel)⟩
theorem lw_p15 : lw_okq (⟨"SlotMapsModel", "takes1", "()I"⟩, 8) := ⟨⟨by decide +kernel, by decide +kernel⟩, List.mem_of_getElem? (i := 435) (by decide +kernel), List.mem_of_getElem? (i := 477) (by decide +kernel), List.mem_of_getElem? (i := 478) (by decide +kernel)⟩
def lw_privs_1 : List (MethodName × Nat) := [(⟨"SlotMaps$History", "behindLatest", "()I"⟩, 3), (⟨"SlotMaps$Slots", "takeBySummaries", "()I"⟩, 5), (⟨"SlotMaps$Slots", "change", "(IIII)V"⟩, 5), (⟨"SlotMaps", "settle", "(I)I"⟩, 6), (⟨"SlotMaps$Slots", "isFree", "(I)Z"⟩, 5), (⟨"SlotMaps$Slots", "ownedBits", "(I)I"⟩, 5), (⟨"SlotMaps$Slots", "blockBits", "(I)I"⟩, 5), (⟨"SlotMaps$Slots", "firstUnusedBlock", "()I"⟩, 5), (⟨"SlotMaps$Program", "readCharacter", "(CI)Z"⟩, 6), (⟨"SlotMaps$Program", "readLetter", "(CI)Z"⟩, 6), (⟨"SlotMaps$Program", "readDigit", "(I)Z"⟩, 6), (⟨"SlotMaps$Program", "readDash", "()Z"⟩, 6), (⟨"SlotMaps$Program", "mayEnd", "()Z"⟩, 6), (⟨"SlotMaps$Program", "perform", "(LSlotMaps$Slots;)I"⟩, 6), (⟨"SlotMapsModel", "notes", "()V"⟩, 8), (⟨"SlotMapsModel", "takes1", "()I"⟩, 8)]
theorem lw_r1 : ∀ q ∈ lw_privs_1, lw_okq q := List.forall_mem_cons.mpr ⟨lw_p0, List.forall_mem_cons.mpr ⟨lw_p1, List.forall_mem_cons.mpr ⟨lw_p2, List.forall_mem_cons.mpr ⟨lw_p3, List.forall_mem_cons.mpr ⟨lw_p4, List.forall_mem_cons.mpr ⟨lw_p5, List.forall_mem_cons.mpr ⟨lw_p6, List.forall_mem_cons.mpr ⟨lw_p7, List.forall_mem_cons.mpr ⟨lw_p8, List.forall_mem_cons.mpr ⟨lw_p9, List.forall_mem_cons.mpr ⟨lw_p10, List.forall_mem_cons.mpr ⟨lw_p11, List.forall_mem_cons.mpr ⟨lw_p12, List.forall_mem_cons.mpr ⟨lw_p13, List.forall_mem_cons.mpr ⟨lw_p14, List.forall_mem_cons.mpr ⟨lw_p15, fun _ h => absurd h List.not_mem_nil⟩⟩⟩⟩⟩⟩⟩⟩⟩⟩⟩⟩⟩⟩⟩⟩
theorem lw_p16 : lw_okq (⟨"SlotMapsModel", "goesThrough", "()I"⟩, 8) := ⟨⟨by decide +kernel, by decide +kernel⟩, List.mem_of_getElem? (i := 435) (by decide +kernel), List.mem_of_getElem? (i := 481) (by decide +kernel), List.mem_of_getElem? (i := 482) (by decide +kernel)⟩
theorem lw_p17 : lw_okq (⟨"SlotMapsModel", "firstIn", "(I)I"⟩, 8) := ⟨⟨by decide +kernel, by decide +kernel⟩, List.mem_of_getElem? (i := 435) (by decide +kernel), List.mem_of_getElem? (i := 485) (by decide +kernel), List.mem_of_getElem? (i := 486) (by decide +kernel)⟩
theorem lw_p18 : lw_okq (⟨"SlotMapsModel", "becomes", "(II)V"⟩, 8) := ⟨⟨by decide +kernel, by decide +kernel⟩, List.mem_of_getElem? (i := 435) (by decide +kernel), List.mem_of_getElem? (i := 489) (by decide +kernel), List.mem_of_getElem? (i := 490) (by decide +kernel)⟩
theorem lw_p19 : lw_okq (⟨"SlotMapsModel", "right", "(I)I"⟩, 8) := ⟨⟨by decide +kernel, by decide +kernel⟩, List.mem_of_getElem? (i := 435) (by decide +kernel), List.mem_of_getElem? (i := 493) (by decide +kernel), List.mem_of_getElem? (i := 494) (by decide +kernel)⟩
theorem lw_p20 : lw_okq (⟨"SlotMapsModel", "inWord", "(II)I"⟩, 8) := ⟨⟨by decide +kernel, by decide +kernel⟩, List.mem_of_getElem? (i := 435) (by decide +kernel), List.mem_of_getElem? (i := 497) (by decide +kernel), List.mem_of_getElem? (i := 498) (by decide +kernel)⟩
theorem lw_p21 : lw_okq (⟨"SlotMapsModel", "clears", "(I)I"⟩, 8) := ⟨⟨by decide +kernel, by decide +kernel⟩, List.mem_of_getElem? (i := 435) (by decide +kernel), List.mem_of_getElem? (i := 501) (by decide +kernel), List.mem_of_getElem? (i := 502) (by decide +kernel)⟩
theorem lw_p22 : lw_okq (⟨"SlotMapsModel", "ends", "(I)I"⟩, 8) := ⟨⟨by decide +kernel, by decide +kernel⟩, List.mem_of_getElem? (i := 435) (by decide +kernel), List.mem_of_getElem? (i := 505) (by decide +kernel), List.mem_of_getElem? (i := 506) (by decide +kernel)⟩
theorem lw_p23 : lw_okq (⟨"SlotMapsModel", "runFrom", "(I)I"⟩, 8) := ⟨⟨by decide +kernel, by decide +kernel⟩, List.mem_of_getElem? (i := 435) (by decide +kernel), List.mem_of_getElem? (i := 516) (by decide +kernel), List.mem_of_getElem? (i := 517) (by decide +kernel)⟩
theorem lw_p24 : lw_okq (⟨"SlotMapsModel", "givesBack", "(II)I"⟩, 8) := ⟨⟨by decide +kernel, by decide +kernel⟩, List.mem_of_getElem? (i := 435) (by decide +kernel), List.mem_of_getElem? (i := 524) (by decide +kernel), List.mem_of_getElem? (i := 525) (by decide +kernel)⟩
theorem lw_p25 : lw_okq (⟨"SlotMapsModel", "clearsSome", "(I)I"⟩, 8) := ⟨⟨by decide +kernel, by decide +kernel⟩, List.mem_of_getElem? (i := 435) (by decide +kernel), List.mem_of_getElem? (i := 532) (by decide +kernel), List.mem_of_getElem? (i := 533) (by decide +kernel)⟩
theorem lw_p26 : lw_okq (⟨"SlotMapsModel", "reserves", "(I)I"⟩, 8) := ⟨⟨by decide +kernel, by decide +kernel⟩, List.mem_of_getElem? (i := 435) (by decide +kernel), List.mem_of_getElem? (i := 540) (by decide +kernel), List.mem_of_getElem? (i := 541) (by decide +kernel)⟩
theorem lw_p27 : lw_okq (⟨"SlotMapsModel", "isBlock", "(I)Z"⟩, 8) := ⟨⟨by decide +kernel, by decide +kernel⟩, List.mem_of_getElem? (i := 435) (by decide +kernel), List.mem_of_getElem? (i := 547) (by decide +kernel), List.mem_of_getElem? (i := 548) (by decide +kernel)⟩
theorem lw_p28 : lw_okq (⟨"SlotMapsModel", "placeOf", "(I)I"⟩, 8) := ⟨⟨by decide +kernel, by decide +kernel⟩, List.mem_of_getElem? (i := 435) (by decide +kernel), List.mem_of_getElem? (i := 551) (by decide +kernel), List.mem_of_getElem? (i := 552) (by decide +kernel)⟩
theorem lw_p29 : lw_okq (⟨"SlotMapsModel", "takesIn", "(I)I"⟩, 8) := ⟨⟨by decide +kernel, by decide +kernel⟩, List.mem_of_getElem? (i := 435) (by decide +kernel), List.mem_of_getElem? (i := 559) (by decide +kernel), List.mem_of_getElem? (i := 560) (by decide +kernel)⟩
theorem lw_p30 : lw_okq (⟨"SlotMapsModel", "damages", "(I)I"⟩, 8) := ⟨⟨by decide +kernel, by decide +kernel⟩, List.mem_of_getElem? (i := 435) (by decide +kernel), List.mem_of_getElem? (i := 571) (by decide +kernel), List.mem_of_getElem? (i := 572) (by decide +kernel)⟩
theorem lw_p31 : lw_okq (⟨"SlotMapsModel", "repairs", "()I"⟩, 8) := ⟨⟨by decide +kernel, by decide +kernel⟩, List.mem_of_getElem? (i := 435) (by decide +kernel), List.mem_of_getElem? (i := 582) (by decide +kernel), List.mem_of_getElem? (i := 583) (by decide +kernel)⟩
def lw_privs_2 : List (MethodName × Nat) := [(⟨"SlotMapsModel", "goesThrough", "()I"⟩, 8), (⟨"SlotMapsModel", "firstIn", "(I)I"⟩, 8), (⟨"SlotMapsModel", "becomes", "(II)V"⟩, 8), (⟨"SlotMapsModel", "right", "(I)I"⟩, 8), (⟨"SlotMapsModel", "inWord", "(II)I"⟩, 8), (⟨"SlotMapsModel", "clears", "(I)I"⟩, 8), (⟨"SlotMapsModel", "ends", "(I)I"⟩, 8), (⟨"SlotMapsModel", "runFrom", "(I)I"⟩, 8), (⟨"SlotMapsModel", "givesBack", "(II)I"⟩, 8), (⟨"SlotMapsModel", "clearsSome", "(I)I"⟩, 8), (⟨"SlotMapsModel", "reserves", "(I)I"⟩, 8), (⟨"SlotMapsModel", "isBlock", "(I)Z"⟩, 8), (⟨"SlotMapsModel", "placeOf", "(I)I"⟩, 8), (⟨"SlotMapsModel", "takesIn", "(I)I"⟩, 8), (⟨"SlotMapsModel", "damages", "(I)I"⟩, 8), (⟨"SlotMapsModel", "repairs", "()I"⟩, 8)]
theorem lw_r2 : ∀ q ∈ lw_privs_2, lw_okq q := List.forall_mem_cons.mpr ⟨lw_p16, List.forall_mem_cons.mpr ⟨lw_p17, List.forall_mem_cons.mpr ⟨lw_p18, List.forall_mem_cons.mpr ⟨lw_p19, List.forall_mem_cons.mpr ⟨lw_p20, List.forall_mem_cons.mpr ⟨lw_p21, List.forall_mem_cons.mpr ⟨lw_p22, List.forall_mem_cons.mpr ⟨lw_p23, List.forall_mem_cons.mpr ⟨lw_p24, List.forall_mem_cons.mpr ⟨lw_p25, List.forall_mem_cons.mpr ⟨lw_p26, List.forall_mem_cons.mpr ⟨lw_p27, List.forall_mem_cons.mpr ⟨lw_p28, List.forall_mem_cons.mpr ⟨lw_p29, List.forall_mem_cons.mpr ⟨lw_p30, List.forall_mem_cons.mpr ⟨lw_p31, fun _ h => absurd h List.not_mem_nil⟩⟩⟩⟩⟩⟩⟩⟩⟩⟩⟩⟩⟩⟩⟩⟩
theorem lw_p32 : lw_okq (⟨"SlotMapsModel", "runsOne", "()Z"⟩, 8) := ⟨⟨by decide +kernel, by decide +kernel⟩, List.mem_of_getElem? (i := 435) (by decide +kernel), List.mem_of_getElem? (i := 602) (by decide +kernel), List.mem_of_getElem? (i := 603) (by decide +kernel)⟩
theorem lw_p33 : lw_okq (⟨"SlotMapsModel", "signAt", "(I)I"⟩, 8) := ⟨⟨by decide +kernel, by decide +kernel⟩, List.mem_of_getElem? (i := 435) (by decide +kernel), List.mem_of_getElem? (i := 606) (by decide +kernel), List.mem_of_getElem? (i := 607) (by decide +kernel)⟩
theorem lw_p34 : lw_okq (⟨"SlotMapsModel", "isDigit", "()Z"⟩, 8) := ⟨⟨by decide +kernel, by decide +kernel⟩, List.mem_of_getElem? (i := 435) (by decide +kernel), List.mem_of_getElem? (i := 613) (by decide +kernel), List.mem_of_getElem? (i := 614) (by decide +kernel)⟩
theorem lw_p35 : lw_okq (⟨"SlotMapsModel", "number", "()I"⟩, 8) := ⟨⟨by decide +kernel, by decide +kernel⟩, List.mem_of_getElem? (i := 435) (by decide +kernel), List.mem_of_getElem? (i := 617) (by decide +kernel), List.mem_of_getElem? (i := 618) (by decide +kernel)⟩
theorem lw_p36 : lw_okq (⟨"SlotMapsModel", "does", "(III)I"⟩, 8) := ⟨⟨by decide +kernel, by decide +kernel⟩, List.mem_of_getElem? (i := 435) (by decide +kernel), List.mem_of_getElem? (i := 621) (by decide +kernel), List.mem_of_getElem? (i := 622) (by decide +kernel)⟩
theorem lw_p37 : lw_okq (⟨"SlotMapsModel", "takesMany", "(I)I"⟩, 8) := ⟨⟨by decide +kernel, by decide +kernel⟩, List.mem_of_getElem? (i := 435) (by decide +kernel), List.mem_of_getElem? (i := 625) (by decide +kernel), List.mem_of_getElem? (i := 626) (by decide +kernel)⟩
theorem lw_p38 : lw_okq (⟨"SlotMapsModel", "inAll", "(I)I"⟩, 8) := ⟨⟨by decide +kernel, by decide +kernel⟩, List.mem_of_getElem? (i := 435) (by decide +kernel), List.mem_of_getElem? (i := 633) (by decide +kernel), List.mem_of_getElem? (i := 634) (by decide +kernel)⟩
theorem lw_p39 : lw_okq (⟨"SlotMapsModel", "blocks", "()I"⟩, 8) := ⟨⟨by decide +kernel, by decide +kernel⟩, List.mem_of_getElem? (i := 435) (by decide +kernel), List.mem_of_getElem? (i := 637) (by decide +kernel), List.mem_of_getElem? (i := 638) (by decide +kernel)⟩
theorem lw_p40 : lw_okq (⟨"SlotMapsModel", "bits", "()I"⟩, 8) := ⟨⟨by decide +kernel, by decide +kernel⟩, List.mem_of_getElem? (i := 435) (by decide +kernel), List.mem_of_getElem? (i := 641) (by decide +kernel), List.mem_of_getElem? (i := 642) (by decide +kernel)⟩
theorem lw_p41 : lw_okq (⟨"SlotMapsModel", "full", "()I"⟩, 8) := ⟨⟨by decide +kernel, by decide +kernel⟩, List.mem_of_getElem? (i := 435) (by decide +kernel), List.mem_of_getElem? (i := 645) (by decide +kernel), List.mem_of_getElem? (i := 646) (by decide +kernel)⟩
theorem lw_p42 : lw_okq (⟨"SlotMapsModel", "runs", "(Z)I"⟩, 8) := ⟨⟨by decide +kernel, by decide +kernel⟩, List.mem_of_getElem? (i := 435) (by decide +kernel), List.mem_of_getElem? (i := 649) (by decide +kernel), List.mem_of_getElem? (i := 650) (by decide +kernel)⟩
def lw_privs_3 : List (MethodName × Nat) := [(⟨"SlotMapsModel", "runsOne", "()Z"⟩, 8), (⟨"SlotMapsModel", "signAt", "(I)I"⟩, 8), (⟨"SlotMapsModel", "isDigit", "()Z"⟩, 8), (⟨"SlotMapsModel", "number", "()I"⟩, 8), (⟨"SlotMapsModel", "does", "(III)I"⟩, 8), (⟨"SlotMapsModel", "takesMany", "(I)I"⟩, 8), (⟨"SlotMapsModel", "inAll", "(I)I"⟩, 8), (⟨"SlotMapsModel", "blocks", "()I"⟩, 8), (⟨"SlotMapsModel", "bits", "()I"⟩, 8), (⟨"SlotMapsModel", "full", "()I"⟩, 8), (⟨"SlotMapsModel", "runs", "(Z)I"⟩, 8)]
theorem lw_r3 : ∀ q ∈ lw_privs_3, lw_okq q := List.forall_mem_cons.mpr ⟨lw_p32, List.forall_mem_cons.mpr ⟨lw_p33, List.forall_mem_cons.mpr ⟨lw_p34, List.forall_mem_cons.mpr ⟨lw_p35, List.forall_mem_cons.mpr ⟨lw_p36, List.forall_mem_cons.mpr ⟨lw_p37, List.forall_mem_cons.mpr ⟨lw_p38, List.forall_mem_cons.mpr ⟨lw_p39, List.forall_mem_cons.mpr ⟨lw_p40, List.forall_mem_cons.mpr ⟨lw_p41, List.forall_mem_cons.mpr ⟨lw_p42, fun _ h => absurd h List.not_mem_nil⟩⟩⟩⟩⟩⟩⟩⟩⟩⟩⟩
def lw_privs : List (MethodName × Nat) := lw_privs_1 ++ (lw_privs_2 ++ (lw_privs_3))
def lw_tbl : List Cond := k2_sels lw_privs ++ tables_1
theorem lw_privs_ok : ∀ q ∈ lw_privs, lw_okq q := by
  show ∀ q ∈ lw_privs_1 ++ (lw_privs_2 ++ (lw_privs_3)), lw_okq q
  exact List.forall_mem_append.mpr ⟨lw_r1, List.forall_mem_append.mpr ⟨lw_r2, lw_r3⟩⟩
-- ===== end of PART A; then your names; then what follows =====
end
section
/-! ===== BEGIN words of one list among another's, by their places ===== -/
theorem goodIn_r {big : List Cond} (ws : List Cond) (ps : List Nat) (hp : ws = ps.filterMap (fun i => big[i]?)) (h : ws.all goodWord = true) : GoodIn big ws := by
  intro w hw
  have h1 := List.all_eq_true.mp h w hw
  rw [hp] at hw
  obtain ⟨i, -, hi⟩ := List.mem_filterMap.mp hw
  have hm : w ∈ big := by first | exact List.mem_of_getElem? hi | exact List.getElem?_mem hi
  exact ⟨hm, good_of_word h1⟩
theorem goodIn_app {big a b : List Cond} (ha : GoodIn big a) (hb : GoodIn big b) : GoodIn big (a ++ b) := fun w h => (List.mem_append.mp h).elim (ha w) (hb w)
theorem goodIn_ca {big a b : List Cond} {c : Cond} (ha : GoodIn big (c :: a)) (hb : GoodIn big b) : GoodIn big (c :: (a ++ b)) := fun w h => (List.mem_cons.mp h).elim (fun e => ha w (List.mem_cons.mpr (Or.inl e))) (fun h => (List.mem_append.mp h).elim (fun h => ha w (List.mem_cons.mpr (Or.inr h))) (hb w))
theorem goodIn_sub {big ws : List Cond} (hm : ∀ w ∈ ws, w ∈ big) (h : ws.all goodWord = true) : GoodIn big ws := fun w hw => ⟨hm w hw, good_of_word (List.all_eq_true.mp h w hw)⟩
/-! ===== END ===== -/

/-! ===== BEGIN printed: names, fields, word lists, decode rows ===== -/
def RX0 : String := "SlotMaps$History"
def TX0 : u_T := fun k => match k with
  | 0 => ("SlotMaps$History", "ring", "[LSlotMaps$Slots;", true)
  | 1 => ("SlotMaps$History", "oldest", "I", false)
  | _ => ("SlotMaps$History", "states", "I", false)
def tyX0 : Nat → FieldType := fun k => match k with
  | 0 => .array (.object "SlotMaps$Slots")
  | 1 => .int
  | _ => .int
abbrev wsX00 : List Cond := u_ws RX0 TX0 3
theorem nmX0 : ∀ a, a < 3 → ∀ b, b < 3 → a ≠ b → (TX0 a).2.1 ≠ (TX0 b).2.1 := by decide +kernel
theorem tyX0_ok : ∀ k, k < 3 → parseFieldDescriptor (TX0 k).2.2.1 = some (tyX0 k) := by decide +kernel
abbrev cX0_init : ByteArray := prog_2_method_1_code
def yX0_init : MethodName := ⟨RX0, "<init>", "()V"⟩
abbrev cX0_prepare : ByteArray := prog_2_method_2_code
def yX0_prepare : MethodName := ⟨RX0, "prepare", "(LSlotMaps$Slots;)V"⟩
abbrev cX0_takeBack : ByteArray := prog_2_method_3_code
def yX0_takeBack : MethodName := ⟨RX0, "takeBack", "(LSlotMaps$Slots;)V"⟩
abbrev cX0_keep : ByteArray := prog_2_method_4_code
def yX0_keep : MethodName := ⟨RX0, "keep", "()V"⟩
abbrev cX0_restoreLatest : ByteArray := prog_2_method_5_code
def yX0_restoreLatest : MethodName := ⟨RX0, "restoreLatest", "(LSlotMaps$Slots;)I"⟩
abbrev cX0_behindLatest : ByteArray := prog_2_method_6_code
def yX0_behindLatest : MethodName := ⟨RX0, "behindLatest", "()I"⟩
def RX1 : String := "SlotMaps$Program"
def TX1 : u_T := fun k => match k with
  | 0 => ("SlotMaps$Program", "letter", "C", false)
  | 1 => ("SlotMaps$Program", "letterPlace", "I", false)
  | 2 => ("SlotMaps$Program", "hasFrom", "Z", false)
  | 3 => ("SlotMaps$Program", "from", "I", false)
  | 4 => ("SlotMaps$Program", "number", "I", false)
  | _ => ("SlotMaps$Program", "digits", "I", false)
def tyX1 : Nat → FieldType := fun k => match k with
  | 0 => .char
  | 1 => .int
  | 2 => .boolean
  | 3 => .int
  | 4 => .int
  | _ => .int
abbrev wsX10 : List Cond := u_ws RX1 TX1 6
theorem nmX1 : ∀ a, a < 6 → ∀ b, b < 6 → a ≠ b → (TX1 a).2.1 ≠ (TX1 b).2.1 := by decide +kernel
theorem tyX1_ok : ∀ k, k < 6 → parseFieldDescriptor (TX1 k).2.2.1 = some (tyX1 k) := by decide +kernel
abbrev cX1_init : ByteArray := prog_3_method_1_code
def yX1_init : MethodName := ⟨RX1, "<init>", "()V"⟩
abbrev cX1_execute : ByteArray := prog_3_method_2_code
def yX1_execute : MethodName := ⟨RX1, "execute", "([CILSlotMaps$Slots;)I"⟩
abbrev cX1_readCharacter : ByteArray := prog_3_method_3_code
def yX1_readCharacter : MethodName := ⟨RX1, "readCharacter", "(CI)Z"⟩
abbrev cX1_readLetter : ByteArray := prog_3_method_4_code
def yX1_readLetter : MethodName := ⟨RX1, "readLetter", "(CI)Z"⟩
abbrev cX1_readDigit : ByteArray := prog_3_method_5_code
def yX1_readDigit : MethodName := ⟨RX1, "readDigit", "(I)Z"⟩
abbrev cX1_readDash : ByteArray := prog_3_method_6_code
def yX1_readDash : MethodName := ⟨RX1, "readDash", "()Z"⟩
abbrev cX1_mayEnd : ByteArray := prog_3_method_7_code
def yX1_mayEnd : MethodName := ⟨RX1, "mayEnd", "()Z"⟩
abbrev cX1_perform : ByteArray := prog_3_method_8_code
def yX1_perform : MethodName := ⟨RX1, "perform", "(LSlotMaps$Slots;)I"⟩
def RX2 : String := "SlotMaps$Slots"
def TX2 : u_T := fun k => match k with
  | 0 => ("SlotMaps$Slots", "bits", "[[I", true)
  | 1 => ("SlotMaps$Slots", "blockFirst", "[I", true)
  | 2 => ("SlotMaps$Slots", "blockSize", "[I", true)
  | 3 => ("SlotMaps$Slots", "summary", "I", false)
  | _ => ("SlotMaps$Slots", "looks", "I", false)
def tyX2 : Nat → FieldType := fun k => match k with
  | 0 => .array (.array .int)
  | 1 => .array .int
  | 2 => .array .int
  | 3 => .int
  | _ => .int
abbrev wsX20 : List Cond := u_ws RX2 TX2 5
theorem nmX2 : ∀ a, a < 5 → ∀ b, b < 5 → a ≠ b → (TX2 a).2.1 ≠ (TX2 b).2.1 := by decide +kernel
theorem tyX2_ok : ∀ k, k < 5 → parseFieldDescriptor (TX2 k).2.2.1 = some (tyX2 k) := by decide +kernel
abbrev cX2_init : ByteArray := prog_4_method_1_code
def yX2_init : MethodName := ⟨RX2, "<init>", "()V"⟩
abbrev cX2_copyFrom : ByteArray := prog_4_method_2_code
def yX2_copyFrom : MethodName := ⟨RX2, "copyFrom", "(LSlotMaps$Slots;)V"⟩
abbrev cX2_takeOne : ByteArray := prog_4_method_3_code
def yX2_takeOne : MethodName := ⟨RX2, "takeOne", "()I"⟩
abbrev cX2_takeBySummaries : ByteArray := prog_4_method_4_code
def yX2_takeBySummaries : MethodName := ⟨RX2, "takeBySummaries", "()I"⟩
abbrev cX2_takeMany : ByteArray := prog_4_method_5_code
def yX2_takeMany : MethodName := ⟨RX2, "takeMany", "(I)I"⟩
abbrev cX2_takeSideBySide : ByteArray := prog_4_method_6_code
def yX2_takeSideBySide : MethodName := ⟨RX2, "takeSideBySide", "(I)I"⟩
abbrev cX2_giveBackRange : ByteArray := prog_4_method_7_code
def yX2_giveBackRange : MethodName := ⟨RX2, "giveBackRange", "(II)I"⟩
abbrev cX2_clearWords : ByteArray := prog_4_method_8_code
def yX2_clearWords : MethodName := ⟨RX2, "clearWords", "(I)I"⟩
abbrev cX2_reserveBlock : ByteArray := prog_4_method_9_code
def yX2_reserveBlock : MethodName := ⟨RX2, "reserveBlock", "(I)I"⟩
abbrev cX2_takeInBlock : ByteArray := prog_4_method_10_code
def yX2_takeInBlock : MethodName := ⟨RX2, "takeInBlock", "(I)I"⟩
abbrev cX2_giveUpBlock : ByteArray := prog_4_method_11_code
def yX2_giveUpBlock : MethodName := ⟨RX2, "giveUpBlock", "(I)I"⟩
abbrev cX2_damageBit : ByteArray := prog_4_method_12_code
def yX2_damageBit : MethodName := ⟨RX2, "damageBit", "(I)I"⟩
abbrev cX2_repairBits : ByteArray := prog_4_method_13_code
def yX2_repairBits : MethodName := ⟨RX2, "repairBits", "()I"⟩
abbrev cX2_change : ByteArray := prog_4_method_14_code
def yX2_change : MethodName := ⟨RX2, "change", "(IIII)V"⟩
abbrev cX2_total : ByteArray := prog_4_method_15_code
def yX2_total : MethodName := ⟨RX2, "total", "(I)I"⟩
abbrev cX2_kindOf : ByteArray := prog_4_method_16_code
def yX2_kindOf : MethodName := ⟨RX2, "kindOf", "(I)I"⟩
abbrev cX2_isFree : ByteArray := prog_4_method_17_code
def yX2_isFree : MethodName := ⟨RX2, "isFree", "(I)Z"⟩
abbrev cX2_isFull : ByteArray := prog_4_method_18_code
def yX2_isFull : MethodName := ⟨RX2, "isFull", "(I)Z"⟩
abbrev cX2_firstFree : ByteArray := prog_4_method_19_code
def yX2_firstFree : MethodName := ⟨RX2, "firstFree", "(I)I"⟩
abbrev cX2_summaryBit : ByteArray := prog_4_method_20_code
def yX2_summaryBit : MethodName := ⟨RX2, "summaryBit", "(I)I"⟩
abbrev cX2_rightSummary : ByteArray := prog_4_method_21_code
def yX2_rightSummary : MethodName := ⟨RX2, "rightSummary", "()I"⟩
abbrev cX2_runStart : ByteArray := prog_4_method_22_code
def yX2_runStart : MethodName := ⟨RX2, "runStart", "(I)I"⟩
abbrev cX2_freeRuns : ByteArray := prog_4_method_23_code
def yX2_freeRuns : MethodName := ⟨RX2, "freeRuns", "()I"⟩
abbrev cX2_longestFreeRun : ByteArray := prog_4_method_24_code
def yX2_longestFreeRun : MethodName := ⟨RX2, "longestFreeRun", "()I"⟩
abbrev cX2_reachable : ByteArray := prog_4_method_25_code
def yX2_reachable : MethodName := ⟨RX2, "reachable", "()I"⟩
abbrev cX2_hasBlock : ByteArray := prog_4_method_26_code
def yX2_hasBlock : MethodName := ⟨RX2, "hasBlock", "(I)Z"⟩
abbrev cX2_blockTotal : ByteArray := prog_4_method_27_code
def yX2_blockTotal : MethodName := ⟨RX2, "blockTotal", "()I"⟩
abbrev cX2_firstUnusedBlock : ByteArray := prog_4_method_28_code
def yX2_firstUnusedBlock : MethodName := ⟨RX2, "firstUnusedBlock", "()I"⟩
abbrev cX2_placeStart : ByteArray := prog_4_method_29_code
def yX2_placeStart : MethodName := ⟨RX2, "placeStart", "(I)I"⟩
abbrev cX2_blockOf : ByteArray := prog_4_method_30_code
def yX2_blockOf : MethodName := ⟨RX2, "blockOf", "(I)I"⟩
abbrev cX2_totalInBlock : ByteArray := prog_4_method_31_code
def yX2_totalInBlock : MethodName := ⟨RX2, "totalInBlock", "(II)I"⟩
abbrev cX2_blockBits : ByteArray := prog_4_method_32_code
def yX2_blockBits : MethodName := ⟨RX2, "blockBits", "(I)I"⟩
abbrev cX2_ownedBits : ByteArray := prog_4_method_33_code
def yX2_ownedBits : MethodName := ⟨RX2, "ownedBits", "(I)I"⟩
def RX3 : String := "SlotMaps"
def TX3 : u_T := fun k => match k with
  | 0 => ("SlotMaps", "now", "LSlotMaps$Slots;", true)
  | 1 => ("SlotMaps", "trial", "LSlotMaps$Slots;", true)
  | 2 => ("SlotMaps", "history", "LSlotMaps$History;", true)
  | 3 => ("SlotMaps", "program", "LSlotMaps$Program;", true)
  | 4 => ("SlotMaps", "text", "[C", true)
  | _ => ("SlotMaps", "textLength", "I", false)
def tyX3 : Nat → FieldType := fun k => match k with
  | 0 => .object "SlotMaps$Slots"
  | 1 => .object "SlotMaps$Slots"
  | 2 => .object "SlotMaps$History"
  | 3 => .object "SlotMaps$Program"
  | 4 => .array .char
  | _ => .int
abbrev wsX30 : List Cond := u_ws RX3 TX3 6
theorem nmX3 : ∀ a, a < 6 → ∀ b, b < 6 → a ≠ b → (TX3 a).2.1 ≠ (TX3 b).2.1 := by decide +kernel
theorem tyX3_ok : ∀ k, k < 6 → parseFieldDescriptor (TX3 k).2.2.1 = some (tyX3 k) := by decide +kernel
abbrev cX3_init : ByteArray := prog_1_method_1_code
def yX3_init : MethodName := ⟨RX3, "<init>", "()V"⟩
abbrev cX3_take : ByteArray := prog_1_method_2_code
def yX3_take : MethodName := ⟨RX3, "take", "()I"⟩
abbrev cX3_takeRun : ByteArray := prog_1_method_3_code
def yX3_takeRun : MethodName := ⟨RX3, "takeRun", "(I)I"⟩
abbrev cX3_giveBack : ByteArray := prog_1_method_4_code
def yX3_giveBack : MethodName := ⟨RX3, "giveBack", "(II)I"⟩
abbrev cX3_clear : ByteArray := prog_1_method_5_code
def yX3_clear : MethodName := ⟨RX3, "clear", "(I)I"⟩
abbrev cX3_reserve : ByteArray := prog_1_method_6_code
def yX3_reserve : MethodName := ⟨RX3, "reserve", "(I)I"⟩
abbrev cX3_takeIn : ByteArray := prog_1_method_7_code
def yX3_takeIn : MethodName := ⟨RX3, "takeIn", "(I)I"⟩
abbrev cX3_giveUp : ByteArray := prog_1_method_8_code
def yX3_giveUp : MethodName := ⟨RX3, "giveUp", "(I)I"⟩
abbrev cX3_damage : ByteArray := prog_1_method_9_code
def yX3_damage : MethodName := ⟨RX3, "damage", "(I)I"⟩
abbrev cX3_repair : ByteArray := prog_1_method_10_code
def yX3_repair : MethodName := ⟨RX3, "repair", "()I"⟩
abbrev cX3_undo : ByteArray := prog_1_method_11_code
def yX3_undo : MethodName := ⟨RX3, "undo", "()I"⟩
abbrev cX3_append : ByteArray := prog_1_method_12_code
def yX3_append : MethodName := ⟨RX3, "append", "(I)I"⟩
abbrev cX3_clearText : ByteArray := prog_1_method_13_code
def yX3_clearText : MethodName := ⟨RX3, "clearText", "()I"⟩
abbrev cX3_run : ByteArray := prog_1_method_14_code
def yX3_run : MethodName := ⟨RX3, "run", "()I"⟩
abbrev cX3_count : ByteArray := prog_1_method_15_code
def yX3_count : MethodName := ⟨RX3, "count", "(I)I"⟩
abbrev cX3_slot : ByteArray := prog_1_method_16_code
def yX3_slot : MethodName := ⟨RX3, "slot", "(II)I"⟩
abbrev cX3_word : ByteArray := prog_1_method_17_code
def yX3_word : MethodName := ⟨RX3, "word", "(II)I"⟩
abbrev cX3_block : ByteArray := prog_1_method_18_code
def yX3_block : MethodName := ⟨RX3, "block", "(II)I"⟩
abbrev cX3_audit : ByteArray := prog_1_method_19_code
def yX3_audit : MethodName := ⟨RX3, "audit", "(I)I"⟩
abbrev cX3_next : ByteArray := prog_1_method_20_code
def yX3_next : MethodName := ⟨RX3, "next", "(I)I"⟩
abbrev cX3_runAt : ByteArray := prog_1_method_21_code
def yX3_runAt : MethodName := ⟨RX3, "runAt", "(I)I"⟩
abbrev cX3_placeFor : ByteArray := prog_1_method_22_code
def yX3_placeFor : MethodName := ⟨RX3, "placeFor", "(I)I"⟩
abbrev cX3_takes : ByteArray := prog_1_method_23_code
def yX3_takes : MethodName := ⟨RX3, "takes", "()I"⟩
abbrev cX3_settle : ByteArray := prog_1_method_24_code
def yX3_settle : MethodName := ⟨RX3, "settle", "(I)I"⟩
abbrev cX3_isRunLength : ByteArray := prog_1_method_25_code
def yX3_isRunLength : MethodName := ⟨RX3, "isRunLength", "(I)Z"⟩
abbrev cX3_isBlockSize : ByteArray := prog_1_method_26_code
def yX3_isBlockSize : MethodName := ⟨RX3, "isBlockSize", "(I)Z"⟩
abbrev cX3_wordOf : ByteArray := prog_1_method_27_code
def yX3_wordOf : MethodName := ⟨RX3, "wordOf", "(I)I"⟩
abbrev cX3_bitOf : ByteArray := prog_1_method_28_code
def yX3_bitOf : MethodName := ⟨RX3, "bitOf", "(I)I"⟩
abbrev cX3_lowestBit : ByteArray := prog_1_method_29_code
def yX3_lowestBit : MethodName := ⟨RX3, "lowestBit", "(I)I"⟩
abbrev cX3_rangeBits : ByteArray := prog_1_method_30_code
def yX3_rangeBits : MethodName := ⟨RX3, "rangeBits", "(III)I"⟩
def RX4 : String := "SlotMapsModel"
def TX4 : u_T := fun k => match k with
  | 0 => ("SlotMapsModel", "now", "[I", true)
  | 1 => ("SlotMapsModel", "past", "[I", true)
  | 2 => ("SlotMapsModel", "pasts", "I", false)
  | 3 => ("SlotMapsModel", "before", "[I", true)
  | 4 => ("SlotMapsModel", "trial", "[I", true)
  | 5 => ("SlotMapsModel", "text", "[I", true)
  | 6 => ("SlotMapsModel", "typed", "I", false)
  | _ => ("SlotMapsModel", "at", "I", false)
def tyX4 : Nat → FieldType := fun k => match k with
  | 0 => .array .int
  | 1 => .array .int
  | 2 => .int
  | 3 => .array .int
  | 4 => .array .int
  | 5 => .array .int
  | 6 => .int
  | _ => .int
abbrev wsX40 : List Cond := u_ws RX4 TX4 8
theorem nmX4 : ∀ a, a < 8 → ∀ b, b < 8 → a ≠ b → (TX4 a).2.1 ≠ (TX4 b).2.1 := by decide +kernel
theorem tyX4_ok : ∀ k, k < 8 → parseFieldDescriptor (TX4 k).2.2.1 = some (tyX4 k) := by decide +kernel
abbrev cX4_init : ByteArray := prog_6_method_1_code
def yX4_init : MethodName := ⟨RX4, "<init>", "()V"⟩
abbrev cX4_in : ByteArray := prog_6_method_2_code
def yX4_in : MethodName := ⟨RX4, "in", "(III)Z"⟩
abbrev cX4_copies : ByteArray := prog_6_method_3_code
def yX4_copies : MethodName := ⟨RX4, "copies", "([II[II)V"⟩
abbrev cX4_notes : ByteArray := prog_6_method_4_code
def yX4_notes : MethodName := ⟨RX4, "notes", "()V"⟩
abbrev cX4_ends : ByteArray := prog_6_method_5_code
def yX4_ends : MethodName := ⟨RX4, "ends", "(I)I"⟩
abbrev cX4_inWord : ByteArray := prog_6_method_6_code
def yX4_inWord : MethodName := ⟨RX4, "inWord", "(II)I"⟩
abbrev cX4_inAll : ByteArray := prog_6_method_7_code
def yX4_inAll : MethodName := ⟨RX4, "inAll", "(I)I"⟩
abbrev cX4_right : ByteArray := prog_6_method_8_code
def yX4_right : MethodName := ⟨RX4, "right", "(I)I"⟩
abbrev cX4_becomes : ByteArray := prog_6_method_9_code
def yX4_becomes : MethodName := ⟨RX4, "becomes", "(II)V"⟩
abbrev cX4_firstIn : ByteArray := prog_6_method_10_code
def yX4_firstIn : MethodName := ⟨RX4, "firstIn", "(I)I"⟩
abbrev cX4_goesThrough : ByteArray := prog_6_method_11_code
def yX4_goesThrough : MethodName := ⟨RX4, "goesThrough", "()I"⟩
abbrev cX4_clears : ByteArray := prog_6_method_12_code
def yX4_clears : MethodName := ⟨RX4, "clears", "(I)I"⟩
abbrev cX4_takes1 : ByteArray := prog_6_method_13_code
def yX4_takes1 : MethodName := ⟨RX4, "takes1", "()I"⟩
abbrev cX4_take : ByteArray := prog_6_method_14_code
def yX4_take : MethodName := ⟨RX4, "take", "()I"⟩
abbrev cX4_runFrom : ByteArray := prog_6_method_15_code
def yX4_runFrom : MethodName := ⟨RX4, "runFrom", "(I)I"⟩
abbrev cX4_takeRun : ByteArray := prog_6_method_16_code
def yX4_takeRun : MethodName := ⟨RX4, "takeRun", "(I)I"⟩
abbrev cX4_givesBack : ByteArray := prog_6_method_17_code
def yX4_givesBack : MethodName := ⟨RX4, "givesBack", "(II)I"⟩
abbrev cX4_giveBack : ByteArray := prog_6_method_18_code
def yX4_giveBack : MethodName := ⟨RX4, "giveBack", "(II)I"⟩
abbrev cX4_clearsSome : ByteArray := prog_6_method_19_code
def yX4_clearsSome : MethodName := ⟨RX4, "clearsSome", "(I)I"⟩
abbrev cX4_clear : ByteArray := prog_6_method_20_code
def yX4_clear : MethodName := ⟨RX4, "clear", "(I)I"⟩
abbrev cX4_isBlock : ByteArray := prog_6_method_21_code
def yX4_isBlock : MethodName := ⟨RX4, "isBlock", "(I)Z"⟩
abbrev cX4_isSize : ByteArray := prog_6_method_22_code
def yX4_isSize : MethodName := ⟨RX4, "isSize", "(I)Z"⟩
abbrev cX4_placeOf : ByteArray := prog_6_method_23_code
def yX4_placeOf : MethodName := ⟨RX4, "placeOf", "(I)I"⟩
abbrev cX4_reserves : ByteArray := prog_6_method_24_code
def yX4_reserves : MethodName := ⟨RX4, "reserves", "(I)I"⟩
abbrev cX4_reserve : ByteArray := prog_6_method_25_code
def yX4_reserve : MethodName := ⟨RX4, "reserve", "(I)I"⟩
abbrev cX4_takesIn : ByteArray := prog_6_method_26_code
def yX4_takesIn : MethodName := ⟨RX4, "takesIn", "(I)I"⟩
abbrev cX4_takeIn : ByteArray := prog_6_method_27_code
def yX4_takeIn : MethodName := ⟨RX4, "takeIn", "(I)I"⟩
abbrev cX4_giveUp : ByteArray := prog_6_method_28_code
def yX4_giveUp : MethodName := ⟨RX4, "giveUp", "(I)I"⟩
abbrev cX4_isWord : ByteArray := prog_6_method_29_code
def yX4_isWord : MethodName := ⟨RX4, "isWord", "(I)Z"⟩
abbrev cX4_damages : ByteArray := prog_6_method_30_code
def yX4_damages : MethodName := ⟨RX4, "damages", "(I)I"⟩
abbrev cX4_damage : ByteArray := prog_6_method_31_code
def yX4_damage : MethodName := ⟨RX4, "damage", "(I)I"⟩
abbrev cX4_repairs : ByteArray := prog_6_method_32_code
def yX4_repairs : MethodName := ⟨RX4, "repairs", "()I"⟩
abbrev cX4_repair : ByteArray := prog_6_method_33_code
def yX4_repair : MethodName := ⟨RX4, "repair", "()I"⟩
abbrev cX4_undo : ByteArray := prog_6_method_34_code
def yX4_undo : MethodName := ⟨RX4, "undo", "()I"⟩
abbrev cX4_append : ByteArray := prog_6_method_35_code
def yX4_append : MethodName := ⟨RX4, "append", "(I)I"⟩
abbrev cX4_clearText : ByteArray := prog_6_method_36_code
def yX4_clearText : MethodName := ⟨RX4, "clearText", "()I"⟩
abbrev cX4_signAt : ByteArray := prog_6_method_37_code
def yX4_signAt : MethodName := ⟨RX4, "signAt", "(I)I"⟩
abbrev cX4_isDigit : ByteArray := prog_6_method_38_code
def yX4_isDigit : MethodName := ⟨RX4, "isDigit", "()Z"⟩
abbrev cX4_number : ByteArray := prog_6_method_39_code
def yX4_number : MethodName := ⟨RX4, "number", "()I"⟩
abbrev cX4_takesMany : ByteArray := prog_6_method_40_code
def yX4_takesMany : MethodName := ⟨RX4, "takesMany", "(I)I"⟩
abbrev cX4_does : ByteArray := prog_6_method_41_code
def yX4_does : MethodName := ⟨RX4, "does", "(III)I"⟩
abbrev cX4_isLetter : ByteArray := prog_6_method_42_code
def yX4_isLetter : MethodName := ⟨RX4, "isLetter", "(I)Z"⟩
abbrev cX4_runsOne : ByteArray := prog_6_method_43_code
def yX4_runsOne : MethodName := ⟨RX4, "runsOne", "()Z"⟩
abbrev cX4_run : ByteArray := prog_6_method_44_code
def yX4_run : MethodName := ⟨RX4, "run", "()I"⟩
abbrev cX4_bits : ByteArray := prog_6_method_45_code
def yX4_bits : MethodName := ⟨RX4, "bits", "()I"⟩
abbrev cX4_full : ByteArray := prog_6_method_46_code
def yX4_full : MethodName := ⟨RX4, "full", "()I"⟩
abbrev cX4_runs : ByteArray := prog_6_method_47_code
def yX4_runs : MethodName := ⟨RX4, "runs", "(Z)I"⟩
abbrev cX4_blocks : ByteArray := prog_6_method_48_code
def yX4_blocks : MethodName := ⟨RX4, "blocks", "()I"⟩
abbrev cX4_count : ByteArray := prog_6_method_49_code
def yX4_count : MethodName := ⟨RX4, "count", "(I)I"⟩
abbrev cX4_slot : ByteArray := prog_6_method_50_code
def yX4_slot : MethodName := ⟨RX4, "slot", "(II)I"⟩
abbrev cX4_word : ByteArray := prog_6_method_51_code
def yX4_word : MethodName := ⟨RX4, "word", "(II)I"⟩
abbrev cX4_block : ByteArray := prog_6_method_52_code
def yX4_block : MethodName := ⟨RX4, "block", "(II)I"⟩
abbrev cX4_audit : ByteArray := prog_6_method_53_code
def yX4_audit : MethodName := ⟨RX4, "audit", "(I)I"⟩
abbrev cX4_next : ByteArray := prog_6_method_54_code
def yX4_next : MethodName := ⟨RX4, "next", "(I)I"⟩
abbrev cX4_runAt : ByteArray := prog_6_method_55_code
def yX4_runAt : MethodName := ⟨RX4, "runAt", "(I)I"⟩
abbrev cX4_placeFor : ByteArray := prog_6_method_56_code
def yX4_placeFor : MethodName := ⟨RX4, "placeFor", "(I)I"⟩
abbrev cX4_takes : ByteArray := prog_6_method_57_code
def yX4_takes : MethodName := ⟨RX4, "takes", "()I"⟩
def RJ6 : String := "java/lang/Integer"
def TJ6 : u_T := fun k => match k with
  | _ => ("", "", "", false)
def tyJ6 : Nat → FieldType := fun k => match k with
  | _ => .int
abbrev wsJ60 : List Cond := u_ws RJ6 TJ6 0
theorem nmJ6 : ∀ a, a < 0 → ∀ b, b < 0 → a ≠ b → (TJ6 a).2.1 ≠ (TJ6 b).2.1 := by decide +kernel
theorem tyJ6_ok : ∀ k, k < 0 → parseFieldDescriptor (TJ6 k).2.2.1 = some (tyJ6 k) := by decide +kernel
abbrev cJ6_bitCount_0f7a4 : ByteArray := prog_7_method_49_code
def yJ6_bitCount_0f7a4 : MethodName := ⟨RJ6, "bitCount", "(I)I"⟩
def RJ9 : String := "java/lang/Math"
def TJ9 : u_T := fun k => match k with
  | _ => ("", "", "", false)
def tyJ9 : Nat → FieldType := fun k => match k with
  | _ => .int
abbrev wsJ90 : List Cond := u_ws RJ9 TJ9 0
theorem nmJ9 : ∀ a, a < 0 → ∀ b, b < 0 → a ≠ b → (TJ9 a).2.1 ≠ (TJ9 b).2.1 := by decide +kernel
theorem tyJ9_ok : ∀ k, k < 0 → parseFieldDescriptor (TJ9 k).2.2.1 = some (tyJ9 k) := by decide +kernel
abbrev cJ9_max_7cf53 : ByteArray := prog_8_method_65_code
def yJ9_max_7cf53 : MethodName := ⟨RJ9, "max", "(II)I"⟩
abbrev cJ9_min_7cf53 : ByteArray := prog_8_method_69_code
def yJ9_min_7cf53 : MethodName := ⟨RJ9, "min", "(II)I"⟩
def RJ10 : String := "java/lang/System"
def TJ10 : u_T := fun k => match k with
  | _ => ("", "", "", false)
def tyJ10 : Nat → FieldType := fun k => match k with
  | _ => .int
abbrev wsJ100 : List Cond := u_ws RJ10 TJ10 0
theorem nmJ10 : ∀ a, a < 0 → ∀ b, b < 0 → a ≠ b → (TJ10 a).2.1 ≠ (TJ10 b).2.1 := by decide +kernel
theorem tyJ10_ok : ∀ k, k < 0 → parseFieldDescriptor (TJ10 k).2.2.1 = some (tyJ10 k) := by decide +kernel
def RL : String := "SlotMapsLaw"
abbrev cL_law : ByteArray := code
def yL_law : MethodName := ⟨RL, "law", "([I)Z"⟩
def wsX2_init : List Cond := .code yX2_init cX2_init 2 none :: ([.methodLink RX2 3 objectInit, .instanceMethod objectInit, .code objectInit ⟨#[0xb1]⟩ 1 none, .classLink RX2 9 "[[I", .arrayClass .int, .fieldLink RX2 11 "SlotMaps$Slots" "bits" "[[I", .fieldLink RX2 16 "SlotMaps$Slots" "blockFirst" "[I", .fieldLink RX2 20 "SlotMaps$Slots" "blockSize" "[I", .fieldLink RX2 23 "SlotMaps$Slots" "summary" "I", .fieldLink RX2 27 "SlotMaps$Slots" "looks" "I"] ++ wsX20)
def wsX0_init : List Cond := .code yX0_init cX0_init 2 none :: ([.methodLink RX0 3 objectInit, .instanceMethod objectInit, .code objectInit ⟨#[0xb1]⟩ 1 none, .classLink RX0 9 RX2, .fieldLink RX0 11 "SlotMaps$History" "ring" "[LSlotMaps$Slots;", .instantiable RX2 5, .initialized RX2, .fieldLink RX0 18 "SlotMaps$History" "oldest" "I", .fieldLink RX0 22 "SlotMaps$History" "states" "I", .methodLink RX0 17 yX2_init, .instanceMethod yX2_init, .code yX2_init cX2_init 2 none, .methodLink RX2 3 objectInit, .classLink RX2 9 "[[I", .arrayClass .int, .fieldLink RX2 11 "SlotMaps$Slots" "bits" "[[I", .fieldLink RX2 16 "SlotMaps$Slots" "blockFirst" "[I", .fieldLink RX2 20 "SlotMaps$Slots" "blockSize" "[I", .fieldLink RX2 23 "SlotMaps$Slots" "summary" "I", .fieldLink RX2 27 "SlotMaps$Slots" "looks" "I"] ++ wsX00 ++ wsX20)
def wsX0_behindLatest : List Cond := .code yX0_behindLatest cX0_behindLatest 1 (some .int) :: ([.fieldLink RX0 18 "SlotMaps$History" "oldest" "I", .fieldLink RX0 22 "SlotMaps$History" "states" "I"] ++ wsX00)
def wsX2_copyFrom : List Cond := .code yX2_copyFrom cX2_copyFrom 3 none :: ([.fieldLink RX2 11 "SlotMaps$Slots" "bits" "[[I", .methodLink RX2 30 arraycopyName, .native arraycopyName, .static arraycopyName, .initialized "java/lang/System", .fieldLink RX2 16 "SlotMaps$Slots" "blockFirst" "[I", .fieldLink RX2 20 "SlotMaps$Slots" "blockSize" "[I", .fieldLink RX2 23 "SlotMaps$Slots" "summary" "I", .fieldLink RX2 27 "SlotMaps$Slots" "looks" "I"] ++ wsX20)
def wsX0_prepare : List Cond := .code yX0_prepare cX0_prepare 2 none :: ([.fieldLink RX0 11 "SlotMaps$History" "ring" "[LSlotMaps$Slots;", .methodLink RX0 25 yX0_behindLatest, .instanceMethod yX0_behindLatest, .selects RX0 yX0_behindLatest yX0_behindLatest, .initialized RX0, .code yX0_behindLatest cX0_behindLatest 1 (some .int), .fieldLink RX0 18 "SlotMaps$History" "oldest" "I", .fieldLink RX0 22 "SlotMaps$History" "states" "I", .methodLink RX0 29 yX2_copyFrom, .instanceMethod yX2_copyFrom, .selects RX2 yX2_copyFrom yX2_copyFrom, .initialized RX2, .code yX2_copyFrom cX2_copyFrom 3 none, .fieldLink RX2 11 "SlotMaps$Slots" "bits" "[[I", .methodLink RX2 30 arraycopyName, .native arraycopyName, .static arraycopyName, .initialized "java/lang/System", .fieldLink RX2 16 "SlotMaps$Slots" "blockFirst" "[I", .fieldLink RX2 20 "SlotMaps$Slots" "blockSize" "[I", .fieldLink RX2 23 "SlotMaps$Slots" "summary" "I", .fieldLink RX2 27 "SlotMaps$Slots" "looks" "I"] ++ wsX00 ++ wsX20)
def wsX0_takeBack : List Cond := .code yX0_takeBack cX0_takeBack 2 none :: ([.fieldLink RX0 11 "SlotMaps$History" "ring" "[LSlotMaps$Slots;", .methodLink RX0 25 yX0_behindLatest, .instanceMethod yX0_behindLatest, .selects RX0 yX0_behindLatest yX0_behindLatest, .initialized RX0, .code yX0_behindLatest cX0_behindLatest 1 (some .int), .fieldLink RX0 18 "SlotMaps$History" "oldest" "I", .fieldLink RX0 22 "SlotMaps$History" "states" "I", .methodLink RX0 29 yX2_copyFrom, .instanceMethod yX2_copyFrom, .selects RX2 yX2_copyFrom yX2_copyFrom, .initialized RX2, .code yX2_copyFrom cX2_copyFrom 3 none, .fieldLink RX2 11 "SlotMaps$Slots" "bits" "[[I", .methodLink RX2 30 arraycopyName, .native arraycopyName, .static arraycopyName, .initialized "java/lang/System", .fieldLink RX2 16 "SlotMaps$Slots" "blockFirst" "[I", .fieldLink RX2 20 "SlotMaps$Slots" "blockSize" "[I", .fieldLink RX2 23 "SlotMaps$Slots" "summary" "I", .fieldLink RX2 27 "SlotMaps$Slots" "looks" "I"] ++ wsX00 ++ wsX20)
def wsX0_keep : List Cond := .code yX0_keep cX0_keep 1 none :: ([.fieldLink RX0 22 "SlotMaps$History" "states" "I", .fieldLink RX0 18 "SlotMaps$History" "oldest" "I"] ++ wsX00)
def wsX0_restoreLatest_r1 : List Cond := [Cond.fieldLink RX0 22 "SlotMaps$History" "states" "I", Cond.methodLink RX0 33 yX0_takeBack, Cond.instanceMethod yX0_takeBack, Cond.selects RX0 yX0_takeBack yX0_takeBack, Cond.initialized RX0, Cond.code yX0_takeBack cX0_takeBack 2 none, Cond.fieldLink RX0 11 "SlotMaps$History" "ring" "[LSlotMaps$Slots;", Cond.methodLink RX0 25 yX0_behindLatest, Cond.instanceMethod yX0_behindLatest, Cond.selects RX0 yX0_behindLatest yX0_behindLatest, Cond.code yX0_behindLatest cX0_behindLatest 1 (some .int), Cond.fieldLink RX0 18 "SlotMaps$History" "oldest" "I", Cond.methodLink RX0 29 yX2_copyFrom, Cond.instanceMethod yX2_copyFrom, Cond.selects RX2 yX2_copyFrom yX2_copyFrom, Cond.initialized RX2, Cond.code yX2_copyFrom cX2_copyFrom 3 none, Cond.fieldLink RX2 11 "SlotMaps$Slots" "bits" "[[I", Cond.methodLink RX2 30 arraycopyName, Cond.native arraycopyName, Cond.static arraycopyName, Cond.initialized "java/lang/System", Cond.fieldLink RX2 16 "SlotMaps$Slots" "blockFirst" "[I", Cond.fieldLink RX2 20 "SlotMaps$Slots" "blockSize" "[I"]
def wsX0_restoreLatest_r2 : List Cond := [Cond.fieldLink RX2 23 "SlotMaps$Slots" "summary" "I", Cond.fieldLink RX2 27 "SlotMaps$Slots" "looks" "I"]
def wsX0_restoreLatest : List Cond := .code yX0_restoreLatest cX0_restoreLatest 2 (some .int) :: ((wsX0_restoreLatest_r1 ++ wsX0_restoreLatest_r2) ++ wsX00 ++ wsX20)
def wsX1_init : List Cond := .code yX1_init cX1_init 1 none :: ([.methodLink RX1 3 objectInit, .instanceMethod objectInit, .code objectInit ⟨#[0xb1]⟩ 1 none, .fieldLink RX1 11 "SlotMaps$Program" "letter" "C"] ++ wsX10)
def wsX1_readLetter : List Cond := .code yX1_readLetter cX1_readLetter 3 (some .boolean) :: ([.fieldLink RX1 11 "SlotMaps$Program" "letter" "C", .fieldLink RX1 23 "SlotMaps$Program" "letterPlace" "I", .fieldLink RX1 41 "SlotMaps$Program" "hasFrom" "Z", .fieldLink RX1 45 "SlotMaps$Program" "number" "I", .fieldLink RX1 48 "SlotMaps$Program" "digits" "I"] ++ wsX10)
def wsX1_readDigit : List Cond := .code yX1_readDigit cX1_readDigit 3 (some .boolean) :: ([.fieldLink RX1 48 "SlotMaps$Program" "digits" "I", .fieldLink RX1 45 "SlotMaps$Program" "number" "I", .fieldLink RX1 11 "SlotMaps$Program" "letter" "C"] ++ wsX10)
def wsX1_readDash : List Cond := .code yX1_readDash cX1_readDash 1 (some .boolean) :: ([.fieldLink RX1 11 "SlotMaps$Program" "letter" "C", .fieldLink RX1 41 "SlotMaps$Program" "hasFrom" "Z", .fieldLink RX1 48 "SlotMaps$Program" "digits" "I", .fieldLink RX1 45 "SlotMaps$Program" "number" "I", .fieldLink RX1 51 "SlotMaps$Program" "from" "I"] ++ wsX10)
def wsX1_mayEnd : List Cond := .code yX1_mayEnd cX1_mayEnd 1 (some .boolean) :: ([.fieldLink RX1 48 "SlotMaps$Program" "digits" "I", .fieldLink RX1 11 "SlotMaps$Program" "letter" "C"] ++ wsX10)
def wsX1_readCharacter : List Cond := .code yX1_readCharacter cX1_readCharacter 3 (some .boolean) :: ([.fieldLink RX1 11 "SlotMaps$Program" "letter" "C", .methodLink RX1 27 yX1_readLetter, .instanceMethod yX1_readLetter, .selects RX1 yX1_readLetter yX1_readLetter, .initialized RX1, .code yX1_readLetter cX1_readLetter 3 (some .boolean), .fieldLink RX1 23 "SlotMaps$Program" "letterPlace" "I", .fieldLink RX1 41 "SlotMaps$Program" "hasFrom" "Z", .fieldLink RX1 45 "SlotMaps$Program" "number" "I", .fieldLink RX1 48 "SlotMaps$Program" "digits" "I", .methodLink RX1 30 yX1_readDigit, .instanceMethod yX1_readDigit, .selects RX1 yX1_readDigit yX1_readDigit, .code yX1_readDigit cX1_readDigit 3 (some .boolean), .methodLink RX1 34 yX1_readDash, .instanceMethod yX1_readDash, .selects RX1 yX1_readDash yX1_readDash, .code yX1_readDash cX1_readDash 1 (some .boolean), .fieldLink RX1 51 "SlotMaps$Program" "from" "I", .methodLink RX1 38 yX1_mayEnd, .instanceMethod yX1_mayEnd, .selects RX1 yX1_mayEnd yX1_mayEnd, .code yX1_mayEnd cX1_mayEnd 1 (some .boolean)] ++ wsX10)
def wsX2_summaryBit : List Cond := .code yX2_summaryBit cX2_summaryBit 2 (some .int) :: ([.fieldLink RX2 23 "SlotMaps$Slots" "summary" "I"] ++ wsX20)
def wsX2_isFull : List Cond := .code yX2_isFull cX2_isFull 2 (some .boolean) :: ([.fieldLink RX2 11 "SlotMaps$Slots" "bits" "[[I"] ++ wsX20)
def wsJ6_bitCount_0f7a4 : List Cond := .code yJ6_bitCount_0f7a4 cJ6_bitCount_0f7a4 1 (some .int) :: ([.constant RJ6 265 (1431655765), .constant RJ6 266 (858993459), .constant RJ6 267 (252645135)])
def wsX3_lowestBit : List Cond := .code yX3_lowestBit cX3_lowestBit 1 (some .int) :: ([.methodLink RX3 98 yJ6_bitCount_0f7a4, .static yJ6_bitCount_0f7a4, .initialized RJ6, .code yJ6_bitCount_0f7a4 cJ6_bitCount_0f7a4 1 (some .int), .constant RJ6 265 (1431655765), .constant RJ6 266 (858993459), .constant RJ6 267 (252645135)])
def wsX3_bitOf : List Cond := .code yX3_bitOf cX3_bitOf 1 (some .int) :: ([])
def wsX2_change : List Cond := .code yX2_change cX2_change 5 none :: ([.fieldLink RX2 11 "SlotMaps$Slots" "bits" "[[I", .fieldLink RX2 23 "SlotMaps$Slots" "summary" "I", .methodLink RX2 47 yX2_isFull, .instanceMethod yX2_isFull, .selects RX2 yX2_isFull yX2_isFull, .initialized RX2, .code yX2_isFull cX2_isFull 2 (some .boolean)] ++ wsX20)
def wsX2_takeBySummaries_r1 : List Cond := [Cond.fieldLink RX2 27 "SlotMaps$Slots" "looks" "I", Cond.fieldLink RX2 11 "SlotMaps$Slots" "bits" "[[I", Cond.fieldLink RX2 23 "SlotMaps$Slots" "summary" "I", Cond.methodLink RX2 44 yX2_summaryBit, Cond.instanceMethod yX2_summaryBit, Cond.selects RX2 yX2_summaryBit yX2_summaryBit, Cond.initialized RX2, Cond.code yX2_summaryBit cX2_summaryBit 2 (some .int), Cond.methodLink RX2 47 yX2_isFull, Cond.instanceMethod yX2_isFull, Cond.selects RX2 yX2_isFull yX2_isFull, Cond.code yX2_isFull cX2_isFull 2 (some .boolean), Cond.static yX3_lowestBit, Cond.initialized RX3, Cond.code yX3_lowestBit cX3_lowestBit 1 (some .int), Cond.methodLink RX3 98 yJ6_bitCount_0f7a4, Cond.static yJ6_bitCount_0f7a4, Cond.initialized RJ6, Cond.code yJ6_bitCount_0f7a4 cJ6_bitCount_0f7a4 1 (some .int), Cond.constant RJ6 265 (1431655765), Cond.constant RJ6 266 (858993459), Cond.constant RJ6 267 (252645135), Cond.static yX3_bitOf, Cond.code yX3_bitOf cX3_bitOf 1 (some .int)]
def wsX2_takeBySummaries_r2 : List Cond := [Cond.methodLink RX2 57 yX2_change, Cond.instanceMethod yX2_change, Cond.selects RX2 yX2_change yX2_change, Cond.code yX2_change cX2_change 5 none]
def wsX2_takeBySummaries : List Cond := .code yX2_takeBySummaries cX2_takeBySummaries 3 (some .int) :: ((wsX2_takeBySummaries_r1 ++ wsX2_takeBySummaries_r2) ++ wsX20)
def wsX2_clearWords : List Cond := .code yX2_clearWords cX2_clearWords 6 (some .int) :: ([.fieldLink RX2 11 "SlotMaps$Slots" "bits" "[[I", .methodLink RX2 57 yX2_change, .instanceMethod yX2_change, .selects RX2 yX2_change yX2_change, .initialized RX2, .code yX2_change cX2_change 5 none, .fieldLink RX2 23 "SlotMaps$Slots" "summary" "I", .methodLink RX2 47 yX2_isFull, .instanceMethod yX2_isFull, .selects RX2 yX2_isFull yX2_isFull, .code yX2_isFull cX2_isFull 2 (some .boolean), .methodLink RX2 80 yJ6_bitCount_0f7a4, .static yJ6_bitCount_0f7a4, .initialized RJ6, .code yJ6_bitCount_0f7a4 cJ6_bitCount_0f7a4 1 (some .int), .constant RJ6 265 (1431655765), .constant RJ6 266 (858993459), .constant RJ6 267 (252645135)] ++ wsX20)
def wsX2_takeOne_r1 : List Cond := [Cond.methodLink RX2 36 yX2_takeBySummaries, Cond.instanceMethod yX2_takeBySummaries, Cond.selects RX2 yX2_takeBySummaries yX2_takeBySummaries, Cond.initialized RX2, Cond.code yX2_takeBySummaries cX2_takeBySummaries 3 (some .int), Cond.fieldLink RX2 27 "SlotMaps$Slots" "looks" "I", Cond.fieldLink RX2 11 "SlotMaps$Slots" "bits" "[[I", Cond.fieldLink RX2 23 "SlotMaps$Slots" "summary" "I", Cond.methodLink RX2 44 yX2_summaryBit, Cond.instanceMethod yX2_summaryBit, Cond.selects RX2 yX2_summaryBit yX2_summaryBit, Cond.code yX2_summaryBit cX2_summaryBit 2 (some .int), Cond.methodLink RX2 47 yX2_isFull, Cond.instanceMethod yX2_isFull, Cond.selects RX2 yX2_isFull yX2_isFull, Cond.code yX2_isFull cX2_isFull 2 (some .boolean), Cond.static yX3_lowestBit, Cond.initialized RX3, Cond.code yX3_lowestBit cX3_lowestBit 1 (some .int), Cond.methodLink RX3 98 yJ6_bitCount_0f7a4, Cond.static yJ6_bitCount_0f7a4, Cond.initialized RJ6, Cond.code yJ6_bitCount_0f7a4 cJ6_bitCount_0f7a4 1 (some .int), Cond.constant RJ6 265 (1431655765)]
def wsX2_takeOne_r2 : List Cond := [Cond.constant RJ6 266 (858993459), Cond.constant RJ6 267 (252645135), Cond.static yX3_bitOf, Cond.code yX3_bitOf cX3_bitOf 1 (some .int), Cond.methodLink RX2 57 yX2_change, Cond.instanceMethod yX2_change, Cond.selects RX2 yX2_change yX2_change, Cond.code yX2_change cX2_change 5 none, Cond.methodLink RX2 40 yX2_clearWords, Cond.instanceMethod yX2_clearWords, Cond.selects RX2 yX2_clearWords yX2_clearWords, Cond.code yX2_clearWords cX2_clearWords 6 (some .int), Cond.methodLink RX2 80 yJ6_bitCount_0f7a4]
def wsX2_takeOne : List Cond := .code yX2_takeOne cX2_takeOne 2 (some .int) :: ((wsX2_takeOne_r1 ++ wsX2_takeOne_r2) ++ wsX20)
def wsX2_takeMany_r1 : List Cond := [Cond.methodLink RX2 61 yX2_takeOne, Cond.instanceMethod yX2_takeOne, Cond.selects RX2 yX2_takeOne yX2_takeOne, Cond.initialized RX2, Cond.code yX2_takeOne cX2_takeOne 2 (some .int), Cond.methodLink RX2 36 yX2_takeBySummaries, Cond.instanceMethod yX2_takeBySummaries, Cond.selects RX2 yX2_takeBySummaries yX2_takeBySummaries, Cond.code yX2_takeBySummaries cX2_takeBySummaries 3 (some .int), Cond.fieldLink RX2 27 "SlotMaps$Slots" "looks" "I", Cond.fieldLink RX2 11 "SlotMaps$Slots" "bits" "[[I", Cond.fieldLink RX2 23 "SlotMaps$Slots" "summary" "I", Cond.methodLink RX2 44 yX2_summaryBit, Cond.instanceMethod yX2_summaryBit, Cond.selects RX2 yX2_summaryBit yX2_summaryBit, Cond.code yX2_summaryBit cX2_summaryBit 2 (some .int), Cond.methodLink RX2 47 yX2_isFull, Cond.instanceMethod yX2_isFull, Cond.selects RX2 yX2_isFull yX2_isFull, Cond.code yX2_isFull cX2_isFull 2 (some .boolean), Cond.static yX3_lowestBit, Cond.initialized RX3, Cond.code yX3_lowestBit cX3_lowestBit 1 (some .int), Cond.methodLink RX3 98 yJ6_bitCount_0f7a4]
def wsX2_takeMany_r2 : List Cond := [Cond.static yJ6_bitCount_0f7a4, Cond.initialized RJ6, Cond.code yJ6_bitCount_0f7a4 cJ6_bitCount_0f7a4 1 (some .int), Cond.constant RJ6 265 (1431655765), Cond.constant RJ6 266 (858993459), Cond.constant RJ6 267 (252645135), Cond.static yX3_bitOf, Cond.code yX3_bitOf cX3_bitOf 1 (some .int), Cond.methodLink RX2 57 yX2_change, Cond.instanceMethod yX2_change, Cond.selects RX2 yX2_change yX2_change, Cond.code yX2_change cX2_change 5 none, Cond.methodLink RX2 40 yX2_clearWords, Cond.instanceMethod yX2_clearWords, Cond.selects RX2 yX2_clearWords yX2_clearWords, Cond.code yX2_clearWords cX2_clearWords 6 (some .int), Cond.methodLink RX2 80 yJ6_bitCount_0f7a4]
def wsX2_takeMany : List Cond := .code yX2_takeMany cX2_takeMany 3 (some .int) :: ((wsX2_takeMany_r1 ++ wsX2_takeMany_r2) ++ wsX20)
def wsX3_rangeBits : List Cond := .code yX3_rangeBits cX3_rangeBits 5 (some .int) :: ([.methodLink RX3 175 Lib.Math.max.name, .static Lib.Math.max.name, .initialized "java/lang/Math", .code Lib.Math.max.name Lib.Math.max.code 2 (some .int), .methodLink RX3 180 Lib.Math.min.name, .static Lib.Math.min.name, .code Lib.Math.min.name Lib.Math.min.code 2 (some .int)])
def wsX3_wordOf : List Cond := .code yX3_wordOf cX3_wordOf 1 (some .int) :: ([])
def wsX2_blockBits : List Cond := .code yX2_blockBits cX2_blockBits 3 (some .int) :: ([.fieldLink RX2 16 "SlotMaps$Slots" "blockFirst" "[I", .fieldLink RX2 20 "SlotMaps$Slots" "blockSize" "[I", .static yX3_wordOf, .initialized RX3, .code yX3_wordOf cX3_wordOf 1 (some .int), .static yX3_rangeBits, .code yX3_rangeBits cX3_rangeBits 5 (some .int), .methodLink RX3 175 Lib.Math.max.name, .static Lib.Math.max.name, .initialized "java/lang/Math", .code Lib.Math.max.name Lib.Math.max.code 2 (some .int), .methodLink RX3 180 Lib.Math.min.name, .static Lib.Math.min.name, .code Lib.Math.min.name Lib.Math.min.code 2 (some .int)] ++ wsX20)
def wsX2_ownedBits : List Cond := .code yX2_ownedBits cX2_ownedBits 4 (some .int) :: ([.fieldLink RX2 16 "SlotMaps$Slots" "blockFirst" "[I", .static yX3_wordOf, .initialized RX3, .code yX3_wordOf cX3_wordOf 1 (some .int), .methodLink RX2 94 yX2_blockBits, .instanceMethod yX2_blockBits, .selects RX2 yX2_blockBits yX2_blockBits, .initialized RX2, .code yX2_blockBits cX2_blockBits 3 (some .int), .fieldLink RX2 20 "SlotMaps$Slots" "blockSize" "[I", .static yX3_rangeBits, .code yX3_rangeBits cX3_rangeBits 5 (some .int), .methodLink RX3 175 Lib.Math.max.name, .static Lib.Math.max.name, .initialized "java/lang/Math", .code Lib.Math.max.name Lib.Math.max.code 2 (some .int), .methodLink RX3 180 Lib.Math.min.name, .static Lib.Math.min.name, .code Lib.Math.min.name Lib.Math.min.code 2 (some .int)] ++ wsX20)
def wsX2_giveBackRange_r1 : List Cond := [Cond.fieldLink RX2 11 "SlotMaps$Slots" "bits" "[[I", Cond.static yX3_rangeBits, Cond.initialized RX3, Cond.code yX3_rangeBits cX3_rangeBits 5 (some .int), Cond.methodLink RX3 175 Lib.Math.max.name, Cond.static Lib.Math.max.name, Cond.initialized "java/lang/Math", Cond.code Lib.Math.max.name Lib.Math.max.code 2 (some .int), Cond.methodLink RX3 180 Lib.Math.min.name, Cond.static Lib.Math.min.name, Cond.code Lib.Math.min.name Lib.Math.min.code 2 (some .int), Cond.methodLink RX2 77 yX2_ownedBits, Cond.instanceMethod yX2_ownedBits, Cond.selects RX2 yX2_ownedBits yX2_ownedBits, Cond.initialized RX2, Cond.code yX2_ownedBits cX2_ownedBits 4 (some .int), Cond.fieldLink RX2 16 "SlotMaps$Slots" "blockFirst" "[I", Cond.static yX3_wordOf, Cond.code yX3_wordOf cX3_wordOf 1 (some .int), Cond.methodLink RX2 94 yX2_blockBits, Cond.instanceMethod yX2_blockBits, Cond.selects RX2 yX2_blockBits yX2_blockBits, Cond.code yX2_blockBits cX2_blockBits 3 (some .int), Cond.fieldLink RX2 20 "SlotMaps$Slots" "blockSize" "[I"]
def wsX2_giveBackRange_r2 : List Cond := [Cond.methodLink RX2 57 yX2_change, Cond.instanceMethod yX2_change, Cond.selects RX2 yX2_change yX2_change, Cond.code yX2_change cX2_change 5 none, Cond.fieldLink RX2 23 "SlotMaps$Slots" "summary" "I", Cond.methodLink RX2 47 yX2_isFull, Cond.instanceMethod yX2_isFull, Cond.selects RX2 yX2_isFull yX2_isFull, Cond.code yX2_isFull cX2_isFull 2 (some .boolean), Cond.methodLink RX2 80 yJ6_bitCount_0f7a4, Cond.static yJ6_bitCount_0f7a4, Cond.initialized RJ6, Cond.code yJ6_bitCount_0f7a4 cJ6_bitCount_0f7a4 1 (some .int), Cond.constant RJ6 265 (1431655765), Cond.constant RJ6 266 (858993459), Cond.constant RJ6 267 (252645135)]
def wsX2_giveBackRange : List Cond := .code yX2_giveBackRange cX2_giveBackRange 7 (some .int) :: ((wsX2_giveBackRange_r1 ++ wsX2_giveBackRange_r2) ++ wsX20)
def wsX3_isBlockSize : List Cond := .code yX3_isBlockSize cX3_isBlockSize 1 (some .boolean) :: ([])
def wsX2_hasBlock : List Cond := .code yX2_hasBlock cX2_hasBlock 2 (some .boolean) :: ([.fieldLink RX2 20 "SlotMaps$Slots" "blockSize" "[I"] ++ wsX20)
def wsX2_firstUnusedBlock : List Cond := .code yX2_firstUnusedBlock cX2_firstUnusedBlock 2 (some .int) :: ([.methodLink RX2 97 yX2_hasBlock, .instanceMethod yX2_hasBlock, .selects RX2 yX2_hasBlock yX2_hasBlock, .initialized RX2, .code yX2_hasBlock cX2_hasBlock 2 (some .boolean), .fieldLink RX2 20 "SlotMaps$Slots" "blockSize" "[I"] ++ wsX20)
def wsX2_placeStart : List Cond := .code yX2_placeStart cX2_placeStart 5 (some .int) :: ([.fieldLink RX2 11 "SlotMaps$Slots" "bits" "[[I", .static yX3_wordOf, .initialized RX3, .code yX3_wordOf cX3_wordOf 1 (some .int), .static yX3_rangeBits, .code yX3_rangeBits cX3_rangeBits 5 (some .int), .methodLink RX3 175 Lib.Math.max.name, .static Lib.Math.max.name, .initialized "java/lang/Math", .code Lib.Math.max.name Lib.Math.max.code 2 (some .int), .methodLink RX3 180 Lib.Math.min.name, .static Lib.Math.min.name, .code Lib.Math.min.name Lib.Math.min.code 2 (some .int)] ++ wsX20)
def wsX2_reserveBlock_r1 : List Cond := [Cond.fieldLink RX2 16 "SlotMaps$Slots" "blockFirst" "[I", Cond.fieldLink RX2 20 "SlotMaps$Slots" "blockSize" "[I", Cond.static yX3_isBlockSize, Cond.initialized RX3, Cond.code yX3_isBlockSize cX3_isBlockSize 1 (some .boolean), Cond.methodLink RX2 88 yX2_firstUnusedBlock, Cond.instanceMethod yX2_firstUnusedBlock, Cond.selects RX2 yX2_firstUnusedBlock yX2_firstUnusedBlock, Cond.initialized RX2, Cond.code yX2_firstUnusedBlock cX2_firstUnusedBlock 2 (some .int), Cond.methodLink RX2 97 yX2_hasBlock, Cond.instanceMethod yX2_hasBlock, Cond.selects RX2 yX2_hasBlock yX2_hasBlock, Cond.code yX2_hasBlock cX2_hasBlock 2 (some .boolean), Cond.methodLink RX2 91 yX2_placeStart, Cond.instanceMethod yX2_placeStart, Cond.selects RX2 yX2_placeStart yX2_placeStart, Cond.code yX2_placeStart cX2_placeStart 5 (some .int), Cond.fieldLink RX2 11 "SlotMaps$Slots" "bits" "[[I", Cond.static yX3_wordOf, Cond.code yX3_wordOf cX3_wordOf 1 (some .int), Cond.static yX3_rangeBits, Cond.code yX3_rangeBits cX3_rangeBits 5 (some .int), Cond.methodLink RX3 175 Lib.Math.max.name]
def wsX2_reserveBlock_r2 : List Cond := [Cond.static Lib.Math.max.name, Cond.initialized "java/lang/Math", Cond.code Lib.Math.max.name Lib.Math.max.code 2 (some .int), Cond.methodLink RX3 180 Lib.Math.min.name, Cond.static Lib.Math.min.name, Cond.code Lib.Math.min.name Lib.Math.min.code 2 (some .int), Cond.methodLink RX2 94 yX2_blockBits, Cond.instanceMethod yX2_blockBits, Cond.selects RX2 yX2_blockBits yX2_blockBits, Cond.code yX2_blockBits cX2_blockBits 3 (some .int), Cond.methodLink RX2 57 yX2_change, Cond.instanceMethod yX2_change, Cond.selects RX2 yX2_change yX2_change, Cond.code yX2_change cX2_change 5 none, Cond.fieldLink RX2 23 "SlotMaps$Slots" "summary" "I", Cond.methodLink RX2 47 yX2_isFull, Cond.instanceMethod yX2_isFull, Cond.selects RX2 yX2_isFull yX2_isFull, Cond.code yX2_isFull cX2_isFull 2 (some .boolean)]
def wsX2_reserveBlock : List Cond := .code yX2_reserveBlock cX2_reserveBlock 4 (some .int) :: ((wsX2_reserveBlock_r1 ++ wsX2_reserveBlock_r2) ++ wsX20)
def wsX2_takeInBlock_r1 : List Cond := [Cond.fieldLink RX2 16 "SlotMaps$Slots" "blockFirst" "[I", Cond.fieldLink RX2 11 "SlotMaps$Slots" "bits" "[[I", Cond.methodLink RX2 97 yX2_hasBlock, Cond.instanceMethod yX2_hasBlock, Cond.selects RX2 yX2_hasBlock yX2_hasBlock, Cond.initialized RX2, Cond.code yX2_hasBlock cX2_hasBlock 2 (some .boolean), Cond.fieldLink RX2 20 "SlotMaps$Slots" "blockSize" "[I", Cond.static yX3_wordOf, Cond.initialized RX3, Cond.code yX3_wordOf cX3_wordOf 1 (some .int), Cond.methodLink RX2 94 yX2_blockBits, Cond.instanceMethod yX2_blockBits, Cond.selects RX2 yX2_blockBits yX2_blockBits, Cond.code yX2_blockBits cX2_blockBits 3 (some .int), Cond.static yX3_rangeBits, Cond.code yX3_rangeBits cX3_rangeBits 5 (some .int), Cond.methodLink RX3 175 Lib.Math.max.name, Cond.static Lib.Math.max.name, Cond.initialized "java/lang/Math", Cond.code Lib.Math.max.name Lib.Math.max.code 2 (some .int), Cond.methodLink RX3 180 Lib.Math.min.name, Cond.static Lib.Math.min.name, Cond.code Lib.Math.min.name Lib.Math.min.code 2 (some .int)]
def wsX2_takeInBlock_r2 : List Cond := [Cond.static yX3_lowestBit, Cond.code yX3_lowestBit cX3_lowestBit 1 (some .int), Cond.methodLink RX3 98 yJ6_bitCount_0f7a4, Cond.static yJ6_bitCount_0f7a4, Cond.initialized RJ6, Cond.code yJ6_bitCount_0f7a4 cJ6_bitCount_0f7a4 1 (some .int), Cond.constant RJ6 265 (1431655765), Cond.constant RJ6 266 (858993459), Cond.constant RJ6 267 (252645135), Cond.static yX3_bitOf, Cond.code yX3_bitOf cX3_bitOf 1 (some .int), Cond.methodLink RX2 57 yX2_change, Cond.instanceMethod yX2_change, Cond.selects RX2 yX2_change yX2_change, Cond.code yX2_change cX2_change 5 none, Cond.fieldLink RX2 23 "SlotMaps$Slots" "summary" "I", Cond.methodLink RX2 47 yX2_isFull, Cond.instanceMethod yX2_isFull, Cond.selects RX2 yX2_isFull yX2_isFull, Cond.code yX2_isFull cX2_isFull 2 (some .boolean)]
def wsX2_takeInBlock : List Cond := .code yX2_takeInBlock cX2_takeInBlock 5 (some .int) :: ((wsX2_takeInBlock_r1 ++ wsX2_takeInBlock_r2) ++ wsX20)
def wsX2_damageBit : List Cond := .code yX2_damageBit cX2_damageBit 2 (some .int) :: ([.fieldLink RX2 23 "SlotMaps$Slots" "summary" "I", .methodLink RX2 44 yX2_summaryBit, .instanceMethod yX2_summaryBit, .selects RX2 yX2_summaryBit yX2_summaryBit, .initialized RX2, .code yX2_summaryBit cX2_summaryBit 2 (some .int)] ++ wsX20)
def wsX2_rightSummary : List Cond := .code yX2_rightSummary cX2_rightSummary 3 (some .int) :: ([.methodLink RX2 47 yX2_isFull, .instanceMethod yX2_isFull, .selects RX2 yX2_isFull yX2_isFull, .initialized RX2, .code yX2_isFull cX2_isFull 2 (some .boolean), .fieldLink RX2 11 "SlotMaps$Slots" "bits" "[[I"] ++ wsX20)
def wsX2_repairBits : List Cond := .code yX2_repairBits cX2_repairBits 3 (some .int) :: ([.fieldLink RX2 23 "SlotMaps$Slots" "summary" "I", .methodLink RX2 100 yX2_rightSummary, .instanceMethod yX2_rightSummary, .selects RX2 yX2_rightSummary yX2_rightSummary, .initialized RX2, .code yX2_rightSummary cX2_rightSummary 3 (some .int), .methodLink RX2 47 yX2_isFull, .instanceMethod yX2_isFull, .selects RX2 yX2_isFull yX2_isFull, .code yX2_isFull cX2_isFull 2 (some .boolean), .fieldLink RX2 11 "SlotMaps$Slots" "bits" "[[I", .methodLink RX2 80 yJ6_bitCount_0f7a4, .static yJ6_bitCount_0f7a4, .initialized RJ6, .code yJ6_bitCount_0f7a4 cJ6_bitCount_0f7a4 1 (some .int), .constant RJ6 265 (1431655765), .constant RJ6 266 (858993459), .constant RJ6 267 (252645135)] ++ wsX20)
def wsX1_perform_r1 : List Cond := [Cond.fieldLink RX1 11 "SlotMaps$Program" "letter" "C", Cond.fieldLink RX1 48 "SlotMaps$Program" "digits" "I", Cond.fieldLink RX1 45 "SlotMaps$Program" "number" "I", Cond.fieldLink RX1 41 "SlotMaps$Program" "hasFrom" "Z", Cond.fieldLink RX1 51 "SlotMaps$Program" "from" "I", Cond.methodLink RX1 54 yX2_takeMany, Cond.instanceMethod yX2_takeMany, Cond.selects RX2 yX2_takeMany yX2_takeMany, Cond.initialized RX2, Cond.code yX2_takeMany cX2_takeMany 3 (some .int), Cond.methodLink RX2 61 yX2_takeOne, Cond.instanceMethod yX2_takeOne, Cond.selects RX2 yX2_takeOne yX2_takeOne, Cond.code yX2_takeOne cX2_takeOne 2 (some .int), Cond.methodLink RX2 36 yX2_takeBySummaries, Cond.instanceMethod yX2_takeBySummaries, Cond.selects RX2 yX2_takeBySummaries yX2_takeBySummaries, Cond.code yX2_takeBySummaries cX2_takeBySummaries 3 (some .int), Cond.fieldLink RX2 27 "SlotMaps$Slots" "looks" "I", Cond.fieldLink RX2 11 "SlotMaps$Slots" "bits" "[[I", Cond.fieldLink RX2 23 "SlotMaps$Slots" "summary" "I", Cond.methodLink RX2 44 yX2_summaryBit, Cond.instanceMethod yX2_summaryBit, Cond.selects RX2 yX2_summaryBit yX2_summaryBit]
def wsX1_perform_r2 : List Cond := [Cond.code yX2_summaryBit cX2_summaryBit 2 (some .int), Cond.methodLink RX2 47 yX2_isFull, Cond.instanceMethod yX2_isFull, Cond.selects RX2 yX2_isFull yX2_isFull, Cond.code yX2_isFull cX2_isFull 2 (some .boolean), Cond.static yX3_lowestBit, Cond.initialized RX3, Cond.code yX3_lowestBit cX3_lowestBit 1 (some .int), Cond.methodLink RX3 98 yJ6_bitCount_0f7a4, Cond.static yJ6_bitCount_0f7a4, Cond.initialized RJ6, Cond.code yJ6_bitCount_0f7a4 cJ6_bitCount_0f7a4 1 (some .int), Cond.constant RJ6 265 (1431655765), Cond.constant RJ6 266 (858993459), Cond.constant RJ6 267 (252645135), Cond.static yX3_bitOf, Cond.code yX3_bitOf cX3_bitOf 1 (some .int), Cond.methodLink RX2 57 yX2_change, Cond.instanceMethod yX2_change, Cond.selects RX2 yX2_change yX2_change, Cond.code yX2_change cX2_change 5 none, Cond.methodLink RX2 40 yX2_clearWords, Cond.instanceMethod yX2_clearWords, Cond.selects RX2 yX2_clearWords yX2_clearWords]
def wsX1_perform_r3 : List Cond := [Cond.code yX2_clearWords cX2_clearWords 6 (some .int), Cond.methodLink RX2 80 yJ6_bitCount_0f7a4, Cond.methodLink RX1 60 yX2_giveBackRange, Cond.instanceMethod yX2_giveBackRange, Cond.selects RX2 yX2_giveBackRange yX2_giveBackRange, Cond.code yX2_giveBackRange cX2_giveBackRange 7 (some .int), Cond.static yX3_rangeBits, Cond.code yX3_rangeBits cX3_rangeBits 5 (some .int), Cond.methodLink RX3 175 Lib.Math.max.name, Cond.static Lib.Math.max.name, Cond.initialized "java/lang/Math", Cond.code Lib.Math.max.name Lib.Math.max.code 2 (some .int), Cond.methodLink RX3 180 Lib.Math.min.name, Cond.static Lib.Math.min.name, Cond.code Lib.Math.min.name Lib.Math.min.code 2 (some .int), Cond.methodLink RX2 77 yX2_ownedBits, Cond.instanceMethod yX2_ownedBits, Cond.selects RX2 yX2_ownedBits yX2_ownedBits, Cond.code yX2_ownedBits cX2_ownedBits 4 (some .int), Cond.fieldLink RX2 16 "SlotMaps$Slots" "blockFirst" "[I", Cond.static yX3_wordOf, Cond.code yX3_wordOf cX3_wordOf 1 (some .int), Cond.methodLink RX2 94 yX2_blockBits, Cond.instanceMethod yX2_blockBits]
def wsX1_perform_r4 : List Cond := [Cond.selects RX2 yX2_blockBits yX2_blockBits, Cond.code yX2_blockBits cX2_blockBits 3 (some .int), Cond.fieldLink RX2 20 "SlotMaps$Slots" "blockSize" "[I", Cond.methodLink RX1 64 yX2_clearWords, Cond.methodLink RX1 67 yX2_reserveBlock, Cond.instanceMethod yX2_reserveBlock, Cond.selects RX2 yX2_reserveBlock yX2_reserveBlock, Cond.code yX2_reserveBlock cX2_reserveBlock 4 (some .int), Cond.static yX3_isBlockSize, Cond.code yX3_isBlockSize cX3_isBlockSize 1 (some .boolean), Cond.methodLink RX2 88 yX2_firstUnusedBlock, Cond.instanceMethod yX2_firstUnusedBlock, Cond.selects RX2 yX2_firstUnusedBlock yX2_firstUnusedBlock, Cond.code yX2_firstUnusedBlock cX2_firstUnusedBlock 2 (some .int), Cond.methodLink RX2 97 yX2_hasBlock, Cond.instanceMethod yX2_hasBlock, Cond.selects RX2 yX2_hasBlock yX2_hasBlock, Cond.code yX2_hasBlock cX2_hasBlock 2 (some .boolean), Cond.methodLink RX2 91 yX2_placeStart, Cond.instanceMethod yX2_placeStart, Cond.selects RX2 yX2_placeStart yX2_placeStart, Cond.code yX2_placeStart cX2_placeStart 5 (some .int), Cond.methodLink RX1 70 yX2_takeInBlock, Cond.instanceMethod yX2_takeInBlock]
def wsX1_perform_r5 : List Cond := [Cond.selects RX2 yX2_takeInBlock yX2_takeInBlock, Cond.code yX2_takeInBlock cX2_takeInBlock 5 (some .int), Cond.methodLink RX1 73 yX2_damageBit, Cond.instanceMethod yX2_damageBit, Cond.selects RX2 yX2_damageBit yX2_damageBit, Cond.code yX2_damageBit cX2_damageBit 2 (some .int), Cond.methodLink RX1 76 yX2_repairBits, Cond.instanceMethod yX2_repairBits, Cond.selects RX2 yX2_repairBits yX2_repairBits, Cond.code yX2_repairBits cX2_repairBits 3 (some .int), Cond.methodLink RX2 100 yX2_rightSummary, Cond.instanceMethod yX2_rightSummary, Cond.selects RX2 yX2_rightSummary yX2_rightSummary, Cond.code yX2_rightSummary cX2_rightSummary 3 (some .int)]
def wsX1_perform : List Cond := .code yX1_perform cX1_perform 2 (some .int) :: ((wsX1_perform_r1 ++ (wsX1_perform_r2 ++ (wsX1_perform_r3 ++ (wsX1_perform_r4 ++ wsX1_perform_r5)))) ++ wsX10 ++ wsX20)
def wsX1_execute_r1 : List Cond := [Cond.fieldLink RX1 11 "SlotMaps$Program" "letter" "C", Cond.fieldLink RX1 23 "SlotMaps$Program" "letterPlace" "I", Cond.methodLink RX1 15 yX1_readCharacter, Cond.instanceMethod yX1_readCharacter, Cond.selects RX1 yX1_readCharacter yX1_readCharacter, Cond.initialized RX1, Cond.code yX1_readCharacter cX1_readCharacter 3 (some .boolean), Cond.methodLink RX1 27 yX1_readLetter, Cond.instanceMethod yX1_readLetter, Cond.selects RX1 yX1_readLetter yX1_readLetter, Cond.code yX1_readLetter cX1_readLetter 3 (some .boolean), Cond.fieldLink RX1 41 "SlotMaps$Program" "hasFrom" "Z", Cond.fieldLink RX1 45 "SlotMaps$Program" "number" "I", Cond.fieldLink RX1 48 "SlotMaps$Program" "digits" "I", Cond.methodLink RX1 30 yX1_readDigit, Cond.instanceMethod yX1_readDigit, Cond.selects RX1 yX1_readDigit yX1_readDigit, Cond.code yX1_readDigit cX1_readDigit 3 (some .boolean), Cond.methodLink RX1 34 yX1_readDash, Cond.instanceMethod yX1_readDash, Cond.selects RX1 yX1_readDash yX1_readDash, Cond.code yX1_readDash cX1_readDash 1 (some .boolean), Cond.fieldLink RX1 51 "SlotMaps$Program" "from" "I", Cond.methodLink RX1 38 yX1_mayEnd]
def wsX1_execute_r2 : List Cond := [Cond.instanceMethod yX1_mayEnd, Cond.selects RX1 yX1_mayEnd yX1_mayEnd, Cond.code yX1_mayEnd cX1_mayEnd 1 (some .boolean), Cond.methodLink RX1 19 yX1_perform, Cond.instanceMethod yX1_perform, Cond.selects RX1 yX1_perform yX1_perform, Cond.code yX1_perform cX1_perform 2 (some .int), Cond.methodLink RX1 54 yX2_takeMany, Cond.instanceMethod yX2_takeMany, Cond.selects RX2 yX2_takeMany yX2_takeMany, Cond.initialized RX2, Cond.code yX2_takeMany cX2_takeMany 3 (some .int), Cond.methodLink RX2 61 yX2_takeOne, Cond.instanceMethod yX2_takeOne, Cond.selects RX2 yX2_takeOne yX2_takeOne, Cond.code yX2_takeOne cX2_takeOne 2 (some .int), Cond.methodLink RX2 36 yX2_takeBySummaries, Cond.instanceMethod yX2_takeBySummaries, Cond.selects RX2 yX2_takeBySummaries yX2_takeBySummaries, Cond.code yX2_takeBySummaries cX2_takeBySummaries 3 (some .int), Cond.fieldLink RX2 27 "SlotMaps$Slots" "looks" "I", Cond.fieldLink RX2 11 "SlotMaps$Slots" "bits" "[[I", Cond.fieldLink RX2 23 "SlotMaps$Slots" "summary" "I", Cond.methodLink RX2 44 yX2_summaryBit]
def wsX1_execute_r3 : List Cond := [Cond.instanceMethod yX2_summaryBit, Cond.selects RX2 yX2_summaryBit yX2_summaryBit, Cond.code yX2_summaryBit cX2_summaryBit 2 (some .int), Cond.methodLink RX2 47 yX2_isFull, Cond.instanceMethod yX2_isFull, Cond.selects RX2 yX2_isFull yX2_isFull, Cond.code yX2_isFull cX2_isFull 2 (some .boolean), Cond.static yX3_lowestBit, Cond.initialized RX3, Cond.code yX3_lowestBit cX3_lowestBit 1 (some .int), Cond.methodLink RX3 98 yJ6_bitCount_0f7a4, Cond.static yJ6_bitCount_0f7a4, Cond.initialized RJ6, Cond.code yJ6_bitCount_0f7a4 cJ6_bitCount_0f7a4 1 (some .int), Cond.constant RJ6 265 (1431655765), Cond.constant RJ6 266 (858993459), Cond.constant RJ6 267 (252645135), Cond.static yX3_bitOf, Cond.code yX3_bitOf cX3_bitOf 1 (some .int), Cond.methodLink RX2 57 yX2_change, Cond.instanceMethod yX2_change, Cond.selects RX2 yX2_change yX2_change, Cond.code yX2_change cX2_change 5 none, Cond.methodLink RX2 40 yX2_clearWords]
def wsX1_execute_r4 : List Cond := [Cond.instanceMethod yX2_clearWords, Cond.selects RX2 yX2_clearWords yX2_clearWords, Cond.code yX2_clearWords cX2_clearWords 6 (some .int), Cond.methodLink RX2 80 yJ6_bitCount_0f7a4, Cond.methodLink RX1 60 yX2_giveBackRange, Cond.instanceMethod yX2_giveBackRange, Cond.selects RX2 yX2_giveBackRange yX2_giveBackRange, Cond.code yX2_giveBackRange cX2_giveBackRange 7 (some .int), Cond.static yX3_rangeBits, Cond.code yX3_rangeBits cX3_rangeBits 5 (some .int), Cond.methodLink RX3 175 Lib.Math.max.name, Cond.static Lib.Math.max.name, Cond.initialized "java/lang/Math", Cond.code Lib.Math.max.name Lib.Math.max.code 2 (some .int), Cond.methodLink RX3 180 Lib.Math.min.name, Cond.static Lib.Math.min.name, Cond.code Lib.Math.min.name Lib.Math.min.code 2 (some .int), Cond.methodLink RX2 77 yX2_ownedBits, Cond.instanceMethod yX2_ownedBits, Cond.selects RX2 yX2_ownedBits yX2_ownedBits, Cond.code yX2_ownedBits cX2_ownedBits 4 (some .int), Cond.fieldLink RX2 16 "SlotMaps$Slots" "blockFirst" "[I", Cond.static yX3_wordOf, Cond.code yX3_wordOf cX3_wordOf 1 (some .int)]
def wsX1_execute_r5 : List Cond := [Cond.methodLink RX2 94 yX2_blockBits, Cond.instanceMethod yX2_blockBits, Cond.selects RX2 yX2_blockBits yX2_blockBits, Cond.code yX2_blockBits cX2_blockBits 3 (some .int), Cond.fieldLink RX2 20 "SlotMaps$Slots" "blockSize" "[I", Cond.methodLink RX1 64 yX2_clearWords, Cond.methodLink RX1 67 yX2_reserveBlock, Cond.instanceMethod yX2_reserveBlock, Cond.selects RX2 yX2_reserveBlock yX2_reserveBlock, Cond.code yX2_reserveBlock cX2_reserveBlock 4 (some .int), Cond.static yX3_isBlockSize, Cond.code yX3_isBlockSize cX3_isBlockSize 1 (some .boolean), Cond.methodLink RX2 88 yX2_firstUnusedBlock, Cond.instanceMethod yX2_firstUnusedBlock, Cond.selects RX2 yX2_firstUnusedBlock yX2_firstUnusedBlock, Cond.code yX2_firstUnusedBlock cX2_firstUnusedBlock 2 (some .int), Cond.methodLink RX2 97 yX2_hasBlock, Cond.instanceMethod yX2_hasBlock, Cond.selects RX2 yX2_hasBlock yX2_hasBlock, Cond.code yX2_hasBlock cX2_hasBlock 2 (some .boolean), Cond.methodLink RX2 91 yX2_placeStart, Cond.instanceMethod yX2_placeStart, Cond.selects RX2 yX2_placeStart yX2_placeStart, Cond.code yX2_placeStart cX2_placeStart 5 (some .int)]
def wsX1_execute_r6 : List Cond := [Cond.methodLink RX1 70 yX2_takeInBlock, Cond.instanceMethod yX2_takeInBlock, Cond.selects RX2 yX2_takeInBlock yX2_takeInBlock, Cond.code yX2_takeInBlock cX2_takeInBlock 5 (some .int), Cond.methodLink RX1 73 yX2_damageBit, Cond.instanceMethod yX2_damageBit, Cond.selects RX2 yX2_damageBit yX2_damageBit, Cond.code yX2_damageBit cX2_damageBit 2 (some .int), Cond.methodLink RX1 76 yX2_repairBits, Cond.instanceMethod yX2_repairBits, Cond.selects RX2 yX2_repairBits yX2_repairBits, Cond.code yX2_repairBits cX2_repairBits 3 (some .int), Cond.methodLink RX2 100 yX2_rightSummary, Cond.instanceMethod yX2_rightSummary, Cond.selects RX2 yX2_rightSummary yX2_rightSummary, Cond.code yX2_rightSummary cX2_rightSummary 3 (some .int)]
def wsX1_execute : List Cond := .code yX1_execute cX1_execute 7 (some .int) :: ((wsX1_execute_r1 ++ (wsX1_execute_r2 ++ (wsX1_execute_r3 ++ (wsX1_execute_r4 ++ (wsX1_execute_r5 ++ wsX1_execute_r6))))) ++ wsX10 ++ wsX20)
def wsX3_isRunLength : List Cond := .code yX3_isRunLength cX3_isRunLength 1 (some .boolean) :: ([])
def wsX2_isFree : List Cond := .code yX2_isFree cX2_isFree 2 (some .boolean) :: ([.fieldLink RX2 11 "SlotMaps$Slots" "bits" "[[I", .static yX3_wordOf, .initialized RX3, .code yX3_wordOf cX3_wordOf 1 (some .int), .static yX3_bitOf, .code yX3_bitOf cX3_bitOf 1 (some .int)] ++ wsX20)
def wsX2_runStart : List Cond := .code yX2_runStart cX2_runStart 4 (some .int) :: ([.methodLink RX2 103 yX2_isFree, .instanceMethod yX2_isFree, .selects RX2 yX2_isFree yX2_isFree, .initialized RX2, .code yX2_isFree cX2_isFree 2 (some .boolean), .fieldLink RX2 11 "SlotMaps$Slots" "bits" "[[I", .static yX3_wordOf, .initialized RX3, .code yX3_wordOf cX3_wordOf 1 (some .int), .static yX3_bitOf, .code yX3_bitOf cX3_bitOf 1 (some .int)] ++ wsX20)
def wsX2_takeSideBySide_r1 : List Cond := [Cond.fieldLink RX2 27 "SlotMaps$Slots" "looks" "I", Cond.static yX3_isRunLength, Cond.initialized RX3, Cond.code yX3_isRunLength cX3_isRunLength 1 (some .boolean), Cond.methodLink RX2 67 yX2_runStart, Cond.instanceMethod yX2_runStart, Cond.selects RX2 yX2_runStart yX2_runStart, Cond.initialized RX2, Cond.code yX2_runStart cX2_runStart 4 (some .int), Cond.methodLink RX2 103 yX2_isFree, Cond.instanceMethod yX2_isFree, Cond.selects RX2 yX2_isFree yX2_isFree, Cond.code yX2_isFree cX2_isFree 2 (some .boolean), Cond.fieldLink RX2 11 "SlotMaps$Slots" "bits" "[[I", Cond.static yX3_wordOf, Cond.code yX3_wordOf cX3_wordOf 1 (some .int), Cond.static yX3_bitOf, Cond.code yX3_bitOf cX3_bitOf 1 (some .int), Cond.static yX3_rangeBits, Cond.code yX3_rangeBits cX3_rangeBits 5 (some .int), Cond.methodLink RX3 175 Lib.Math.max.name, Cond.static Lib.Math.max.name, Cond.initialized "java/lang/Math", Cond.code Lib.Math.max.name Lib.Math.max.code 2 (some .int)]
def wsX2_takeSideBySide_r2 : List Cond := [Cond.methodLink RX3 180 Lib.Math.min.name, Cond.static Lib.Math.min.name, Cond.code Lib.Math.min.name Lib.Math.min.code 2 (some .int), Cond.methodLink RX2 57 yX2_change, Cond.instanceMethod yX2_change, Cond.selects RX2 yX2_change yX2_change, Cond.code yX2_change cX2_change 5 none, Cond.fieldLink RX2 23 "SlotMaps$Slots" "summary" "I", Cond.methodLink RX2 47 yX2_isFull, Cond.instanceMethod yX2_isFull, Cond.selects RX2 yX2_isFull yX2_isFull, Cond.code yX2_isFull cX2_isFull 2 (some .boolean)]
def wsX2_takeSideBySide : List Cond := .code yX2_takeSideBySide cX2_takeSideBySide 5 (some .int) :: ((wsX2_takeSideBySide_r1 ++ wsX2_takeSideBySide_r2) ++ wsX20)
def wsX2_giveUpBlock_r1 : List Cond := [Cond.fieldLink RX2 16 "SlotMaps$Slots" "blockFirst" "[I", Cond.fieldLink RX2 11 "SlotMaps$Slots" "bits" "[[I", Cond.fieldLink RX2 20 "SlotMaps$Slots" "blockSize" "[I", Cond.methodLink RX2 97 yX2_hasBlock, Cond.instanceMethod yX2_hasBlock, Cond.selects RX2 yX2_hasBlock yX2_hasBlock, Cond.initialized RX2, Cond.code yX2_hasBlock cX2_hasBlock 2 (some .boolean), Cond.static yX3_wordOf, Cond.initialized RX3, Cond.code yX3_wordOf cX3_wordOf 1 (some .int), Cond.methodLink RX2 94 yX2_blockBits, Cond.instanceMethod yX2_blockBits, Cond.selects RX2 yX2_blockBits yX2_blockBits, Cond.code yX2_blockBits cX2_blockBits 3 (some .int), Cond.static yX3_rangeBits, Cond.code yX3_rangeBits cX3_rangeBits 5 (some .int), Cond.methodLink RX3 175 Lib.Math.max.name, Cond.static Lib.Math.max.name, Cond.initialized "java/lang/Math", Cond.code Lib.Math.max.name Lib.Math.max.code 2 (some .int), Cond.methodLink RX3 180 Lib.Math.min.name, Cond.static Lib.Math.min.name, Cond.code Lib.Math.min.name Lib.Math.min.code 2 (some .int)]
def wsX2_giveUpBlock_r2 : List Cond := [Cond.methodLink RX2 57 yX2_change, Cond.instanceMethod yX2_change, Cond.selects RX2 yX2_change yX2_change, Cond.code yX2_change cX2_change 5 none, Cond.fieldLink RX2 23 "SlotMaps$Slots" "summary" "I", Cond.methodLink RX2 47 yX2_isFull, Cond.instanceMethod yX2_isFull, Cond.selects RX2 yX2_isFull yX2_isFull, Cond.code yX2_isFull cX2_isFull 2 (some .boolean), Cond.methodLink RX2 80 yJ6_bitCount_0f7a4, Cond.static yJ6_bitCount_0f7a4, Cond.initialized RJ6, Cond.code yJ6_bitCount_0f7a4 cJ6_bitCount_0f7a4 1 (some .int), Cond.constant RJ6 265 (1431655765), Cond.constant RJ6 266 (858993459), Cond.constant RJ6 267 (252645135)]
def wsX2_giveUpBlock : List Cond := .code yX2_giveUpBlock cX2_giveUpBlock 4 (some .int) :: ((wsX2_giveUpBlock_r1 ++ wsX2_giveUpBlock_r2) ++ wsX20)
def wsX2_total : List Cond := .code yX2_total cX2_total 4 (some .int) :: ([.fieldLink RX2 11 "SlotMaps$Slots" "bits" "[[I", .methodLink RX2 80 yJ6_bitCount_0f7a4, .static yJ6_bitCount_0f7a4, .initialized RJ6, .code yJ6_bitCount_0f7a4 cJ6_bitCount_0f7a4 1 (some .int), .constant RJ6 265 (1431655765), .constant RJ6 266 (858993459), .constant RJ6 267 (252645135)] ++ wsX20)
def wsX2_kindOf : List Cond := .code yX2_kindOf cX2_kindOf 3 (some .int) :: ([.fieldLink RX2 11 "SlotMaps$Slots" "bits" "[[I", .static yX3_wordOf, .initialized RX3, .code yX3_wordOf cX3_wordOf 1 (some .int), .static yX3_bitOf, .code yX3_bitOf cX3_bitOf 1 (some .int)] ++ wsX20)
def wsX2_firstFree : List Cond := .code yX2_firstFree cX2_firstFree 2 (some .int) :: ([.fieldLink RX2 11 "SlotMaps$Slots" "bits" "[[I", .methodLink RX2 47 yX2_isFull, .instanceMethod yX2_isFull, .selects RX2 yX2_isFull yX2_isFull, .initialized RX2, .code yX2_isFull cX2_isFull 2 (some .boolean), .static yX3_lowestBit, .initialized RX3, .code yX3_lowestBit cX3_lowestBit 1 (some .int), .methodLink RX3 98 yJ6_bitCount_0f7a4, .static yJ6_bitCount_0f7a4, .initialized RJ6, .code yJ6_bitCount_0f7a4 cJ6_bitCount_0f7a4 1 (some .int), .constant RJ6 265 (1431655765), .constant RJ6 266 (858993459), .constant RJ6 267 (252645135)] ++ wsX20)
def wsX2_freeRuns : List Cond := .code yX2_freeRuns cX2_freeRuns 5 (some .int) :: ([.methodLink RX2 103 yX2_isFree, .instanceMethod yX2_isFree, .selects RX2 yX2_isFree yX2_isFree, .initialized RX2, .code yX2_isFree cX2_isFree 2 (some .boolean), .fieldLink RX2 11 "SlotMaps$Slots" "bits" "[[I", .static yX3_wordOf, .initialized RX3, .code yX3_wordOf cX3_wordOf 1 (some .int), .static yX3_bitOf, .code yX3_bitOf cX3_bitOf 1 (some .int)] ++ wsX20)
def wsX2_longestFreeRun : List Cond := .code yX2_longestFreeRun cX2_longestFreeRun 4 (some .int) :: ([.methodLink RX2 106 Lib.Math.max.name, .static Lib.Math.max.name, .initialized "java/lang/Math", .code Lib.Math.max.name Lib.Math.max.code 2 (some .int), .methodLink RX2 103 yX2_isFree, .instanceMethod yX2_isFree, .selects RX2 yX2_isFree yX2_isFree, .initialized RX2, .code yX2_isFree cX2_isFree 2 (some .boolean), .fieldLink RX2 11 "SlotMaps$Slots" "bits" "[[I", .static yX3_wordOf, .initialized RX3, .code yX3_wordOf cX3_wordOf 1 (some .int), .static yX3_bitOf, .code yX3_bitOf cX3_bitOf 1 (some .int)] ++ wsX20)
def wsX2_reachable : List Cond := .code yX2_reachable cX2_reachable 3 (some .int) :: ([.fieldLink RX2 11 "SlotMaps$Slots" "bits" "[[I", .methodLink RX2 44 yX2_summaryBit, .instanceMethod yX2_summaryBit, .selects RX2 yX2_summaryBit yX2_summaryBit, .initialized RX2, .code yX2_summaryBit cX2_summaryBit 2 (some .int), .fieldLink RX2 23 "SlotMaps$Slots" "summary" "I", .methodLink RX2 80 yJ6_bitCount_0f7a4, .static yJ6_bitCount_0f7a4, .initialized RJ6, .code yJ6_bitCount_0f7a4 cJ6_bitCount_0f7a4 1 (some .int), .constant RJ6 265 (1431655765), .constant RJ6 266 (858993459), .constant RJ6 267 (252645135)] ++ wsX20)
def wsX2_blockTotal : List Cond := .code yX2_blockTotal cX2_blockTotal 3 (some .int) :: ([.methodLink RX2 97 yX2_hasBlock, .instanceMethod yX2_hasBlock, .selects RX2 yX2_hasBlock yX2_hasBlock, .initialized RX2, .code yX2_hasBlock cX2_hasBlock 2 (some .boolean), .fieldLink RX2 20 "SlotMaps$Slots" "blockSize" "[I"] ++ wsX20)
def wsX2_blockOf : List Cond := .code yX2_blockOf cX2_blockOf 3 (some .int) :: ([.fieldLink RX2 16 "SlotMaps$Slots" "blockFirst" "[I", .fieldLink RX2 20 "SlotMaps$Slots" "blockSize" "[I"] ++ wsX20)
def wsX2_totalInBlock_r1 : List Cond := [Cond.fieldLink RX2 11 "SlotMaps$Slots" "bits" "[[I", Cond.fieldLink RX2 16 "SlotMaps$Slots" "blockFirst" "[I", Cond.static yX3_wordOf, Cond.initialized RX3, Cond.code yX3_wordOf cX3_wordOf 1 (some .int), Cond.methodLink RX2 94 yX2_blockBits, Cond.instanceMethod yX2_blockBits, Cond.selects RX2 yX2_blockBits yX2_blockBits, Cond.initialized RX2, Cond.code yX2_blockBits cX2_blockBits 3 (some .int), Cond.fieldLink RX2 20 "SlotMaps$Slots" "blockSize" "[I", Cond.static yX3_rangeBits, Cond.code yX3_rangeBits cX3_rangeBits 5 (some .int), Cond.methodLink RX3 175 Lib.Math.max.name, Cond.static Lib.Math.max.name, Cond.initialized "java/lang/Math", Cond.code Lib.Math.max.name Lib.Math.max.code 2 (some .int), Cond.methodLink RX3 180 Lib.Math.min.name, Cond.static Lib.Math.min.name, Cond.code Lib.Math.min.name Lib.Math.min.code 2 (some .int), Cond.methodLink RX2 80 yJ6_bitCount_0f7a4, Cond.static yJ6_bitCount_0f7a4, Cond.initialized RJ6, Cond.code yJ6_bitCount_0f7a4 cJ6_bitCount_0f7a4 1 (some .int)]
def wsX2_totalInBlock_r2 : List Cond := [Cond.constant RJ6 265 (1431655765), Cond.constant RJ6 266 (858993459), Cond.constant RJ6 267 (252645135)]
def wsX2_totalInBlock : List Cond := .code yX2_totalInBlock cX2_totalInBlock 3 (some .int) :: ((wsX2_totalInBlock_r1 ++ wsX2_totalInBlock_r2) ++ wsX20)
def wsX3_init_r1 : List Cond := [Cond.methodLink RX3 1 objectInit, Cond.instanceMethod objectInit, Cond.code objectInit ⟨#[0xb1]⟩ 1 none, Cond.classLink RX3 7 RX2, Cond.instantiable RX2 5, Cond.initialized RX2, Cond.fieldLink RX3 10 "SlotMaps" "now" "LSlotMaps$Slots;", Cond.fieldLink RX3 16 "SlotMaps" "trial" "LSlotMaps$Slots;", Cond.classLink RX3 19 RX0, Cond.instantiable RX0 3, Cond.initialized RX0, Cond.fieldLink RX3 22 "SlotMaps" "history" "LSlotMaps$History;", Cond.classLink RX3 26 RX1, Cond.instantiable RX1 6, Cond.initialized RX1, Cond.fieldLink RX3 29 "SlotMaps" "program" "LSlotMaps$Program;", Cond.arrayClass .char, Cond.fieldLink RX3 33 "SlotMaps" "text" "[C", Cond.fieldLink RX3 37 "SlotMaps" "textLength" "I", Cond.methodLink RX3 9 yX2_init, Cond.instanceMethod yX2_init, Cond.code yX2_init cX2_init 2 none, Cond.methodLink RX2 3 objectInit, Cond.classLink RX2 9 "[[I"]
def wsX3_init_r2 : List Cond := [Cond.arrayClass .int, Cond.fieldLink RX2 11 "SlotMaps$Slots" "bits" "[[I", Cond.fieldLink RX2 16 "SlotMaps$Slots" "blockFirst" "[I", Cond.fieldLink RX2 20 "SlotMaps$Slots" "blockSize" "[I", Cond.fieldLink RX2 23 "SlotMaps$Slots" "summary" "I", Cond.fieldLink RX2 27 "SlotMaps$Slots" "looks" "I", Cond.methodLink RX3 21 yX0_init, Cond.instanceMethod yX0_init, Cond.code yX0_init cX0_init 2 none, Cond.methodLink RX0 3 objectInit, Cond.classLink RX0 9 RX2, Cond.fieldLink RX0 11 "SlotMaps$History" "ring" "[LSlotMaps$Slots;", Cond.fieldLink RX0 18 "SlotMaps$History" "oldest" "I", Cond.fieldLink RX0 22 "SlotMaps$History" "states" "I", Cond.methodLink RX0 17 yX2_init, Cond.methodLink RX3 28 yX1_init, Cond.instanceMethod yX1_init, Cond.code yX1_init cX1_init 1 none, Cond.methodLink RX1 3 objectInit, Cond.fieldLink RX1 11 "SlotMaps$Program" "letter" "C"]
def wsX3_init : List Cond := .code yX3_init cX3_init 1 none :: ((wsX3_init_r1 ++ wsX3_init_r2) ++ wsX20 ++ wsX30 ++ wsX00 ++ wsX10)
def wsX3_settle_r1 : List Cond := [Cond.fieldLink RX3 22 "SlotMaps" "history" "LSlotMaps$History;", Cond.fieldLink RX3 10 "SlotMaps" "now" "LSlotMaps$Slots;", Cond.methodLink RX3 169 yX0_takeBack, Cond.instanceMethod yX0_takeBack, Cond.selects RX0 yX0_takeBack yX0_takeBack, Cond.initialized RX0, Cond.code yX0_takeBack cX0_takeBack 2 none, Cond.fieldLink RX0 11 "SlotMaps$History" "ring" "[LSlotMaps$Slots;", Cond.methodLink RX0 25 yX0_behindLatest, Cond.instanceMethod yX0_behindLatest, Cond.selects RX0 yX0_behindLatest yX0_behindLatest, Cond.code yX0_behindLatest cX0_behindLatest 1 (some .int), Cond.fieldLink RX0 18 "SlotMaps$History" "oldest" "I", Cond.fieldLink RX0 22 "SlotMaps$History" "states" "I", Cond.methodLink RX0 29 yX2_copyFrom, Cond.instanceMethod yX2_copyFrom, Cond.selects RX2 yX2_copyFrom yX2_copyFrom, Cond.initialized RX2, Cond.code yX2_copyFrom cX2_copyFrom 3 none, Cond.fieldLink RX2 11 "SlotMaps$Slots" "bits" "[[I", Cond.methodLink RX2 30 arraycopyName, Cond.native arraycopyName, Cond.static arraycopyName, Cond.initialized "java/lang/System"]
def wsX3_settle_r2 : List Cond := [Cond.fieldLink RX2 16 "SlotMaps$Slots" "blockFirst" "[I", Cond.fieldLink RX2 20 "SlotMaps$Slots" "blockSize" "[I", Cond.fieldLink RX2 23 "SlotMaps$Slots" "summary" "I", Cond.fieldLink RX2 27 "SlotMaps$Slots" "looks" "I", Cond.methodLink RX3 172 yX0_keep, Cond.instanceMethod yX0_keep, Cond.selects RX0 yX0_keep yX0_keep, Cond.code yX0_keep cX0_keep 1 none]
def wsX3_settle : List Cond := .code yX3_settle cX3_settle 2 (some .int) :: ((wsX3_settle_r1 ++ wsX3_settle_r2) ++ wsX30 ++ wsX00 ++ wsX20)
def wsX3_take_r1 : List Cond := [Cond.fieldLink RX3 22 "SlotMaps" "history" "LSlotMaps$History;", Cond.fieldLink RX3 10 "SlotMaps" "now" "LSlotMaps$Slots;", Cond.methodLink RX3 41 yX0_prepare, Cond.instanceMethod yX0_prepare, Cond.selects RX0 yX0_prepare yX0_prepare, Cond.initialized RX0, Cond.code yX0_prepare cX0_prepare 2 none, Cond.fieldLink RX0 11 "SlotMaps$History" "ring" "[LSlotMaps$Slots;", Cond.methodLink RX0 25 yX0_behindLatest, Cond.instanceMethod yX0_behindLatest, Cond.selects RX0 yX0_behindLatest yX0_behindLatest, Cond.code yX0_behindLatest cX0_behindLatest 1 (some .int), Cond.fieldLink RX0 18 "SlotMaps$History" "oldest" "I", Cond.fieldLink RX0 22 "SlotMaps$History" "states" "I", Cond.methodLink RX0 29 yX2_copyFrom, Cond.instanceMethod yX2_copyFrom, Cond.selects RX2 yX2_copyFrom yX2_copyFrom, Cond.initialized RX2, Cond.code yX2_copyFrom cX2_copyFrom 3 none, Cond.fieldLink RX2 11 "SlotMaps$Slots" "bits" "[[I", Cond.methodLink RX2 30 arraycopyName, Cond.native arraycopyName, Cond.static arraycopyName, Cond.initialized "java/lang/System"]
def wsX3_take_r2 : List Cond := [Cond.fieldLink RX2 16 "SlotMaps$Slots" "blockFirst" "[I", Cond.fieldLink RX2 20 "SlotMaps$Slots" "blockSize" "[I", Cond.fieldLink RX2 23 "SlotMaps$Slots" "summary" "I", Cond.fieldLink RX2 27 "SlotMaps$Slots" "looks" "I", Cond.methodLink RX3 45 yX2_takeOne, Cond.instanceMethod yX2_takeOne, Cond.selects RX2 yX2_takeOne yX2_takeOne, Cond.code yX2_takeOne cX2_takeOne 2 (some .int), Cond.methodLink RX2 36 yX2_takeBySummaries, Cond.instanceMethod yX2_takeBySummaries, Cond.selects RX2 yX2_takeBySummaries yX2_takeBySummaries, Cond.code yX2_takeBySummaries cX2_takeBySummaries 3 (some .int), Cond.methodLink RX2 44 yX2_summaryBit, Cond.instanceMethod yX2_summaryBit, Cond.selects RX2 yX2_summaryBit yX2_summaryBit, Cond.code yX2_summaryBit cX2_summaryBit 2 (some .int), Cond.methodLink RX2 47 yX2_isFull, Cond.instanceMethod yX2_isFull, Cond.selects RX2 yX2_isFull yX2_isFull, Cond.code yX2_isFull cX2_isFull 2 (some .boolean), Cond.static yX3_lowestBit, Cond.initialized RX3, Cond.code yX3_lowestBit cX3_lowestBit 1 (some .int), Cond.methodLink RX3 98 yJ6_bitCount_0f7a4]
def wsX3_take_r3 : List Cond := [Cond.static yJ6_bitCount_0f7a4, Cond.initialized RJ6, Cond.code yJ6_bitCount_0f7a4 cJ6_bitCount_0f7a4 1 (some .int), Cond.constant RJ6 265 (1431655765), Cond.constant RJ6 266 (858993459), Cond.constant RJ6 267 (252645135), Cond.static yX3_bitOf, Cond.code yX3_bitOf cX3_bitOf 1 (some .int), Cond.methodLink RX2 57 yX2_change, Cond.instanceMethod yX2_change, Cond.selects RX2 yX2_change yX2_change, Cond.code yX2_change cX2_change 5 none, Cond.methodLink RX2 40 yX2_clearWords, Cond.instanceMethod yX2_clearWords, Cond.selects RX2 yX2_clearWords yX2_clearWords, Cond.code yX2_clearWords cX2_clearWords 6 (some .int), Cond.methodLink RX2 80 yJ6_bitCount_0f7a4, Cond.methodLink RX3 49 yX3_settle, Cond.instanceMethod yX3_settle, Cond.selects RX3 yX3_settle yX3_settle, Cond.code yX3_settle cX3_settle 2 (some .int), Cond.methodLink RX3 169 yX0_takeBack, Cond.instanceMethod yX0_takeBack, Cond.selects RX0 yX0_takeBack yX0_takeBack]
def wsX3_take_r4 : List Cond := [Cond.code yX0_takeBack cX0_takeBack 2 none, Cond.methodLink RX3 172 yX0_keep, Cond.instanceMethod yX0_keep, Cond.selects RX0 yX0_keep yX0_keep, Cond.code yX0_keep cX0_keep 1 none]
def wsX3_take : List Cond := .code yX3_take cX3_take 1 (some .int) :: ((wsX3_take_r1 ++ (wsX3_take_r2 ++ (wsX3_take_r3 ++ wsX3_take_r4))) ++ wsX30 ++ wsX00 ++ wsX20)
def wsX3_takeRun_r1 : List Cond := [Cond.fieldLink RX3 22 "SlotMaps" "history" "LSlotMaps$History;", Cond.fieldLink RX3 10 "SlotMaps" "now" "LSlotMaps$Slots;", Cond.methodLink RX3 41 yX0_prepare, Cond.instanceMethod yX0_prepare, Cond.selects RX0 yX0_prepare yX0_prepare, Cond.initialized RX0, Cond.code yX0_prepare cX0_prepare 2 none, Cond.fieldLink RX0 11 "SlotMaps$History" "ring" "[LSlotMaps$Slots;", Cond.methodLink RX0 25 yX0_behindLatest, Cond.instanceMethod yX0_behindLatest, Cond.selects RX0 yX0_behindLatest yX0_behindLatest, Cond.code yX0_behindLatest cX0_behindLatest 1 (some .int), Cond.fieldLink RX0 18 "SlotMaps$History" "oldest" "I", Cond.fieldLink RX0 22 "SlotMaps$History" "states" "I", Cond.methodLink RX0 29 yX2_copyFrom, Cond.instanceMethod yX2_copyFrom, Cond.selects RX2 yX2_copyFrom yX2_copyFrom, Cond.initialized RX2, Cond.code yX2_copyFrom cX2_copyFrom 3 none, Cond.fieldLink RX2 11 "SlotMaps$Slots" "bits" "[[I", Cond.methodLink RX2 30 arraycopyName, Cond.native arraycopyName, Cond.static arraycopyName, Cond.initialized "java/lang/System"]
def wsX3_takeRun_r2 : List Cond := [Cond.fieldLink RX2 16 "SlotMaps$Slots" "blockFirst" "[I", Cond.fieldLink RX2 20 "SlotMaps$Slots" "blockSize" "[I", Cond.fieldLink RX2 23 "SlotMaps$Slots" "summary" "I", Cond.fieldLink RX2 27 "SlotMaps$Slots" "looks" "I", Cond.methodLink RX3 53 yX2_takeSideBySide, Cond.instanceMethod yX2_takeSideBySide, Cond.selects RX2 yX2_takeSideBySide yX2_takeSideBySide, Cond.code yX2_takeSideBySide cX2_takeSideBySide 5 (some .int), Cond.static yX3_isRunLength, Cond.initialized RX3, Cond.code yX3_isRunLength cX3_isRunLength 1 (some .boolean), Cond.methodLink RX2 67 yX2_runStart, Cond.instanceMethod yX2_runStart, Cond.selects RX2 yX2_runStart yX2_runStart, Cond.code yX2_runStart cX2_runStart 4 (some .int), Cond.methodLink RX2 103 yX2_isFree, Cond.instanceMethod yX2_isFree, Cond.selects RX2 yX2_isFree yX2_isFree, Cond.code yX2_isFree cX2_isFree 2 (some .boolean), Cond.static yX3_wordOf, Cond.code yX3_wordOf cX3_wordOf 1 (some .int), Cond.static yX3_bitOf, Cond.code yX3_bitOf cX3_bitOf 1 (some .int), Cond.static yX3_rangeBits]
def wsX3_takeRun_r3 : List Cond := [Cond.code yX3_rangeBits cX3_rangeBits 5 (some .int), Cond.methodLink RX3 175 Lib.Math.max.name, Cond.static Lib.Math.max.name, Cond.initialized "java/lang/Math", Cond.code Lib.Math.max.name Lib.Math.max.code 2 (some .int), Cond.methodLink RX3 180 Lib.Math.min.name, Cond.static Lib.Math.min.name, Cond.code Lib.Math.min.name Lib.Math.min.code 2 (some .int), Cond.methodLink RX2 57 yX2_change, Cond.instanceMethod yX2_change, Cond.selects RX2 yX2_change yX2_change, Cond.code yX2_change cX2_change 5 none, Cond.methodLink RX2 47 yX2_isFull, Cond.instanceMethod yX2_isFull, Cond.selects RX2 yX2_isFull yX2_isFull, Cond.code yX2_isFull cX2_isFull 2 (some .boolean), Cond.methodLink RX3 49 yX3_settle, Cond.instanceMethod yX3_settle, Cond.selects RX3 yX3_settle yX3_settle, Cond.code yX3_settle cX3_settle 2 (some .int), Cond.methodLink RX3 169 yX0_takeBack, Cond.instanceMethod yX0_takeBack, Cond.selects RX0 yX0_takeBack yX0_takeBack, Cond.code yX0_takeBack cX0_takeBack 2 none]
def wsX3_takeRun_r4 : List Cond := [Cond.methodLink RX3 172 yX0_keep, Cond.instanceMethod yX0_keep, Cond.selects RX0 yX0_keep yX0_keep, Cond.code yX0_keep cX0_keep 1 none]
def wsX3_takeRun : List Cond := .code yX3_takeRun cX3_takeRun 2 (some .int) :: ((wsX3_takeRun_r1 ++ (wsX3_takeRun_r2 ++ (wsX3_takeRun_r3 ++ wsX3_takeRun_r4))) ++ wsX30 ++ wsX00 ++ wsX20)
def wsX3_giveBack_r1 : List Cond := [Cond.fieldLink RX3 22 "SlotMaps" "history" "LSlotMaps$History;", Cond.fieldLink RX3 10 "SlotMaps" "now" "LSlotMaps$Slots;", Cond.methodLink RX3 41 yX0_prepare, Cond.instanceMethod yX0_prepare, Cond.selects RX0 yX0_prepare yX0_prepare, Cond.initialized RX0, Cond.code yX0_prepare cX0_prepare 2 none, Cond.fieldLink RX0 11 "SlotMaps$History" "ring" "[LSlotMaps$Slots;", Cond.methodLink RX0 25 yX0_behindLatest, Cond.instanceMethod yX0_behindLatest, Cond.selects RX0 yX0_behindLatest yX0_behindLatest, Cond.code yX0_behindLatest cX0_behindLatest 1 (some .int), Cond.fieldLink RX0 18 "SlotMaps$History" "oldest" "I", Cond.fieldLink RX0 22 "SlotMaps$History" "states" "I", Cond.methodLink RX0 29 yX2_copyFrom, Cond.instanceMethod yX2_copyFrom, Cond.selects RX2 yX2_copyFrom yX2_copyFrom, Cond.initialized RX2, Cond.code yX2_copyFrom cX2_copyFrom 3 none, Cond.fieldLink RX2 11 "SlotMaps$Slots" "bits" "[[I", Cond.methodLink RX2 30 arraycopyName, Cond.native arraycopyName, Cond.static arraycopyName, Cond.initialized "java/lang/System"]
def wsX3_giveBack_r2 : List Cond := [Cond.fieldLink RX2 16 "SlotMaps$Slots" "blockFirst" "[I", Cond.fieldLink RX2 20 "SlotMaps$Slots" "blockSize" "[I", Cond.fieldLink RX2 23 "SlotMaps$Slots" "summary" "I", Cond.fieldLink RX2 27 "SlotMaps$Slots" "looks" "I", Cond.methodLink RX3 56 yX2_giveBackRange, Cond.instanceMethod yX2_giveBackRange, Cond.selects RX2 yX2_giveBackRange yX2_giveBackRange, Cond.code yX2_giveBackRange cX2_giveBackRange 7 (some .int), Cond.static yX3_rangeBits, Cond.initialized RX3, Cond.code yX3_rangeBits cX3_rangeBits 5 (some .int), Cond.methodLink RX3 175 Lib.Math.max.name, Cond.static Lib.Math.max.name, Cond.initialized "java/lang/Math", Cond.code Lib.Math.max.name Lib.Math.max.code 2 (some .int), Cond.methodLink RX3 180 Lib.Math.min.name, Cond.static Lib.Math.min.name, Cond.code Lib.Math.min.name Lib.Math.min.code 2 (some .int), Cond.methodLink RX2 77 yX2_ownedBits, Cond.instanceMethod yX2_ownedBits, Cond.selects RX2 yX2_ownedBits yX2_ownedBits, Cond.code yX2_ownedBits cX2_ownedBits 4 (some .int), Cond.static yX3_wordOf, Cond.code yX3_wordOf cX3_wordOf 1 (some .int)]
def wsX3_giveBack_r3 : List Cond := [Cond.methodLink RX2 94 yX2_blockBits, Cond.instanceMethod yX2_blockBits, Cond.selects RX2 yX2_blockBits yX2_blockBits, Cond.code yX2_blockBits cX2_blockBits 3 (some .int), Cond.methodLink RX2 57 yX2_change, Cond.instanceMethod yX2_change, Cond.selects RX2 yX2_change yX2_change, Cond.code yX2_change cX2_change 5 none, Cond.methodLink RX2 47 yX2_isFull, Cond.instanceMethod yX2_isFull, Cond.selects RX2 yX2_isFull yX2_isFull, Cond.code yX2_isFull cX2_isFull 2 (some .boolean), Cond.methodLink RX2 80 yJ6_bitCount_0f7a4, Cond.static yJ6_bitCount_0f7a4, Cond.initialized RJ6, Cond.code yJ6_bitCount_0f7a4 cJ6_bitCount_0f7a4 1 (some .int), Cond.constant RJ6 265 (1431655765), Cond.constant RJ6 266 (858993459), Cond.constant RJ6 267 (252645135), Cond.methodLink RX3 49 yX3_settle, Cond.instanceMethod yX3_settle, Cond.selects RX3 yX3_settle yX3_settle, Cond.code yX3_settle cX3_settle 2 (some .int), Cond.methodLink RX3 169 yX0_takeBack]
def wsX3_giveBack_r4 : List Cond := [Cond.instanceMethod yX0_takeBack, Cond.selects RX0 yX0_takeBack yX0_takeBack, Cond.code yX0_takeBack cX0_takeBack 2 none, Cond.methodLink RX3 172 yX0_keep, Cond.instanceMethod yX0_keep, Cond.selects RX0 yX0_keep yX0_keep, Cond.code yX0_keep cX0_keep 1 none]
def wsX3_giveBack : List Cond := .code yX3_giveBack cX3_giveBack 3 (some .int) :: ((wsX3_giveBack_r1 ++ (wsX3_giveBack_r2 ++ (wsX3_giveBack_r3 ++ wsX3_giveBack_r4))) ++ wsX30 ++ wsX00 ++ wsX20)
def wsX3_clear_r1 : List Cond := [Cond.fieldLink RX3 22 "SlotMaps" "history" "LSlotMaps$History;", Cond.fieldLink RX3 10 "SlotMaps" "now" "LSlotMaps$Slots;", Cond.methodLink RX3 41 yX0_prepare, Cond.instanceMethod yX0_prepare, Cond.selects RX0 yX0_prepare yX0_prepare, Cond.initialized RX0, Cond.code yX0_prepare cX0_prepare 2 none, Cond.fieldLink RX0 11 "SlotMaps$History" "ring" "[LSlotMaps$Slots;", Cond.methodLink RX0 25 yX0_behindLatest, Cond.instanceMethod yX0_behindLatest, Cond.selects RX0 yX0_behindLatest yX0_behindLatest, Cond.code yX0_behindLatest cX0_behindLatest 1 (some .int), Cond.fieldLink RX0 18 "SlotMaps$History" "oldest" "I", Cond.fieldLink RX0 22 "SlotMaps$History" "states" "I", Cond.methodLink RX0 29 yX2_copyFrom, Cond.instanceMethod yX2_copyFrom, Cond.selects RX2 yX2_copyFrom yX2_copyFrom, Cond.initialized RX2, Cond.code yX2_copyFrom cX2_copyFrom 3 none, Cond.fieldLink RX2 11 "SlotMaps$Slots" "bits" "[[I", Cond.methodLink RX2 30 arraycopyName, Cond.native arraycopyName, Cond.static arraycopyName, Cond.initialized "java/lang/System"]
def wsX3_clear_r2 : List Cond := [Cond.fieldLink RX2 16 "SlotMaps$Slots" "blockFirst" "[I", Cond.fieldLink RX2 20 "SlotMaps$Slots" "blockSize" "[I", Cond.fieldLink RX2 23 "SlotMaps$Slots" "summary" "I", Cond.fieldLink RX2 27 "SlotMaps$Slots" "looks" "I", Cond.methodLink RX3 60 yX2_clearWords, Cond.instanceMethod yX2_clearWords, Cond.selects RX2 yX2_clearWords yX2_clearWords, Cond.code yX2_clearWords cX2_clearWords 6 (some .int), Cond.methodLink RX2 57 yX2_change, Cond.instanceMethod yX2_change, Cond.selects RX2 yX2_change yX2_change, Cond.code yX2_change cX2_change 5 none, Cond.methodLink RX2 47 yX2_isFull, Cond.instanceMethod yX2_isFull, Cond.selects RX2 yX2_isFull yX2_isFull, Cond.code yX2_isFull cX2_isFull 2 (some .boolean), Cond.methodLink RX2 80 yJ6_bitCount_0f7a4, Cond.static yJ6_bitCount_0f7a4, Cond.initialized RJ6, Cond.code yJ6_bitCount_0f7a4 cJ6_bitCount_0f7a4 1 (some .int), Cond.constant RJ6 265 (1431655765), Cond.constant RJ6 266 (858993459), Cond.constant RJ6 267 (252645135), Cond.methodLink RX3 49 yX3_settle]
def wsX3_clear_r3 : List Cond := [Cond.instanceMethod yX3_settle, Cond.selects RX3 yX3_settle yX3_settle, Cond.initialized RX3, Cond.code yX3_settle cX3_settle 2 (some .int), Cond.methodLink RX3 169 yX0_takeBack, Cond.instanceMethod yX0_takeBack, Cond.selects RX0 yX0_takeBack yX0_takeBack, Cond.code yX0_takeBack cX0_takeBack 2 none, Cond.methodLink RX3 172 yX0_keep, Cond.instanceMethod yX0_keep, Cond.selects RX0 yX0_keep yX0_keep, Cond.code yX0_keep cX0_keep 1 none]
def wsX3_clear : List Cond := .code yX3_clear cX3_clear 2 (some .int) :: ((wsX3_clear_r1 ++ (wsX3_clear_r2 ++ wsX3_clear_r3)) ++ wsX30 ++ wsX00 ++ wsX20)
def wsX3_reserve_r1 : List Cond := [Cond.fieldLink RX3 22 "SlotMaps" "history" "LSlotMaps$History;", Cond.fieldLink RX3 10 "SlotMaps" "now" "LSlotMaps$Slots;", Cond.methodLink RX3 41 yX0_prepare, Cond.instanceMethod yX0_prepare, Cond.selects RX0 yX0_prepare yX0_prepare, Cond.initialized RX0, Cond.code yX0_prepare cX0_prepare 2 none, Cond.fieldLink RX0 11 "SlotMaps$History" "ring" "[LSlotMaps$Slots;", Cond.methodLink RX0 25 yX0_behindLatest, Cond.instanceMethod yX0_behindLatest, Cond.selects RX0 yX0_behindLatest yX0_behindLatest, Cond.code yX0_behindLatest cX0_behindLatest 1 (some .int), Cond.fieldLink RX0 18 "SlotMaps$History" "oldest" "I", Cond.fieldLink RX0 22 "SlotMaps$History" "states" "I", Cond.methodLink RX0 29 yX2_copyFrom, Cond.instanceMethod yX2_copyFrom, Cond.selects RX2 yX2_copyFrom yX2_copyFrom, Cond.initialized RX2, Cond.code yX2_copyFrom cX2_copyFrom 3 none, Cond.fieldLink RX2 11 "SlotMaps$Slots" "bits" "[[I", Cond.methodLink RX2 30 arraycopyName, Cond.native arraycopyName, Cond.static arraycopyName, Cond.initialized "java/lang/System"]
def wsX3_reserve_r2 : List Cond := [Cond.fieldLink RX2 16 "SlotMaps$Slots" "blockFirst" "[I", Cond.fieldLink RX2 20 "SlotMaps$Slots" "blockSize" "[I", Cond.fieldLink RX2 23 "SlotMaps$Slots" "summary" "I", Cond.fieldLink RX2 27 "SlotMaps$Slots" "looks" "I", Cond.methodLink RX3 63 yX2_reserveBlock, Cond.instanceMethod yX2_reserveBlock, Cond.selects RX2 yX2_reserveBlock yX2_reserveBlock, Cond.code yX2_reserveBlock cX2_reserveBlock 4 (some .int), Cond.static yX3_isBlockSize, Cond.initialized RX3, Cond.code yX3_isBlockSize cX3_isBlockSize 1 (some .boolean), Cond.methodLink RX2 88 yX2_firstUnusedBlock, Cond.instanceMethod yX2_firstUnusedBlock, Cond.selects RX2 yX2_firstUnusedBlock yX2_firstUnusedBlock, Cond.code yX2_firstUnusedBlock cX2_firstUnusedBlock 2 (some .int), Cond.methodLink RX2 97 yX2_hasBlock, Cond.instanceMethod yX2_hasBlock, Cond.selects RX2 yX2_hasBlock yX2_hasBlock, Cond.code yX2_hasBlock cX2_hasBlock 2 (some .boolean), Cond.methodLink RX2 91 yX2_placeStart, Cond.instanceMethod yX2_placeStart, Cond.selects RX2 yX2_placeStart yX2_placeStart, Cond.code yX2_placeStart cX2_placeStart 5 (some .int), Cond.static yX3_wordOf]
def wsX3_reserve_r3 : List Cond := [Cond.code yX3_wordOf cX3_wordOf 1 (some .int), Cond.static yX3_rangeBits, Cond.code yX3_rangeBits cX3_rangeBits 5 (some .int), Cond.methodLink RX3 175 Lib.Math.max.name, Cond.static Lib.Math.max.name, Cond.initialized "java/lang/Math", Cond.code Lib.Math.max.name Lib.Math.max.code 2 (some .int), Cond.methodLink RX3 180 Lib.Math.min.name, Cond.static Lib.Math.min.name, Cond.code Lib.Math.min.name Lib.Math.min.code 2 (some .int), Cond.methodLink RX2 94 yX2_blockBits, Cond.instanceMethod yX2_blockBits, Cond.selects RX2 yX2_blockBits yX2_blockBits, Cond.code yX2_blockBits cX2_blockBits 3 (some .int), Cond.methodLink RX2 57 yX2_change, Cond.instanceMethod yX2_change, Cond.selects RX2 yX2_change yX2_change, Cond.code yX2_change cX2_change 5 none, Cond.methodLink RX2 47 yX2_isFull, Cond.instanceMethod yX2_isFull, Cond.selects RX2 yX2_isFull yX2_isFull, Cond.code yX2_isFull cX2_isFull 2 (some .boolean), Cond.methodLink RX3 49 yX3_settle, Cond.instanceMethod yX3_settle]
def wsX3_reserve_r4 : List Cond := [Cond.selects RX3 yX3_settle yX3_settle, Cond.code yX3_settle cX3_settle 2 (some .int), Cond.methodLink RX3 169 yX0_takeBack, Cond.instanceMethod yX0_takeBack, Cond.selects RX0 yX0_takeBack yX0_takeBack, Cond.code yX0_takeBack cX0_takeBack 2 none, Cond.methodLink RX3 172 yX0_keep, Cond.instanceMethod yX0_keep, Cond.selects RX0 yX0_keep yX0_keep, Cond.code yX0_keep cX0_keep 1 none]
def wsX3_reserve : List Cond := .code yX3_reserve cX3_reserve 2 (some .int) :: ((wsX3_reserve_r1 ++ (wsX3_reserve_r2 ++ (wsX3_reserve_r3 ++ wsX3_reserve_r4))) ++ wsX30 ++ wsX00 ++ wsX20)
def wsX3_takeIn_r1 : List Cond := [Cond.fieldLink RX3 22 "SlotMaps" "history" "LSlotMaps$History;", Cond.fieldLink RX3 10 "SlotMaps" "now" "LSlotMaps$Slots;", Cond.methodLink RX3 41 yX0_prepare, Cond.instanceMethod yX0_prepare, Cond.selects RX0 yX0_prepare yX0_prepare, Cond.initialized RX0, Cond.code yX0_prepare cX0_prepare 2 none, Cond.fieldLink RX0 11 "SlotMaps$History" "ring" "[LSlotMaps$Slots;", Cond.methodLink RX0 25 yX0_behindLatest, Cond.instanceMethod yX0_behindLatest, Cond.selects RX0 yX0_behindLatest yX0_behindLatest, Cond.code yX0_behindLatest cX0_behindLatest 1 (some .int), Cond.fieldLink RX0 18 "SlotMaps$History" "oldest" "I", Cond.fieldLink RX0 22 "SlotMaps$History" "states" "I", Cond.methodLink RX0 29 yX2_copyFrom, Cond.instanceMethod yX2_copyFrom, Cond.selects RX2 yX2_copyFrom yX2_copyFrom, Cond.initialized RX2, Cond.code yX2_copyFrom cX2_copyFrom 3 none, Cond.fieldLink RX2 11 "SlotMaps$Slots" "bits" "[[I", Cond.methodLink RX2 30 arraycopyName, Cond.native arraycopyName, Cond.static arraycopyName, Cond.initialized "java/lang/System"]
def wsX3_takeIn_r2 : List Cond := [Cond.fieldLink RX2 16 "SlotMaps$Slots" "blockFirst" "[I", Cond.fieldLink RX2 20 "SlotMaps$Slots" "blockSize" "[I", Cond.fieldLink RX2 23 "SlotMaps$Slots" "summary" "I", Cond.fieldLink RX2 27 "SlotMaps$Slots" "looks" "I", Cond.methodLink RX3 66 yX2_takeInBlock, Cond.instanceMethod yX2_takeInBlock, Cond.selects RX2 yX2_takeInBlock yX2_takeInBlock, Cond.code yX2_takeInBlock cX2_takeInBlock 5 (some .int), Cond.methodLink RX2 97 yX2_hasBlock, Cond.instanceMethod yX2_hasBlock, Cond.selects RX2 yX2_hasBlock yX2_hasBlock, Cond.code yX2_hasBlock cX2_hasBlock 2 (some .boolean), Cond.static yX3_wordOf, Cond.initialized RX3, Cond.code yX3_wordOf cX3_wordOf 1 (some .int), Cond.methodLink RX2 94 yX2_blockBits, Cond.instanceMethod yX2_blockBits, Cond.selects RX2 yX2_blockBits yX2_blockBits, Cond.code yX2_blockBits cX2_blockBits 3 (some .int), Cond.static yX3_rangeBits, Cond.code yX3_rangeBits cX3_rangeBits 5 (some .int), Cond.methodLink RX3 175 Lib.Math.max.name, Cond.static Lib.Math.max.name, Cond.initialized "java/lang/Math"]
def wsX3_takeIn_r3 : List Cond := [Cond.code Lib.Math.max.name Lib.Math.max.code 2 (some .int), Cond.methodLink RX3 180 Lib.Math.min.name, Cond.static Lib.Math.min.name, Cond.code Lib.Math.min.name Lib.Math.min.code 2 (some .int), Cond.static yX3_lowestBit, Cond.code yX3_lowestBit cX3_lowestBit 1 (some .int), Cond.methodLink RX3 98 yJ6_bitCount_0f7a4, Cond.static yJ6_bitCount_0f7a4, Cond.initialized RJ6, Cond.code yJ6_bitCount_0f7a4 cJ6_bitCount_0f7a4 1 (some .int), Cond.constant RJ6 265 (1431655765), Cond.constant RJ6 266 (858993459), Cond.constant RJ6 267 (252645135), Cond.static yX3_bitOf, Cond.code yX3_bitOf cX3_bitOf 1 (some .int), Cond.methodLink RX2 57 yX2_change, Cond.instanceMethod yX2_change, Cond.selects RX2 yX2_change yX2_change, Cond.code yX2_change cX2_change 5 none, Cond.methodLink RX2 47 yX2_isFull, Cond.instanceMethod yX2_isFull, Cond.selects RX2 yX2_isFull yX2_isFull, Cond.code yX2_isFull cX2_isFull 2 (some .boolean), Cond.methodLink RX3 49 yX3_settle]
def wsX3_takeIn_r4 : List Cond := [Cond.instanceMethod yX3_settle, Cond.selects RX3 yX3_settle yX3_settle, Cond.code yX3_settle cX3_settle 2 (some .int), Cond.methodLink RX3 169 yX0_takeBack, Cond.instanceMethod yX0_takeBack, Cond.selects RX0 yX0_takeBack yX0_takeBack, Cond.code yX0_takeBack cX0_takeBack 2 none, Cond.methodLink RX3 172 yX0_keep, Cond.instanceMethod yX0_keep, Cond.selects RX0 yX0_keep yX0_keep, Cond.code yX0_keep cX0_keep 1 none]
def wsX3_takeIn : List Cond := .code yX3_takeIn cX3_takeIn 2 (some .int) :: ((wsX3_takeIn_r1 ++ (wsX3_takeIn_r2 ++ (wsX3_takeIn_r3 ++ wsX3_takeIn_r4))) ++ wsX30 ++ wsX00 ++ wsX20)
def wsX3_giveUp_r1 : List Cond := [Cond.fieldLink RX3 22 "SlotMaps" "history" "LSlotMaps$History;", Cond.fieldLink RX3 10 "SlotMaps" "now" "LSlotMaps$Slots;", Cond.methodLink RX3 41 yX0_prepare, Cond.instanceMethod yX0_prepare, Cond.selects RX0 yX0_prepare yX0_prepare, Cond.initialized RX0, Cond.code yX0_prepare cX0_prepare 2 none, Cond.fieldLink RX0 11 "SlotMaps$History" "ring" "[LSlotMaps$Slots;", Cond.methodLink RX0 25 yX0_behindLatest, Cond.instanceMethod yX0_behindLatest, Cond.selects RX0 yX0_behindLatest yX0_behindLatest, Cond.code yX0_behindLatest cX0_behindLatest 1 (some .int), Cond.fieldLink RX0 18 "SlotMaps$History" "oldest" "I", Cond.fieldLink RX0 22 "SlotMaps$History" "states" "I", Cond.methodLink RX0 29 yX2_copyFrom, Cond.instanceMethod yX2_copyFrom, Cond.selects RX2 yX2_copyFrom yX2_copyFrom, Cond.initialized RX2, Cond.code yX2_copyFrom cX2_copyFrom 3 none, Cond.fieldLink RX2 11 "SlotMaps$Slots" "bits" "[[I", Cond.methodLink RX2 30 arraycopyName, Cond.native arraycopyName, Cond.static arraycopyName, Cond.initialized "java/lang/System"]
def wsX3_giveUp_r2 : List Cond := [Cond.fieldLink RX2 16 "SlotMaps$Slots" "blockFirst" "[I", Cond.fieldLink RX2 20 "SlotMaps$Slots" "blockSize" "[I", Cond.fieldLink RX2 23 "SlotMaps$Slots" "summary" "I", Cond.fieldLink RX2 27 "SlotMaps$Slots" "looks" "I", Cond.methodLink RX3 69 yX2_giveUpBlock, Cond.instanceMethod yX2_giveUpBlock, Cond.selects RX2 yX2_giveUpBlock yX2_giveUpBlock, Cond.code yX2_giveUpBlock cX2_giveUpBlock 4 (some .int), Cond.methodLink RX2 97 yX2_hasBlock, Cond.instanceMethod yX2_hasBlock, Cond.selects RX2 yX2_hasBlock yX2_hasBlock, Cond.code yX2_hasBlock cX2_hasBlock 2 (some .boolean), Cond.static yX3_wordOf, Cond.initialized RX3, Cond.code yX3_wordOf cX3_wordOf 1 (some .int), Cond.methodLink RX2 94 yX2_blockBits, Cond.instanceMethod yX2_blockBits, Cond.selects RX2 yX2_blockBits yX2_blockBits, Cond.code yX2_blockBits cX2_blockBits 3 (some .int), Cond.static yX3_rangeBits, Cond.code yX3_rangeBits cX3_rangeBits 5 (some .int), Cond.methodLink RX3 175 Lib.Math.max.name, Cond.static Lib.Math.max.name, Cond.initialized "java/lang/Math"]
def wsX3_giveUp_r3 : List Cond := [Cond.code Lib.Math.max.name Lib.Math.max.code 2 (some .int), Cond.methodLink RX3 180 Lib.Math.min.name, Cond.static Lib.Math.min.name, Cond.code Lib.Math.min.name Lib.Math.min.code 2 (some .int), Cond.methodLink RX2 57 yX2_change, Cond.instanceMethod yX2_change, Cond.selects RX2 yX2_change yX2_change, Cond.code yX2_change cX2_change 5 none, Cond.methodLink RX2 47 yX2_isFull, Cond.instanceMethod yX2_isFull, Cond.selects RX2 yX2_isFull yX2_isFull, Cond.code yX2_isFull cX2_isFull 2 (some .boolean), Cond.methodLink RX2 80 yJ6_bitCount_0f7a4, Cond.static yJ6_bitCount_0f7a4, Cond.initialized RJ6, Cond.code yJ6_bitCount_0f7a4 cJ6_bitCount_0f7a4 1 (some .int), Cond.constant RJ6 265 (1431655765), Cond.constant RJ6 266 (858993459), Cond.constant RJ6 267 (252645135), Cond.methodLink RX3 49 yX3_settle, Cond.instanceMethod yX3_settle, Cond.selects RX3 yX3_settle yX3_settle, Cond.code yX3_settle cX3_settle 2 (some .int), Cond.methodLink RX3 169 yX0_takeBack]
def wsX3_giveUp_r4 : List Cond := [Cond.instanceMethod yX0_takeBack, Cond.selects RX0 yX0_takeBack yX0_takeBack, Cond.code yX0_takeBack cX0_takeBack 2 none, Cond.methodLink RX3 172 yX0_keep, Cond.instanceMethod yX0_keep, Cond.selects RX0 yX0_keep yX0_keep, Cond.code yX0_keep cX0_keep 1 none]
def wsX3_giveUp : List Cond := .code yX3_giveUp cX3_giveUp 2 (some .int) :: ((wsX3_giveUp_r1 ++ (wsX3_giveUp_r2 ++ (wsX3_giveUp_r3 ++ wsX3_giveUp_r4))) ++ wsX30 ++ wsX00 ++ wsX20)
def wsX3_damage_r1 : List Cond := [Cond.fieldLink RX3 22 "SlotMaps" "history" "LSlotMaps$History;", Cond.fieldLink RX3 10 "SlotMaps" "now" "LSlotMaps$Slots;", Cond.methodLink RX3 41 yX0_prepare, Cond.instanceMethod yX0_prepare, Cond.selects RX0 yX0_prepare yX0_prepare, Cond.initialized RX0, Cond.code yX0_prepare cX0_prepare 2 none, Cond.fieldLink RX0 11 "SlotMaps$History" "ring" "[LSlotMaps$Slots;", Cond.methodLink RX0 25 yX0_behindLatest, Cond.instanceMethod yX0_behindLatest, Cond.selects RX0 yX0_behindLatest yX0_behindLatest, Cond.code yX0_behindLatest cX0_behindLatest 1 (some .int), Cond.fieldLink RX0 18 "SlotMaps$History" "oldest" "I", Cond.fieldLink RX0 22 "SlotMaps$History" "states" "I", Cond.methodLink RX0 29 yX2_copyFrom, Cond.instanceMethod yX2_copyFrom, Cond.selects RX2 yX2_copyFrom yX2_copyFrom, Cond.initialized RX2, Cond.code yX2_copyFrom cX2_copyFrom 3 none, Cond.fieldLink RX2 11 "SlotMaps$Slots" "bits" "[[I", Cond.methodLink RX2 30 arraycopyName, Cond.native arraycopyName, Cond.static arraycopyName, Cond.initialized "java/lang/System"]
def wsX3_damage_r2 : List Cond := [Cond.fieldLink RX2 16 "SlotMaps$Slots" "blockFirst" "[I", Cond.fieldLink RX2 20 "SlotMaps$Slots" "blockSize" "[I", Cond.fieldLink RX2 23 "SlotMaps$Slots" "summary" "I", Cond.fieldLink RX2 27 "SlotMaps$Slots" "looks" "I", Cond.methodLink RX3 72 yX2_damageBit, Cond.instanceMethod yX2_damageBit, Cond.selects RX2 yX2_damageBit yX2_damageBit, Cond.code yX2_damageBit cX2_damageBit 2 (some .int), Cond.methodLink RX2 44 yX2_summaryBit, Cond.instanceMethod yX2_summaryBit, Cond.selects RX2 yX2_summaryBit yX2_summaryBit, Cond.code yX2_summaryBit cX2_summaryBit 2 (some .int), Cond.methodLink RX3 49 yX3_settle, Cond.instanceMethod yX3_settle, Cond.selects RX3 yX3_settle yX3_settle, Cond.initialized RX3, Cond.code yX3_settle cX3_settle 2 (some .int), Cond.methodLink RX3 169 yX0_takeBack, Cond.instanceMethod yX0_takeBack, Cond.selects RX0 yX0_takeBack yX0_takeBack, Cond.code yX0_takeBack cX0_takeBack 2 none, Cond.methodLink RX3 172 yX0_keep, Cond.instanceMethod yX0_keep, Cond.selects RX0 yX0_keep yX0_keep]
def wsX3_damage_r3 : List Cond := [Cond.code yX0_keep cX0_keep 1 none]
def wsX3_damage : List Cond := .code yX3_damage cX3_damage 2 (some .int) :: ((wsX3_damage_r1 ++ (wsX3_damage_r2 ++ wsX3_damage_r3)) ++ wsX30 ++ wsX00 ++ wsX20)
def wsX3_repair_r1 : List Cond := [Cond.fieldLink RX3 22 "SlotMaps" "history" "LSlotMaps$History;", Cond.fieldLink RX3 10 "SlotMaps" "now" "LSlotMaps$Slots;", Cond.methodLink RX3 41 yX0_prepare, Cond.instanceMethod yX0_prepare, Cond.selects RX0 yX0_prepare yX0_prepare, Cond.initialized RX0, Cond.code yX0_prepare cX0_prepare 2 none, Cond.fieldLink RX0 11 "SlotMaps$History" "ring" "[LSlotMaps$Slots;", Cond.methodLink RX0 25 yX0_behindLatest, Cond.instanceMethod yX0_behindLatest, Cond.selects RX0 yX0_behindLatest yX0_behindLatest, Cond.code yX0_behindLatest cX0_behindLatest 1 (some .int), Cond.fieldLink RX0 18 "SlotMaps$History" "oldest" "I", Cond.fieldLink RX0 22 "SlotMaps$History" "states" "I", Cond.methodLink RX0 29 yX2_copyFrom, Cond.instanceMethod yX2_copyFrom, Cond.selects RX2 yX2_copyFrom yX2_copyFrom, Cond.initialized RX2, Cond.code yX2_copyFrom cX2_copyFrom 3 none, Cond.fieldLink RX2 11 "SlotMaps$Slots" "bits" "[[I", Cond.methodLink RX2 30 arraycopyName, Cond.native arraycopyName, Cond.static arraycopyName, Cond.initialized "java/lang/System"]
def wsX3_repair_r2 : List Cond := [Cond.fieldLink RX2 16 "SlotMaps$Slots" "blockFirst" "[I", Cond.fieldLink RX2 20 "SlotMaps$Slots" "blockSize" "[I", Cond.fieldLink RX2 23 "SlotMaps$Slots" "summary" "I", Cond.fieldLink RX2 27 "SlotMaps$Slots" "looks" "I", Cond.methodLink RX3 75 yX2_repairBits, Cond.instanceMethod yX2_repairBits, Cond.selects RX2 yX2_repairBits yX2_repairBits, Cond.code yX2_repairBits cX2_repairBits 3 (some .int), Cond.methodLink RX2 100 yX2_rightSummary, Cond.instanceMethod yX2_rightSummary, Cond.selects RX2 yX2_rightSummary yX2_rightSummary, Cond.code yX2_rightSummary cX2_rightSummary 3 (some .int), Cond.methodLink RX2 47 yX2_isFull, Cond.instanceMethod yX2_isFull, Cond.selects RX2 yX2_isFull yX2_isFull, Cond.code yX2_isFull cX2_isFull 2 (some .boolean), Cond.methodLink RX2 80 yJ6_bitCount_0f7a4, Cond.static yJ6_bitCount_0f7a4, Cond.initialized RJ6, Cond.code yJ6_bitCount_0f7a4 cJ6_bitCount_0f7a4 1 (some .int), Cond.constant RJ6 265 (1431655765), Cond.constant RJ6 266 (858993459), Cond.constant RJ6 267 (252645135), Cond.methodLink RX3 49 yX3_settle]
def wsX3_repair_r3 : List Cond := [Cond.instanceMethod yX3_settle, Cond.selects RX3 yX3_settle yX3_settle, Cond.initialized RX3, Cond.code yX3_settle cX3_settle 2 (some .int), Cond.methodLink RX3 169 yX0_takeBack, Cond.instanceMethod yX0_takeBack, Cond.selects RX0 yX0_takeBack yX0_takeBack, Cond.code yX0_takeBack cX0_takeBack 2 none, Cond.methodLink RX3 172 yX0_keep, Cond.instanceMethod yX0_keep, Cond.selects RX0 yX0_keep yX0_keep, Cond.code yX0_keep cX0_keep 1 none]
def wsX3_repair : List Cond := .code yX3_repair cX3_repair 1 (some .int) :: ((wsX3_repair_r1 ++ (wsX3_repair_r2 ++ wsX3_repair_r3)) ++ wsX30 ++ wsX00 ++ wsX20)
def wsX3_undo_r1 : List Cond := [Cond.fieldLink RX3 22 "SlotMaps" "history" "LSlotMaps$History;", Cond.fieldLink RX3 10 "SlotMaps" "now" "LSlotMaps$Slots;", Cond.methodLink RX3 78 yX0_restoreLatest, Cond.instanceMethod yX0_restoreLatest, Cond.selects RX0 yX0_restoreLatest yX0_restoreLatest, Cond.initialized RX0, Cond.code yX0_restoreLatest cX0_restoreLatest 2 (some .int), Cond.fieldLink RX0 22 "SlotMaps$History" "states" "I", Cond.methodLink RX0 33 yX0_takeBack, Cond.instanceMethod yX0_takeBack, Cond.selects RX0 yX0_takeBack yX0_takeBack, Cond.code yX0_takeBack cX0_takeBack 2 none, Cond.fieldLink RX0 11 "SlotMaps$History" "ring" "[LSlotMaps$Slots;", Cond.methodLink RX0 25 yX0_behindLatest, Cond.instanceMethod yX0_behindLatest, Cond.selects RX0 yX0_behindLatest yX0_behindLatest, Cond.code yX0_behindLatest cX0_behindLatest 1 (some .int), Cond.fieldLink RX0 18 "SlotMaps$History" "oldest" "I", Cond.methodLink RX0 29 yX2_copyFrom, Cond.instanceMethod yX2_copyFrom, Cond.selects RX2 yX2_copyFrom yX2_copyFrom, Cond.initialized RX2, Cond.code yX2_copyFrom cX2_copyFrom 3 none, Cond.fieldLink RX2 11 "SlotMaps$Slots" "bits" "[[I"]
def wsX3_undo_r2 : List Cond := [Cond.methodLink RX2 30 arraycopyName, Cond.native arraycopyName, Cond.static arraycopyName, Cond.initialized "java/lang/System", Cond.fieldLink RX2 16 "SlotMaps$Slots" "blockFirst" "[I", Cond.fieldLink RX2 20 "SlotMaps$Slots" "blockSize" "[I", Cond.fieldLink RX2 23 "SlotMaps$Slots" "summary" "I", Cond.fieldLink RX2 27 "SlotMaps$Slots" "looks" "I"]
def wsX3_undo : List Cond := .code yX3_undo cX3_undo 1 (some .int) :: ((wsX3_undo_r1 ++ wsX3_undo_r2) ++ wsX30 ++ wsX00 ++ wsX20)
def wsX3_append : List Cond := .code yX3_append cX3_append 2 (some .int) :: ([.fieldLink RX3 37 "SlotMaps" "textLength" "I", .fieldLink RX3 33 "SlotMaps" "text" "[C"] ++ wsX30)
def wsX3_clearText : List Cond := .code yX3_clearText cX3_clearText 2 (some .int) :: ([.fieldLink RX3 37 "SlotMaps" "textLength" "I"] ++ wsX30)
def wsX3_run_r1 : List Cond := [Cond.fieldLink RX3 22 "SlotMaps" "history" "LSlotMaps$History;", Cond.fieldLink RX3 10 "SlotMaps" "now" "LSlotMaps$Slots;", Cond.fieldLink RX3 29 "SlotMaps" "program" "LSlotMaps$Program;", Cond.fieldLink RX3 33 "SlotMaps" "text" "[C", Cond.fieldLink RX3 37 "SlotMaps" "textLength" "I", Cond.methodLink RX3 41 yX0_prepare, Cond.instanceMethod yX0_prepare, Cond.selects RX0 yX0_prepare yX0_prepare, Cond.initialized RX0, Cond.code yX0_prepare cX0_prepare 2 none, Cond.fieldLink RX0 11 "SlotMaps$History" "ring" "[LSlotMaps$Slots;", Cond.methodLink RX0 25 yX0_behindLatest, Cond.instanceMethod yX0_behindLatest, Cond.selects RX0 yX0_behindLatest yX0_behindLatest, Cond.code yX0_behindLatest cX0_behindLatest 1 (some .int), Cond.fieldLink RX0 18 "SlotMaps$History" "oldest" "I", Cond.fieldLink RX0 22 "SlotMaps$History" "states" "I", Cond.methodLink RX0 29 yX2_copyFrom, Cond.instanceMethod yX2_copyFrom, Cond.selects RX2 yX2_copyFrom yX2_copyFrom, Cond.initialized RX2, Cond.code yX2_copyFrom cX2_copyFrom 3 none, Cond.fieldLink RX2 11 "SlotMaps$Slots" "bits" "[[I", Cond.methodLink RX2 30 arraycopyName]
def wsX3_run_r2 : List Cond := [Cond.native arraycopyName, Cond.static arraycopyName, Cond.initialized "java/lang/System", Cond.fieldLink RX2 16 "SlotMaps$Slots" "blockFirst" "[I", Cond.fieldLink RX2 20 "SlotMaps$Slots" "blockSize" "[I", Cond.fieldLink RX2 23 "SlotMaps$Slots" "summary" "I", Cond.fieldLink RX2 27 "SlotMaps$Slots" "looks" "I", Cond.methodLink RX3 82 yX1_execute, Cond.instanceMethod yX1_execute, Cond.selects RX1 yX1_execute yX1_execute, Cond.initialized RX1, Cond.code yX1_execute cX1_execute 7 (some .int), Cond.fieldLink RX1 11 "SlotMaps$Program" "letter" "C", Cond.fieldLink RX1 23 "SlotMaps$Program" "letterPlace" "I", Cond.methodLink RX1 15 yX1_readCharacter, Cond.instanceMethod yX1_readCharacter, Cond.selects RX1 yX1_readCharacter yX1_readCharacter, Cond.code yX1_readCharacter cX1_readCharacter 3 (some .boolean), Cond.methodLink RX1 27 yX1_readLetter, Cond.instanceMethod yX1_readLetter, Cond.selects RX1 yX1_readLetter yX1_readLetter, Cond.code yX1_readLetter cX1_readLetter 3 (some .boolean), Cond.fieldLink RX1 41 "SlotMaps$Program" "hasFrom" "Z", Cond.fieldLink RX1 45 "SlotMaps$Program" "number" "I"]
def wsX3_run_r3 : List Cond := [Cond.fieldLink RX1 48 "SlotMaps$Program" "digits" "I", Cond.methodLink RX1 30 yX1_readDigit, Cond.instanceMethod yX1_readDigit, Cond.selects RX1 yX1_readDigit yX1_readDigit, Cond.code yX1_readDigit cX1_readDigit 3 (some .boolean), Cond.methodLink RX1 34 yX1_readDash, Cond.instanceMethod yX1_readDash, Cond.selects RX1 yX1_readDash yX1_readDash, Cond.code yX1_readDash cX1_readDash 1 (some .boolean), Cond.fieldLink RX1 51 "SlotMaps$Program" "from" "I", Cond.methodLink RX1 38 yX1_mayEnd, Cond.instanceMethod yX1_mayEnd, Cond.selects RX1 yX1_mayEnd yX1_mayEnd, Cond.code yX1_mayEnd cX1_mayEnd 1 (some .boolean), Cond.methodLink RX1 19 yX1_perform, Cond.instanceMethod yX1_perform, Cond.selects RX1 yX1_perform yX1_perform, Cond.code yX1_perform cX1_perform 2 (some .int), Cond.methodLink RX1 54 yX2_takeMany, Cond.instanceMethod yX2_takeMany, Cond.selects RX2 yX2_takeMany yX2_takeMany, Cond.code yX2_takeMany cX2_takeMany 3 (some .int), Cond.methodLink RX2 61 yX2_takeOne, Cond.instanceMethod yX2_takeOne]
def wsX3_run_r4 : List Cond := [Cond.selects RX2 yX2_takeOne yX2_takeOne, Cond.code yX2_takeOne cX2_takeOne 2 (some .int), Cond.methodLink RX2 36 yX2_takeBySummaries, Cond.instanceMethod yX2_takeBySummaries, Cond.selects RX2 yX2_takeBySummaries yX2_takeBySummaries, Cond.code yX2_takeBySummaries cX2_takeBySummaries 3 (some .int), Cond.methodLink RX2 44 yX2_summaryBit, Cond.instanceMethod yX2_summaryBit, Cond.selects RX2 yX2_summaryBit yX2_summaryBit, Cond.code yX2_summaryBit cX2_summaryBit 2 (some .int), Cond.methodLink RX2 47 yX2_isFull, Cond.instanceMethod yX2_isFull, Cond.selects RX2 yX2_isFull yX2_isFull, Cond.code yX2_isFull cX2_isFull 2 (some .boolean), Cond.static yX3_lowestBit, Cond.initialized RX3, Cond.code yX3_lowestBit cX3_lowestBit 1 (some .int), Cond.methodLink RX3 98 yJ6_bitCount_0f7a4, Cond.static yJ6_bitCount_0f7a4, Cond.initialized RJ6, Cond.code yJ6_bitCount_0f7a4 cJ6_bitCount_0f7a4 1 (some .int), Cond.constant RJ6 265 (1431655765), Cond.constant RJ6 266 (858993459), Cond.constant RJ6 267 (252645135)]
def wsX3_run_r5 : List Cond := [Cond.static yX3_bitOf, Cond.code yX3_bitOf cX3_bitOf 1 (some .int), Cond.methodLink RX2 57 yX2_change, Cond.instanceMethod yX2_change, Cond.selects RX2 yX2_change yX2_change, Cond.code yX2_change cX2_change 5 none, Cond.methodLink RX2 40 yX2_clearWords, Cond.instanceMethod yX2_clearWords, Cond.selects RX2 yX2_clearWords yX2_clearWords, Cond.code yX2_clearWords cX2_clearWords 6 (some .int), Cond.methodLink RX2 80 yJ6_bitCount_0f7a4, Cond.methodLink RX1 60 yX2_giveBackRange, Cond.instanceMethod yX2_giveBackRange, Cond.selects RX2 yX2_giveBackRange yX2_giveBackRange, Cond.code yX2_giveBackRange cX2_giveBackRange 7 (some .int), Cond.static yX3_rangeBits, Cond.code yX3_rangeBits cX3_rangeBits 5 (some .int), Cond.methodLink RX3 175 Lib.Math.max.name, Cond.static Lib.Math.max.name, Cond.initialized "java/lang/Math", Cond.code Lib.Math.max.name Lib.Math.max.code 2 (some .int), Cond.methodLink RX3 180 Lib.Math.min.name, Cond.static Lib.Math.min.name, Cond.code Lib.Math.min.name Lib.Math.min.code 2 (some .int)]
def wsX3_run_r6 : List Cond := [Cond.methodLink RX2 77 yX2_ownedBits, Cond.instanceMethod yX2_ownedBits, Cond.selects RX2 yX2_ownedBits yX2_ownedBits, Cond.code yX2_ownedBits cX2_ownedBits 4 (some .int), Cond.static yX3_wordOf, Cond.code yX3_wordOf cX3_wordOf 1 (some .int), Cond.methodLink RX2 94 yX2_blockBits, Cond.instanceMethod yX2_blockBits, Cond.selects RX2 yX2_blockBits yX2_blockBits, Cond.code yX2_blockBits cX2_blockBits 3 (some .int), Cond.methodLink RX1 64 yX2_clearWords, Cond.methodLink RX1 67 yX2_reserveBlock, Cond.instanceMethod yX2_reserveBlock, Cond.selects RX2 yX2_reserveBlock yX2_reserveBlock, Cond.code yX2_reserveBlock cX2_reserveBlock 4 (some .int), Cond.static yX3_isBlockSize, Cond.code yX3_isBlockSize cX3_isBlockSize 1 (some .boolean), Cond.methodLink RX2 88 yX2_firstUnusedBlock, Cond.instanceMethod yX2_firstUnusedBlock, Cond.selects RX2 yX2_firstUnusedBlock yX2_firstUnusedBlock, Cond.code yX2_firstUnusedBlock cX2_firstUnusedBlock 2 (some .int), Cond.methodLink RX2 97 yX2_hasBlock, Cond.instanceMethod yX2_hasBlock, Cond.selects RX2 yX2_hasBlock yX2_hasBlock]
def wsX3_run_r7 : List Cond := [Cond.code yX2_hasBlock cX2_hasBlock 2 (some .boolean), Cond.methodLink RX2 91 yX2_placeStart, Cond.instanceMethod yX2_placeStart, Cond.selects RX2 yX2_placeStart yX2_placeStart, Cond.code yX2_placeStart cX2_placeStart 5 (some .int), Cond.methodLink RX1 70 yX2_takeInBlock, Cond.instanceMethod yX2_takeInBlock, Cond.selects RX2 yX2_takeInBlock yX2_takeInBlock, Cond.code yX2_takeInBlock cX2_takeInBlock 5 (some .int), Cond.methodLink RX1 73 yX2_damageBit, Cond.instanceMethod yX2_damageBit, Cond.selects RX2 yX2_damageBit yX2_damageBit, Cond.code yX2_damageBit cX2_damageBit 2 (some .int), Cond.methodLink RX1 76 yX2_repairBits, Cond.instanceMethod yX2_repairBits, Cond.selects RX2 yX2_repairBits yX2_repairBits, Cond.code yX2_repairBits cX2_repairBits 3 (some .int), Cond.methodLink RX2 100 yX2_rightSummary, Cond.instanceMethod yX2_rightSummary, Cond.selects RX2 yX2_rightSummary yX2_rightSummary, Cond.code yX2_rightSummary cX2_rightSummary 3 (some .int), Cond.methodLink RX3 49 yX3_settle, Cond.instanceMethod yX3_settle, Cond.selects RX3 yX3_settle yX3_settle]
def wsX3_run_r8 : List Cond := [Cond.code yX3_settle cX3_settle 2 (some .int), Cond.methodLink RX3 169 yX0_takeBack, Cond.instanceMethod yX0_takeBack, Cond.selects RX0 yX0_takeBack yX0_takeBack, Cond.code yX0_takeBack cX0_takeBack 2 none, Cond.methodLink RX3 172 yX0_keep, Cond.instanceMethod yX0_keep, Cond.selects RX0 yX0_keep yX0_keep, Cond.code yX0_keep cX0_keep 1 none]
def wsX3_run : List Cond := .code yX3_run cX3_run 1 (some .int) :: ((wsX3_run_r1 ++ (wsX3_run_r2 ++ (wsX3_run_r3 ++ (wsX3_run_r4 ++ (wsX3_run_r5 ++ (wsX3_run_r6 ++ (wsX3_run_r7 ++ wsX3_run_r8))))))) ++ wsX30 ++ wsX00 ++ wsX20 ++ wsX10)
def wsX3_count_r1 : List Cond := [Cond.fieldLink RX3 10 "SlotMaps" "now" "LSlotMaps$Slots;", Cond.fieldLink RX3 22 "SlotMaps" "history" "LSlotMaps$History;", Cond.fieldLink RX3 37 "SlotMaps" "textLength" "I", Cond.methodLink RX3 86 yX2_total, Cond.instanceMethod yX2_total, Cond.selects RX2 yX2_total yX2_total, Cond.initialized RX2, Cond.code yX2_total cX2_total 4 (some .int), Cond.fieldLink RX2 11 "SlotMaps$Slots" "bits" "[[I", Cond.methodLink RX2 80 yJ6_bitCount_0f7a4, Cond.static yJ6_bitCount_0f7a4, Cond.initialized RJ6, Cond.code yJ6_bitCount_0f7a4 cJ6_bitCount_0f7a4 1 (some .int), Cond.constant RJ6 265 (1431655765), Cond.constant RJ6 266 (858993459), Cond.constant RJ6 267 (252645135), Cond.methodLink RX3 89 yX2_blockTotal, Cond.instanceMethod yX2_blockTotal, Cond.selects RX2 yX2_blockTotal yX2_blockTotal, Cond.code yX2_blockTotal cX2_blockTotal 3 (some .int), Cond.methodLink RX2 97 yX2_hasBlock, Cond.instanceMethod yX2_hasBlock, Cond.selects RX2 yX2_hasBlock yX2_hasBlock, Cond.code yX2_hasBlock cX2_hasBlock 2 (some .boolean)]
def wsX3_count_r2 : List Cond := [Cond.fieldLink RX2 20 "SlotMaps$Slots" "blockSize" "[I", Cond.methodLink RX3 98 yJ6_bitCount_0f7a4, Cond.methodLink RX3 103 yX2_rightSummary, Cond.instanceMethod yX2_rightSummary, Cond.selects RX2 yX2_rightSummary yX2_rightSummary, Cond.code yX2_rightSummary cX2_rightSummary 3 (some .int), Cond.methodLink RX2 47 yX2_isFull, Cond.instanceMethod yX2_isFull, Cond.selects RX2 yX2_isFull yX2_isFull, Cond.code yX2_isFull cX2_isFull 2 (some .boolean), Cond.methodLink RX3 106 yX2_freeRuns, Cond.instanceMethod yX2_freeRuns, Cond.selects RX2 yX2_freeRuns yX2_freeRuns, Cond.code yX2_freeRuns cX2_freeRuns 5 (some .int), Cond.methodLink RX2 103 yX2_isFree, Cond.instanceMethod yX2_isFree, Cond.selects RX2 yX2_isFree yX2_isFree, Cond.code yX2_isFree cX2_isFree 2 (some .boolean), Cond.static yX3_wordOf, Cond.initialized RX3, Cond.code yX3_wordOf cX3_wordOf 1 (some .int), Cond.static yX3_bitOf, Cond.code yX3_bitOf cX3_bitOf 1 (some .int), Cond.methodLink RX3 109 yX2_longestFreeRun]
def wsX3_count_r3 : List Cond := [Cond.instanceMethod yX2_longestFreeRun, Cond.selects RX2 yX2_longestFreeRun yX2_longestFreeRun, Cond.code yX2_longestFreeRun cX2_longestFreeRun 4 (some .int), Cond.methodLink RX2 106 Lib.Math.max.name, Cond.static Lib.Math.max.name, Cond.initialized "java/lang/Math", Cond.code Lib.Math.max.name Lib.Math.max.code 2 (some .int)]
def wsX3_count : List Cond := .code yX3_count cX3_count 2 (some .int) :: ((wsX3_count_r1 ++ (wsX3_count_r2 ++ wsX3_count_r3)) ++ wsX30 ++ wsX20 ++ wsX00)
def wsX3_slot : List Cond := .code yX3_slot cX3_slot 3 (some .int) :: ([.fieldLink RX3 10 "SlotMaps" "now" "LSlotMaps$Slots;", .methodLink RX3 115 yX2_kindOf, .instanceMethod yX2_kindOf, .selects RX2 yX2_kindOf yX2_kindOf, .initialized RX2, .code yX2_kindOf cX2_kindOf 3 (some .int), .fieldLink RX2 11 "SlotMaps$Slots" "bits" "[[I", .static yX3_wordOf, .initialized RX3, .code yX3_wordOf cX3_wordOf 1 (some .int), .static yX3_bitOf, .code yX3_bitOf cX3_bitOf 1 (some .int), .methodLink RX3 118 yX2_blockOf, .instanceMethod yX2_blockOf, .selects RX2 yX2_blockOf yX2_blockOf, .code yX2_blockOf cX2_blockOf 3 (some .int), .fieldLink RX2 16 "SlotMaps$Slots" "blockFirst" "[I", .fieldLink RX2 20 "SlotMaps$Slots" "blockSize" "[I"] ++ wsX30 ++ wsX20)
def wsX3_word_r1 : List Cond := [Cond.fieldLink RX3 10 "SlotMaps" "now" "LSlotMaps$Slots;", Cond.methodLink RX3 98 yJ6_bitCount_0f7a4, Cond.static yJ6_bitCount_0f7a4, Cond.initialized RJ6, Cond.code yJ6_bitCount_0f7a4 cJ6_bitCount_0f7a4 1 (some .int), Cond.constant RJ6 265 (1431655765), Cond.constant RJ6 266 (858993459), Cond.constant RJ6 267 (252645135), Cond.methodLink RX3 125 yX2_summaryBit, Cond.instanceMethod yX2_summaryBit, Cond.selects RX2 yX2_summaryBit yX2_summaryBit, Cond.initialized RX2, Cond.code yX2_summaryBit cX2_summaryBit 2 (some .int), Cond.fieldLink RX2 23 "SlotMaps$Slots" "summary" "I", Cond.methodLink RX3 128 yX2_isFull, Cond.instanceMethod yX2_isFull, Cond.selects RX2 yX2_isFull yX2_isFull, Cond.code yX2_isFull cX2_isFull 2 (some .boolean), Cond.fieldLink RX2 11 "SlotMaps$Slots" "bits" "[[I", Cond.methodLink RX3 132 yX2_firstFree, Cond.instanceMethod yX2_firstFree, Cond.selects RX2 yX2_firstFree yX2_firstFree, Cond.code yX2_firstFree cX2_firstFree 2 (some .int), Cond.methodLink RX2 47 yX2_isFull]
def wsX3_word_r2 : List Cond := [Cond.static yX3_lowestBit, Cond.initialized RX3, Cond.code yX3_lowestBit cX3_lowestBit 1 (some .int)]
def wsX3_word : List Cond := .code yX3_word cX3_word 3 (some .int) :: ((wsX3_word_r1 ++ wsX3_word_r2) ++ wsX30 ++ wsX20)
def wsX3_block_r1 : List Cond := [Cond.fieldLink RX3 10 "SlotMaps" "now" "LSlotMaps$Slots;", Cond.methodLink RX3 135 yX2_hasBlock, Cond.instanceMethod yX2_hasBlock, Cond.selects RX2 yX2_hasBlock yX2_hasBlock, Cond.initialized RX2, Cond.code yX2_hasBlock cX2_hasBlock 2 (some .boolean), Cond.fieldLink RX2 20 "SlotMaps$Slots" "blockSize" "[I", Cond.methodLink RX3 145 yX2_totalInBlock, Cond.instanceMethod yX2_totalInBlock, Cond.selects RX2 yX2_totalInBlock yX2_totalInBlock, Cond.code yX2_totalInBlock cX2_totalInBlock 3 (some .int), Cond.fieldLink RX2 11 "SlotMaps$Slots" "bits" "[[I", Cond.fieldLink RX2 16 "SlotMaps$Slots" "blockFirst" "[I", Cond.static yX3_wordOf, Cond.initialized RX3, Cond.code yX3_wordOf cX3_wordOf 1 (some .int), Cond.methodLink RX2 94 yX2_blockBits, Cond.instanceMethod yX2_blockBits, Cond.selects RX2 yX2_blockBits yX2_blockBits, Cond.code yX2_blockBits cX2_blockBits 3 (some .int), Cond.static yX3_rangeBits, Cond.code yX3_rangeBits cX3_rangeBits 5 (some .int), Cond.methodLink RX3 175 Lib.Math.max.name, Cond.static Lib.Math.max.name]
def wsX3_block_r2 : List Cond := [Cond.initialized "java/lang/Math", Cond.code Lib.Math.max.name Lib.Math.max.code 2 (some .int), Cond.methodLink RX3 180 Lib.Math.min.name, Cond.static Lib.Math.min.name, Cond.code Lib.Math.min.name Lib.Math.min.code 2 (some .int), Cond.methodLink RX2 80 yJ6_bitCount_0f7a4, Cond.static yJ6_bitCount_0f7a4, Cond.initialized RJ6, Cond.code yJ6_bitCount_0f7a4 cJ6_bitCount_0f7a4 1 (some .int), Cond.constant RJ6 265 (1431655765), Cond.constant RJ6 266 (858993459), Cond.constant RJ6 267 (252645135)]
def wsX3_block : List Cond := .code yX3_block cX3_block 3 (some .int) :: ((wsX3_block_r1 ++ wsX3_block_r2) ++ wsX30 ++ wsX20)
def wsX3_audit : List Cond := .code yX3_audit cX3_audit 3 (some .int) :: ([.fieldLink RX3 10 "SlotMaps" "now" "LSlotMaps$Slots;", .methodLink RX3 103 yX2_rightSummary, .instanceMethod yX2_rightSummary, .selects RX2 yX2_rightSummary yX2_rightSummary, .initialized RX2, .code yX2_rightSummary cX2_rightSummary 3 (some .int), .methodLink RX2 47 yX2_isFull, .instanceMethod yX2_isFull, .selects RX2 yX2_isFull yX2_isFull, .code yX2_isFull cX2_isFull 2 (some .boolean), .fieldLink RX2 11 "SlotMaps$Slots" "bits" "[[I", .methodLink RX3 98 yJ6_bitCount_0f7a4, .static yJ6_bitCount_0f7a4, .initialized RJ6, .code yJ6_bitCount_0f7a4 cJ6_bitCount_0f7a4 1 (some .int), .constant RJ6 265 (1431655765), .constant RJ6 266 (858993459), .constant RJ6 267 (252645135), .methodLink RX3 148 yX3_lowestBit, .static yX3_lowestBit, .initialized RX3, .code yX3_lowestBit cX3_lowestBit 1 (some .int)] ++ wsX30 ++ wsX20)
def wsX3_next_r1 : List Cond := [Cond.fieldLink RX3 16 "SlotMaps" "trial" "LSlotMaps$Slots;", Cond.fieldLink RX3 10 "SlotMaps" "now" "LSlotMaps$Slots;", Cond.methodLink RX3 151 yX2_copyFrom, Cond.instanceMethod yX2_copyFrom, Cond.selects RX2 yX2_copyFrom yX2_copyFrom, Cond.initialized RX2, Cond.code yX2_copyFrom cX2_copyFrom 3 none, Cond.fieldLink RX2 11 "SlotMaps$Slots" "bits" "[[I", Cond.methodLink RX2 30 arraycopyName, Cond.native arraycopyName, Cond.static arraycopyName, Cond.initialized "java/lang/System", Cond.fieldLink RX2 16 "SlotMaps$Slots" "blockFirst" "[I", Cond.fieldLink RX2 20 "SlotMaps$Slots" "blockSize" "[I", Cond.fieldLink RX2 23 "SlotMaps$Slots" "summary" "I", Cond.fieldLink RX2 27 "SlotMaps$Slots" "looks" "I", Cond.methodLink RX3 45 yX2_takeOne, Cond.instanceMethod yX2_takeOne, Cond.selects RX2 yX2_takeOne yX2_takeOne, Cond.code yX2_takeOne cX2_takeOne 2 (some .int), Cond.methodLink RX2 36 yX2_takeBySummaries, Cond.instanceMethod yX2_takeBySummaries, Cond.selects RX2 yX2_takeBySummaries yX2_takeBySummaries, Cond.code yX2_takeBySummaries cX2_takeBySummaries 3 (some .int)]
def wsX3_next_r2 : List Cond := [Cond.methodLink RX2 44 yX2_summaryBit, Cond.instanceMethod yX2_summaryBit, Cond.selects RX2 yX2_summaryBit yX2_summaryBit, Cond.code yX2_summaryBit cX2_summaryBit 2 (some .int), Cond.methodLink RX2 47 yX2_isFull, Cond.instanceMethod yX2_isFull, Cond.selects RX2 yX2_isFull yX2_isFull, Cond.code yX2_isFull cX2_isFull 2 (some .boolean), Cond.static yX3_lowestBit, Cond.initialized RX3, Cond.code yX3_lowestBit cX3_lowestBit 1 (some .int), Cond.methodLink RX3 98 yJ6_bitCount_0f7a4, Cond.static yJ6_bitCount_0f7a4, Cond.initialized RJ6, Cond.code yJ6_bitCount_0f7a4 cJ6_bitCount_0f7a4 1 (some .int), Cond.constant RJ6 265 (1431655765), Cond.constant RJ6 266 (858993459), Cond.constant RJ6 267 (252645135), Cond.static yX3_bitOf, Cond.code yX3_bitOf cX3_bitOf 1 (some .int), Cond.methodLink RX2 57 yX2_change, Cond.instanceMethod yX2_change, Cond.selects RX2 yX2_change yX2_change, Cond.code yX2_change cX2_change 5 none]
def wsX3_next_r3 : List Cond := [Cond.methodLink RX2 40 yX2_clearWords, Cond.instanceMethod yX2_clearWords, Cond.selects RX2 yX2_clearWords yX2_clearWords, Cond.code yX2_clearWords cX2_clearWords 6 (some .int), Cond.methodLink RX2 80 yJ6_bitCount_0f7a4, Cond.methodLink RX3 86 yX2_total, Cond.instanceMethod yX2_total, Cond.selects RX2 yX2_total yX2_total, Cond.code yX2_total cX2_total 4 (some .int)]
def wsX3_next : List Cond := .code yX3_next cX3_next 3 (some .int) :: ((wsX3_next_r1 ++ (wsX3_next_r2 ++ wsX3_next_r3)) ++ wsX30 ++ wsX20)
def wsX3_runAt : List Cond := .code yX3_runAt cX3_runAt 2 (some .int) :: ([.fieldLink RX3 10 "SlotMaps" "now" "LSlotMaps$Slots;", .methodLink RX3 154 yX3_isRunLength, .static yX3_isRunLength, .initialized RX3, .code yX3_isRunLength cX3_isRunLength 1 (some .boolean), .methodLink RX3 157 yX2_runStart, .instanceMethod yX2_runStart, .selects RX2 yX2_runStart yX2_runStart, .initialized RX2, .code yX2_runStart cX2_runStart 4 (some .int), .methodLink RX2 103 yX2_isFree, .instanceMethod yX2_isFree, .selects RX2 yX2_isFree yX2_isFree, .code yX2_isFree cX2_isFree 2 (some .boolean), .fieldLink RX2 11 "SlotMaps$Slots" "bits" "[[I", .static yX3_wordOf, .code yX3_wordOf cX3_wordOf 1 (some .int), .static yX3_bitOf, .code yX3_bitOf cX3_bitOf 1 (some .int)] ++ wsX30 ++ wsX20)
def wsX3_placeFor : List Cond := .code yX3_placeFor cX3_placeFor 2 (some .int) :: ([.fieldLink RX3 10 "SlotMaps" "now" "LSlotMaps$Slots;", .methodLink RX3 160 yX3_isBlockSize, .static yX3_isBlockSize, .initialized RX3, .code yX3_isBlockSize cX3_isBlockSize 1 (some .boolean), .methodLink RX3 163 yX2_placeStart, .instanceMethod yX2_placeStart, .selects RX2 yX2_placeStart yX2_placeStart, .initialized RX2, .code yX2_placeStart cX2_placeStart 5 (some .int), .fieldLink RX2 11 "SlotMaps$Slots" "bits" "[[I", .static yX3_wordOf, .code yX3_wordOf cX3_wordOf 1 (some .int), .static yX3_rangeBits, .code yX3_rangeBits cX3_rangeBits 5 (some .int), .methodLink RX3 175 Lib.Math.max.name, .static Lib.Math.max.name, .initialized "java/lang/Math", .code Lib.Math.max.name Lib.Math.max.code 2 (some .int), .methodLink RX3 180 Lib.Math.min.name, .static Lib.Math.min.name, .code Lib.Math.min.name Lib.Math.min.code 2 (some .int)] ++ wsX30 ++ wsX20)
def wsX3_takes : List Cond := .code yX3_takes cX3_takes 1 (some .int) :: ([.fieldLink RX3 10 "SlotMaps" "now" "LSlotMaps$Slots;", .methodLink RX3 166 yX2_reachable, .instanceMethod yX2_reachable, .selects RX2 yX2_reachable yX2_reachable, .initialized RX2, .code yX2_reachable cX2_reachable 3 (some .int), .fieldLink RX2 11 "SlotMaps$Slots" "bits" "[[I", .methodLink RX2 44 yX2_summaryBit, .instanceMethod yX2_summaryBit, .selects RX2 yX2_summaryBit yX2_summaryBit, .code yX2_summaryBit cX2_summaryBit 2 (some .int), .fieldLink RX2 23 "SlotMaps$Slots" "summary" "I", .methodLink RX2 80 yJ6_bitCount_0f7a4, .static yJ6_bitCount_0f7a4, .initialized RJ6, .code yJ6_bitCount_0f7a4 cJ6_bitCount_0f7a4 1 (some .int), .constant RJ6 265 (1431655765), .constant RJ6 266 (858993459), .constant RJ6 267 (252645135)] ++ wsX30 ++ wsX20)
def wsX4_init : List Cond := .code yX4_init cX4_init 1 none :: ([.methodLink RX4 1 objectInit, .instanceMethod objectInit, .code objectInit ⟨#[0xb1]⟩ 1 none, .arrayClass .int, .fieldLink RX4 7 "SlotMapsModel" "now" "[I", .fieldLink RX4 13 "SlotMapsModel" "past" "[I", .fieldLink RX4 16 "SlotMapsModel" "before" "[I", .fieldLink RX4 19 "SlotMapsModel" "trial" "[I", .fieldLink RX4 22 "SlotMapsModel" "text" "[I"] ++ wsX40)
def wsX4_in : List Cond := .code yX4_in cX4_in 3 (some .boolean) :: ([])
def wsX4_copies : List Cond := .code yX4_copies cX4_copies 5 none :: ([])
def wsX4_notes : List Cond := .code yX4_notes cX4_notes 1 none :: ([.fieldLink RX4 7 "SlotMapsModel" "now" "[I", .fieldLink RX4 16 "SlotMapsModel" "before" "[I", .methodLink RX4 25 yX4_copies, .static yX4_copies, .initialized RX4, .code yX4_copies cX4_copies 5 none] ++ wsX40)
def wsX4_ends : List Cond := .code yX4_ends cX4_ends 3 (some .int) :: ([.fieldLink RX4 16 "SlotMapsModel" "before" "[I", .fieldLink RX4 7 "SlotMapsModel" "now" "[I", .fieldLink RX4 29 "SlotMapsModel" "pasts" "I", .fieldLink RX4 13 "SlotMapsModel" "past" "[I", .methodLink RX4 25 yX4_copies, .static yX4_copies, .initialized RX4, .code yX4_copies cX4_copies 5 none] ++ wsX40)
def wsX4_inWord : List Cond := .code yX4_inWord cX4_inWord 5 (some .int) :: ([.fieldLink RX4 7 "SlotMapsModel" "now" "[I"] ++ wsX40)
def wsX4_inAll : List Cond := .code yX4_inAll cX4_inAll 4 (some .int) :: ([.methodLink RX4 33 yX4_inWord, .instanceMethod yX4_inWord, .selects RX4 yX4_inWord yX4_inWord, .initialized RX4, .code yX4_inWord cX4_inWord 5 (some .int), .fieldLink RX4 7 "SlotMapsModel" "now" "[I"] ++ wsX40)
def wsX4_right : List Cond := .code yX4_right cX4_right 2 (some .int) :: ([.methodLink RX4 33 yX4_inWord, .instanceMethod yX4_inWord, .selects RX4 yX4_inWord yX4_inWord, .initialized RX4, .code yX4_inWord cX4_inWord 5 (some .int), .fieldLink RX4 7 "SlotMapsModel" "now" "[I"] ++ wsX40)
def wsX4_becomes : List Cond := .code yX4_becomes cX4_becomes 3 none :: ([.fieldLink RX4 7 "SlotMapsModel" "now" "[I", .methodLink RX4 37 yX4_right, .instanceMethod yX4_right, .selects RX4 yX4_right yX4_right, .initialized RX4, .code yX4_right cX4_right 2 (some .int), .methodLink RX4 33 yX4_inWord, .instanceMethod yX4_inWord, .selects RX4 yX4_inWord yX4_inWord, .code yX4_inWord cX4_inWord 5 (some .int)] ++ wsX40)
def wsX4_firstIn : List Cond := .code yX4_firstIn cX4_firstIn 3 (some .int) :: ([.fieldLink RX4 7 "SlotMapsModel" "now" "[I"] ++ wsX40)
def wsX4_goesThrough : List Cond := .code yX4_goesThrough cX4_goesThrough 3 (some .int) :: ([.fieldLink RX4 7 "SlotMapsModel" "now" "[I", .methodLink RX4 41 yX4_firstIn, .instanceMethod yX4_firstIn, .selects RX4 yX4_firstIn yX4_firstIn, .initialized RX4, .code yX4_firstIn cX4_firstIn 3 (some .int), .methodLink RX4 44 yX4_becomes, .instanceMethod yX4_becomes, .selects RX4 yX4_becomes yX4_becomes, .code yX4_becomes cX4_becomes 3 none, .methodLink RX4 37 yX4_right, .instanceMethod yX4_right, .selects RX4 yX4_right yX4_right, .code yX4_right cX4_right 2 (some .int), .methodLink RX4 33 yX4_inWord, .instanceMethod yX4_inWord, .selects RX4 yX4_inWord yX4_inWord, .code yX4_inWord cX4_inWord 5 (some .int)] ++ wsX40)
def wsX4_clears : List Cond := .code yX4_clears cX4_clears 6 (some .int) :: ([.fieldLink RX4 7 "SlotMapsModel" "now" "[I", .methodLink RX4 33 yX4_inWord, .instanceMethod yX4_inWord, .selects RX4 yX4_inWord yX4_inWord, .initialized RX4, .code yX4_inWord cX4_inWord 5 (some .int), .methodLink RX4 44 yX4_becomes, .instanceMethod yX4_becomes, .selects RX4 yX4_becomes yX4_becomes, .code yX4_becomes cX4_becomes 3 none, .methodLink RX4 37 yX4_right, .instanceMethod yX4_right, .selects RX4 yX4_right yX4_right, .code yX4_right cX4_right 2 (some .int)] ++ wsX40)
def wsX4_takes1_r1 : List Cond := [Cond.methodLink RX4 48 yX4_goesThrough, Cond.instanceMethod yX4_goesThrough, Cond.selects RX4 yX4_goesThrough yX4_goesThrough, Cond.initialized RX4, Cond.code yX4_goesThrough cX4_goesThrough 3 (some .int), Cond.fieldLink RX4 7 "SlotMapsModel" "now" "[I", Cond.methodLink RX4 41 yX4_firstIn, Cond.instanceMethod yX4_firstIn, Cond.selects RX4 yX4_firstIn yX4_firstIn, Cond.code yX4_firstIn cX4_firstIn 3 (some .int), Cond.methodLink RX4 44 yX4_becomes, Cond.instanceMethod yX4_becomes, Cond.selects RX4 yX4_becomes yX4_becomes, Cond.code yX4_becomes cX4_becomes 3 none, Cond.methodLink RX4 37 yX4_right, Cond.instanceMethod yX4_right, Cond.selects RX4 yX4_right yX4_right, Cond.code yX4_right cX4_right 2 (some .int), Cond.methodLink RX4 33 yX4_inWord, Cond.instanceMethod yX4_inWord, Cond.selects RX4 yX4_inWord yX4_inWord, Cond.code yX4_inWord cX4_inWord 5 (some .int), Cond.methodLink RX4 52 yX4_clears, Cond.instanceMethod yX4_clears]
def wsX4_takes1_r2 : List Cond := [Cond.selects RX4 yX4_clears yX4_clears, Cond.code yX4_clears cX4_clears 6 (some .int)]
def wsX4_takes1 : List Cond := .code yX4_takes1 cX4_takes1 2 (some .int) :: ((wsX4_takes1_r1 ++ wsX4_takes1_r2) ++ wsX40)
def wsX4_take_r1 : List Cond := [Cond.methodLink RX4 55 yX4_notes, Cond.instanceMethod yX4_notes, Cond.selects RX4 yX4_notes yX4_notes, Cond.initialized RX4, Cond.code yX4_notes cX4_notes 1 none, Cond.fieldLink RX4 7 "SlotMapsModel" "now" "[I", Cond.fieldLink RX4 16 "SlotMapsModel" "before" "[I", Cond.methodLink RX4 25 yX4_copies, Cond.static yX4_copies, Cond.code yX4_copies cX4_copies 5 none, Cond.methodLink RX4 58 yX4_takes1, Cond.instanceMethod yX4_takes1, Cond.selects RX4 yX4_takes1 yX4_takes1, Cond.code yX4_takes1 cX4_takes1 2 (some .int), Cond.methodLink RX4 48 yX4_goesThrough, Cond.instanceMethod yX4_goesThrough, Cond.selects RX4 yX4_goesThrough yX4_goesThrough, Cond.code yX4_goesThrough cX4_goesThrough 3 (some .int), Cond.methodLink RX4 41 yX4_firstIn, Cond.instanceMethod yX4_firstIn, Cond.selects RX4 yX4_firstIn yX4_firstIn, Cond.code yX4_firstIn cX4_firstIn 3 (some .int), Cond.methodLink RX4 44 yX4_becomes, Cond.instanceMethod yX4_becomes]
def wsX4_take_r2 : List Cond := [Cond.selects RX4 yX4_becomes yX4_becomes, Cond.code yX4_becomes cX4_becomes 3 none, Cond.methodLink RX4 37 yX4_right, Cond.instanceMethod yX4_right, Cond.selects RX4 yX4_right yX4_right, Cond.code yX4_right cX4_right 2 (some .int), Cond.methodLink RX4 33 yX4_inWord, Cond.instanceMethod yX4_inWord, Cond.selects RX4 yX4_inWord yX4_inWord, Cond.code yX4_inWord cX4_inWord 5 (some .int), Cond.methodLink RX4 52 yX4_clears, Cond.instanceMethod yX4_clears, Cond.selects RX4 yX4_clears yX4_clears, Cond.code yX4_clears cX4_clears 6 (some .int), Cond.methodLink RX4 61 yX4_ends, Cond.instanceMethod yX4_ends, Cond.selects RX4 yX4_ends yX4_ends, Cond.code yX4_ends cX4_ends 3 (some .int), Cond.fieldLink RX4 29 "SlotMapsModel" "pasts" "I", Cond.fieldLink RX4 13 "SlotMapsModel" "past" "[I"]
def wsX4_take : List Cond := .code yX4_take cX4_take 1 (some .int) :: ((wsX4_take_r1 ++ wsX4_take_r2) ++ wsX40)
def wsX4_runFrom : List Cond := .code yX4_runFrom cX4_runFrom 4 (some .int) :: ([.fieldLink RX4 7 "SlotMapsModel" "now" "[I"] ++ wsX40)
def wsX4_takeRun_r1 : List Cond := [Cond.fieldLink RX4 7 "SlotMapsModel" "now" "[I", Cond.methodLink RX4 64 yX4_in, Cond.static yX4_in, Cond.initialized RX4, Cond.code yX4_in cX4_in 3 (some .boolean), Cond.methodLink RX4 68 yX4_runFrom, Cond.instanceMethod yX4_runFrom, Cond.selects RX4 yX4_runFrom yX4_runFrom, Cond.code yX4_runFrom cX4_runFrom 4 (some .int), Cond.methodLink RX4 55 yX4_notes, Cond.instanceMethod yX4_notes, Cond.selects RX4 yX4_notes yX4_notes, Cond.code yX4_notes cX4_notes 1 none, Cond.fieldLink RX4 16 "SlotMapsModel" "before" "[I", Cond.methodLink RX4 25 yX4_copies, Cond.static yX4_copies, Cond.code yX4_copies cX4_copies 5 none, Cond.methodLink RX4 44 yX4_becomes, Cond.instanceMethod yX4_becomes, Cond.selects RX4 yX4_becomes yX4_becomes, Cond.code yX4_becomes cX4_becomes 3 none, Cond.methodLink RX4 37 yX4_right, Cond.instanceMethod yX4_right, Cond.selects RX4 yX4_right yX4_right]
def wsX4_takeRun_r2 : List Cond := [Cond.code yX4_right cX4_right 2 (some .int), Cond.methodLink RX4 33 yX4_inWord, Cond.instanceMethod yX4_inWord, Cond.selects RX4 yX4_inWord yX4_inWord, Cond.code yX4_inWord cX4_inWord 5 (some .int), Cond.methodLink RX4 61 yX4_ends, Cond.instanceMethod yX4_ends, Cond.selects RX4 yX4_ends yX4_ends, Cond.code yX4_ends cX4_ends 3 (some .int), Cond.fieldLink RX4 29 "SlotMapsModel" "pasts" "I", Cond.fieldLink RX4 13 "SlotMapsModel" "past" "[I"]
def wsX4_takeRun : List Cond := .code yX4_takeRun cX4_takeRun 4 (some .int) :: ((wsX4_takeRun_r1 ++ wsX4_takeRun_r2) ++ wsX40)
def wsX4_givesBack : List Cond := .code yX4_givesBack cX4_givesBack 5 (some .int) :: ([.fieldLink RX4 7 "SlotMapsModel" "now" "[I", .methodLink RX4 64 yX4_in, .static yX4_in, .initialized RX4, .code yX4_in cX4_in 3 (some .boolean), .methodLink RX4 44 yX4_becomes, .instanceMethod yX4_becomes, .selects RX4 yX4_becomes yX4_becomes, .code yX4_becomes cX4_becomes 3 none, .methodLink RX4 37 yX4_right, .instanceMethod yX4_right, .selects RX4 yX4_right yX4_right, .code yX4_right cX4_right 2 (some .int), .methodLink RX4 33 yX4_inWord, .instanceMethod yX4_inWord, .selects RX4 yX4_inWord yX4_inWord, .code yX4_inWord cX4_inWord 5 (some .int)] ++ wsX40)
def wsX4_giveBack_r1 : List Cond := [Cond.methodLink RX4 55 yX4_notes, Cond.instanceMethod yX4_notes, Cond.selects RX4 yX4_notes yX4_notes, Cond.initialized RX4, Cond.code yX4_notes cX4_notes 1 none, Cond.fieldLink RX4 7 "SlotMapsModel" "now" "[I", Cond.fieldLink RX4 16 "SlotMapsModel" "before" "[I", Cond.methodLink RX4 25 yX4_copies, Cond.static yX4_copies, Cond.code yX4_copies cX4_copies 5 none, Cond.methodLink RX4 71 yX4_givesBack, Cond.instanceMethod yX4_givesBack, Cond.selects RX4 yX4_givesBack yX4_givesBack, Cond.code yX4_givesBack cX4_givesBack 5 (some .int), Cond.methodLink RX4 64 yX4_in, Cond.static yX4_in, Cond.code yX4_in cX4_in 3 (some .boolean), Cond.methodLink RX4 44 yX4_becomes, Cond.instanceMethod yX4_becomes, Cond.selects RX4 yX4_becomes yX4_becomes, Cond.code yX4_becomes cX4_becomes 3 none, Cond.methodLink RX4 37 yX4_right, Cond.instanceMethod yX4_right, Cond.selects RX4 yX4_right yX4_right]
def wsX4_giveBack_r2 : List Cond := [Cond.code yX4_right cX4_right 2 (some .int), Cond.methodLink RX4 33 yX4_inWord, Cond.instanceMethod yX4_inWord, Cond.selects RX4 yX4_inWord yX4_inWord, Cond.code yX4_inWord cX4_inWord 5 (some .int), Cond.methodLink RX4 61 yX4_ends, Cond.instanceMethod yX4_ends, Cond.selects RX4 yX4_ends yX4_ends, Cond.code yX4_ends cX4_ends 3 (some .int), Cond.fieldLink RX4 29 "SlotMapsModel" "pasts" "I", Cond.fieldLink RX4 13 "SlotMapsModel" "past" "[I"]
def wsX4_giveBack : List Cond := .code yX4_giveBack cX4_giveBack 3 (some .int) :: ((wsX4_giveBack_r1 ++ wsX4_giveBack_r2) ++ wsX40)
def wsX4_clearsSome : List Cond := .code yX4_clearsSome cX4_clearsSome 2 (some .int) :: ([.methodLink RX4 64 yX4_in, .static yX4_in, .initialized RX4, .code yX4_in cX4_in 3 (some .boolean), .methodLink RX4 52 yX4_clears, .instanceMethod yX4_clears, .selects RX4 yX4_clears yX4_clears, .code yX4_clears cX4_clears 6 (some .int), .fieldLink RX4 7 "SlotMapsModel" "now" "[I", .methodLink RX4 33 yX4_inWord, .instanceMethod yX4_inWord, .selects RX4 yX4_inWord yX4_inWord, .code yX4_inWord cX4_inWord 5 (some .int), .methodLink RX4 44 yX4_becomes, .instanceMethod yX4_becomes, .selects RX4 yX4_becomes yX4_becomes, .code yX4_becomes cX4_becomes 3 none, .methodLink RX4 37 yX4_right, .instanceMethod yX4_right, .selects RX4 yX4_right yX4_right, .code yX4_right cX4_right 2 (some .int)] ++ wsX40)
def wsX4_clear_r1 : List Cond := [Cond.methodLink RX4 55 yX4_notes, Cond.instanceMethod yX4_notes, Cond.selects RX4 yX4_notes yX4_notes, Cond.initialized RX4, Cond.code yX4_notes cX4_notes 1 none, Cond.fieldLink RX4 7 "SlotMapsModel" "now" "[I", Cond.fieldLink RX4 16 "SlotMapsModel" "before" "[I", Cond.methodLink RX4 25 yX4_copies, Cond.static yX4_copies, Cond.code yX4_copies cX4_copies 5 none, Cond.methodLink RX4 74 yX4_clearsSome, Cond.instanceMethod yX4_clearsSome, Cond.selects RX4 yX4_clearsSome yX4_clearsSome, Cond.code yX4_clearsSome cX4_clearsSome 2 (some .int), Cond.methodLink RX4 64 yX4_in, Cond.static yX4_in, Cond.code yX4_in cX4_in 3 (some .boolean), Cond.methodLink RX4 52 yX4_clears, Cond.instanceMethod yX4_clears, Cond.selects RX4 yX4_clears yX4_clears, Cond.code yX4_clears cX4_clears 6 (some .int), Cond.methodLink RX4 33 yX4_inWord, Cond.instanceMethod yX4_inWord, Cond.selects RX4 yX4_inWord yX4_inWord]
def wsX4_clear_r2 : List Cond := [Cond.code yX4_inWord cX4_inWord 5 (some .int), Cond.methodLink RX4 44 yX4_becomes, Cond.instanceMethod yX4_becomes, Cond.selects RX4 yX4_becomes yX4_becomes, Cond.code yX4_becomes cX4_becomes 3 none, Cond.methodLink RX4 37 yX4_right, Cond.instanceMethod yX4_right, Cond.selects RX4 yX4_right yX4_right, Cond.code yX4_right cX4_right 2 (some .int), Cond.methodLink RX4 61 yX4_ends, Cond.instanceMethod yX4_ends, Cond.selects RX4 yX4_ends yX4_ends, Cond.code yX4_ends cX4_ends 3 (some .int), Cond.fieldLink RX4 29 "SlotMapsModel" "pasts" "I", Cond.fieldLink RX4 13 "SlotMapsModel" "past" "[I"]
def wsX4_clear : List Cond := .code yX4_clear cX4_clear 2 (some .int) :: ((wsX4_clear_r1 ++ wsX4_clear_r2) ++ wsX40)
def wsX4_isBlock : List Cond := .code yX4_isBlock cX4_isBlock 2 (some .boolean) :: ([.fieldLink RX4 7 "SlotMapsModel" "now" "[I", .methodLink RX4 64 yX4_in, .static yX4_in, .initialized RX4, .code yX4_in cX4_in 3 (some .boolean)] ++ wsX40)
def wsX4_isSize : List Cond := .code yX4_isSize cX4_isSize 1 (some .boolean) :: ([])
def wsX4_placeOf : List Cond := .code yX4_placeOf cX4_placeOf 5 (some .int) :: ([.fieldLink RX4 7 "SlotMapsModel" "now" "[I"] ++ wsX40)
def wsX4_reserves_r1 : List Cond := [Cond.fieldLink RX4 7 "SlotMapsModel" "now" "[I", Cond.methodLink RX4 77 yX4_isSize, Cond.static yX4_isSize, Cond.initialized RX4, Cond.code yX4_isSize cX4_isSize 1 (some .boolean), Cond.methodLink RX4 81 yX4_isBlock, Cond.instanceMethod yX4_isBlock, Cond.selects RX4 yX4_isBlock yX4_isBlock, Cond.code yX4_isBlock cX4_isBlock 2 (some .boolean), Cond.methodLink RX4 64 yX4_in, Cond.static yX4_in, Cond.code yX4_in cX4_in 3 (some .boolean), Cond.methodLink RX4 84 yX4_placeOf, Cond.instanceMethod yX4_placeOf, Cond.selects RX4 yX4_placeOf yX4_placeOf, Cond.code yX4_placeOf cX4_placeOf 5 (some .int), Cond.methodLink RX4 44 yX4_becomes, Cond.instanceMethod yX4_becomes, Cond.selects RX4 yX4_becomes yX4_becomes, Cond.code yX4_becomes cX4_becomes 3 none, Cond.methodLink RX4 37 yX4_right, Cond.instanceMethod yX4_right, Cond.selects RX4 yX4_right yX4_right, Cond.code yX4_right cX4_right 2 (some .int)]
def wsX4_reserves_r2 : List Cond := [Cond.methodLink RX4 33 yX4_inWord, Cond.instanceMethod yX4_inWord, Cond.selects RX4 yX4_inWord yX4_inWord, Cond.code yX4_inWord cX4_inWord 5 (some .int)]
def wsX4_reserves : List Cond := .code yX4_reserves cX4_reserves 5 (some .int) :: ((wsX4_reserves_r1 ++ wsX4_reserves_r2) ++ wsX40)
def wsX4_reserve_r1 : List Cond := [Cond.methodLink RX4 55 yX4_notes, Cond.instanceMethod yX4_notes, Cond.selects RX4 yX4_notes yX4_notes, Cond.initialized RX4, Cond.code yX4_notes cX4_notes 1 none, Cond.fieldLink RX4 7 "SlotMapsModel" "now" "[I", Cond.fieldLink RX4 16 "SlotMapsModel" "before" "[I", Cond.methodLink RX4 25 yX4_copies, Cond.static yX4_copies, Cond.code yX4_copies cX4_copies 5 none, Cond.methodLink RX4 87 yX4_reserves, Cond.instanceMethod yX4_reserves, Cond.selects RX4 yX4_reserves yX4_reserves, Cond.code yX4_reserves cX4_reserves 5 (some .int), Cond.methodLink RX4 77 yX4_isSize, Cond.static yX4_isSize, Cond.code yX4_isSize cX4_isSize 1 (some .boolean), Cond.methodLink RX4 81 yX4_isBlock, Cond.instanceMethod yX4_isBlock, Cond.selects RX4 yX4_isBlock yX4_isBlock, Cond.code yX4_isBlock cX4_isBlock 2 (some .boolean), Cond.methodLink RX4 64 yX4_in, Cond.static yX4_in, Cond.code yX4_in cX4_in 3 (some .boolean)]
def wsX4_reserve_r2 : List Cond := [Cond.methodLink RX4 84 yX4_placeOf, Cond.instanceMethod yX4_placeOf, Cond.selects RX4 yX4_placeOf yX4_placeOf, Cond.code yX4_placeOf cX4_placeOf 5 (some .int), Cond.methodLink RX4 44 yX4_becomes, Cond.instanceMethod yX4_becomes, Cond.selects RX4 yX4_becomes yX4_becomes, Cond.code yX4_becomes cX4_becomes 3 none, Cond.methodLink RX4 37 yX4_right, Cond.instanceMethod yX4_right, Cond.selects RX4 yX4_right yX4_right, Cond.code yX4_right cX4_right 2 (some .int), Cond.methodLink RX4 33 yX4_inWord, Cond.instanceMethod yX4_inWord, Cond.selects RX4 yX4_inWord yX4_inWord, Cond.code yX4_inWord cX4_inWord 5 (some .int), Cond.methodLink RX4 61 yX4_ends, Cond.instanceMethod yX4_ends, Cond.selects RX4 yX4_ends yX4_ends, Cond.code yX4_ends cX4_ends 3 (some .int), Cond.fieldLink RX4 29 "SlotMapsModel" "pasts" "I", Cond.fieldLink RX4 13 "SlotMapsModel" "past" "[I"]
def wsX4_reserve : List Cond := .code yX4_reserve cX4_reserve 2 (some .int) :: ((wsX4_reserve_r1 ++ wsX4_reserve_r2) ++ wsX40)
def wsX4_takesIn : List Cond := .code yX4_takesIn cX4_takesIn 4 (some .int) :: ([.fieldLink RX4 7 "SlotMapsModel" "now" "[I", .methodLink RX4 81 yX4_isBlock, .instanceMethod yX4_isBlock, .selects RX4 yX4_isBlock yX4_isBlock, .initialized RX4, .code yX4_isBlock cX4_isBlock 2 (some .boolean), .methodLink RX4 64 yX4_in, .static yX4_in, .code yX4_in cX4_in 3 (some .boolean), .methodLink RX4 44 yX4_becomes, .instanceMethod yX4_becomes, .selects RX4 yX4_becomes yX4_becomes, .code yX4_becomes cX4_becomes 3 none, .methodLink RX4 37 yX4_right, .instanceMethod yX4_right, .selects RX4 yX4_right yX4_right, .code yX4_right cX4_right 2 (some .int), .methodLink RX4 33 yX4_inWord, .instanceMethod yX4_inWord, .selects RX4 yX4_inWord yX4_inWord, .code yX4_inWord cX4_inWord 5 (some .int)] ++ wsX40)
def wsX4_takeIn_r1 : List Cond := [Cond.methodLink RX4 55 yX4_notes, Cond.instanceMethod yX4_notes, Cond.selects RX4 yX4_notes yX4_notes, Cond.initialized RX4, Cond.code yX4_notes cX4_notes 1 none, Cond.fieldLink RX4 7 "SlotMapsModel" "now" "[I", Cond.fieldLink RX4 16 "SlotMapsModel" "before" "[I", Cond.methodLink RX4 25 yX4_copies, Cond.static yX4_copies, Cond.code yX4_copies cX4_copies 5 none, Cond.methodLink RX4 90 yX4_takesIn, Cond.instanceMethod yX4_takesIn, Cond.selects RX4 yX4_takesIn yX4_takesIn, Cond.code yX4_takesIn cX4_takesIn 4 (some .int), Cond.methodLink RX4 81 yX4_isBlock, Cond.instanceMethod yX4_isBlock, Cond.selects RX4 yX4_isBlock yX4_isBlock, Cond.code yX4_isBlock cX4_isBlock 2 (some .boolean), Cond.methodLink RX4 64 yX4_in, Cond.static yX4_in, Cond.code yX4_in cX4_in 3 (some .boolean), Cond.methodLink RX4 44 yX4_becomes, Cond.instanceMethod yX4_becomes, Cond.selects RX4 yX4_becomes yX4_becomes]
def wsX4_takeIn_r2 : List Cond := [Cond.code yX4_becomes cX4_becomes 3 none, Cond.methodLink RX4 37 yX4_right, Cond.instanceMethod yX4_right, Cond.selects RX4 yX4_right yX4_right, Cond.code yX4_right cX4_right 2 (some .int), Cond.methodLink RX4 33 yX4_inWord, Cond.instanceMethod yX4_inWord, Cond.selects RX4 yX4_inWord yX4_inWord, Cond.code yX4_inWord cX4_inWord 5 (some .int), Cond.methodLink RX4 61 yX4_ends, Cond.instanceMethod yX4_ends, Cond.selects RX4 yX4_ends yX4_ends, Cond.code yX4_ends cX4_ends 3 (some .int), Cond.fieldLink RX4 29 "SlotMapsModel" "pasts" "I", Cond.fieldLink RX4 13 "SlotMapsModel" "past" "[I"]
def wsX4_takeIn : List Cond := .code yX4_takeIn cX4_takeIn 2 (some .int) :: ((wsX4_takeIn_r1 ++ wsX4_takeIn_r2) ++ wsX40)
def wsX4_giveUp_r1 : List Cond := [Cond.fieldLink RX4 7 "SlotMapsModel" "now" "[I", Cond.methodLink RX4 81 yX4_isBlock, Cond.instanceMethod yX4_isBlock, Cond.selects RX4 yX4_isBlock yX4_isBlock, Cond.initialized RX4, Cond.code yX4_isBlock cX4_isBlock 2 (some .boolean), Cond.methodLink RX4 64 yX4_in, Cond.static yX4_in, Cond.code yX4_in cX4_in 3 (some .boolean), Cond.methodLink RX4 55 yX4_notes, Cond.instanceMethod yX4_notes, Cond.selects RX4 yX4_notes yX4_notes, Cond.code yX4_notes cX4_notes 1 none, Cond.fieldLink RX4 16 "SlotMapsModel" "before" "[I", Cond.methodLink RX4 25 yX4_copies, Cond.static yX4_copies, Cond.code yX4_copies cX4_copies 5 none, Cond.methodLink RX4 44 yX4_becomes, Cond.instanceMethod yX4_becomes, Cond.selects RX4 yX4_becomes yX4_becomes, Cond.code yX4_becomes cX4_becomes 3 none, Cond.methodLink RX4 37 yX4_right, Cond.instanceMethod yX4_right, Cond.selects RX4 yX4_right yX4_right]
def wsX4_giveUp_r2 : List Cond := [Cond.code yX4_right cX4_right 2 (some .int), Cond.methodLink RX4 33 yX4_inWord, Cond.instanceMethod yX4_inWord, Cond.selects RX4 yX4_inWord yX4_inWord, Cond.code yX4_inWord cX4_inWord 5 (some .int), Cond.methodLink RX4 61 yX4_ends, Cond.instanceMethod yX4_ends, Cond.selects RX4 yX4_ends yX4_ends, Cond.code yX4_ends cX4_ends 3 (some .int), Cond.fieldLink RX4 29 "SlotMapsModel" "pasts" "I", Cond.fieldLink RX4 13 "SlotMapsModel" "past" "[I"]
def wsX4_giveUp : List Cond := .code yX4_giveUp cX4_giveUp 5 (some .int) :: ((wsX4_giveUp_r1 ++ wsX4_giveUp_r2) ++ wsX40)
def wsX4_isWord : List Cond := .code yX4_isWord cX4_isWord 1 (some .boolean) :: ([.methodLink RX4 64 yX4_in, .static yX4_in, .initialized RX4, .code yX4_in cX4_in 3 (some .boolean)])
def wsX4_damages : List Cond := .code yX4_damages cX4_damages 2 (some .int) :: ([.fieldLink RX4 7 "SlotMapsModel" "now" "[I", .methodLink RX4 93 yX4_isWord, .static yX4_isWord, .initialized RX4, .code yX4_isWord cX4_isWord 1 (some .boolean), .methodLink RX4 64 yX4_in, .static yX4_in, .code yX4_in cX4_in 3 (some .boolean)] ++ wsX40)
def wsX4_damage_r1 : List Cond := [Cond.methodLink RX4 55 yX4_notes, Cond.instanceMethod yX4_notes, Cond.selects RX4 yX4_notes yX4_notes, Cond.initialized RX4, Cond.code yX4_notes cX4_notes 1 none, Cond.fieldLink RX4 7 "SlotMapsModel" "now" "[I", Cond.fieldLink RX4 16 "SlotMapsModel" "before" "[I", Cond.methodLink RX4 25 yX4_copies, Cond.static yX4_copies, Cond.code yX4_copies cX4_copies 5 none, Cond.methodLink RX4 96 yX4_damages, Cond.instanceMethod yX4_damages, Cond.selects RX4 yX4_damages yX4_damages, Cond.code yX4_damages cX4_damages 2 (some .int), Cond.methodLink RX4 93 yX4_isWord, Cond.static yX4_isWord, Cond.code yX4_isWord cX4_isWord 1 (some .boolean), Cond.methodLink RX4 64 yX4_in, Cond.static yX4_in, Cond.code yX4_in cX4_in 3 (some .boolean), Cond.methodLink RX4 61 yX4_ends, Cond.instanceMethod yX4_ends, Cond.selects RX4 yX4_ends yX4_ends, Cond.code yX4_ends cX4_ends 3 (some .int)]
def wsX4_damage_r2 : List Cond := [Cond.fieldLink RX4 29 "SlotMapsModel" "pasts" "I", Cond.fieldLink RX4 13 "SlotMapsModel" "past" "[I"]
def wsX4_damage : List Cond := .code yX4_damage cX4_damage 2 (some .int) :: ((wsX4_damage_r1 ++ wsX4_damage_r2) ++ wsX40)
def wsX4_repairs : List Cond := .code yX4_repairs cX4_repairs 3 (some .int) :: ([.fieldLink RX4 7 "SlotMapsModel" "now" "[I", .methodLink RX4 37 yX4_right, .instanceMethod yX4_right, .selects RX4 yX4_right yX4_right, .initialized RX4, .code yX4_right cX4_right 2 (some .int), .methodLink RX4 33 yX4_inWord, .instanceMethod yX4_inWord, .selects RX4 yX4_inWord yX4_inWord, .code yX4_inWord cX4_inWord 5 (some .int)] ++ wsX40)
def wsX4_repair_r1 : List Cond := [Cond.methodLink RX4 55 yX4_notes, Cond.instanceMethod yX4_notes, Cond.selects RX4 yX4_notes yX4_notes, Cond.initialized RX4, Cond.code yX4_notes cX4_notes 1 none, Cond.fieldLink RX4 7 "SlotMapsModel" "now" "[I", Cond.fieldLink RX4 16 "SlotMapsModel" "before" "[I", Cond.methodLink RX4 25 yX4_copies, Cond.static yX4_copies, Cond.code yX4_copies cX4_copies 5 none, Cond.methodLink RX4 99 yX4_repairs, Cond.instanceMethod yX4_repairs, Cond.selects RX4 yX4_repairs yX4_repairs, Cond.code yX4_repairs cX4_repairs 3 (some .int), Cond.methodLink RX4 37 yX4_right, Cond.instanceMethod yX4_right, Cond.selects RX4 yX4_right yX4_right, Cond.code yX4_right cX4_right 2 (some .int), Cond.methodLink RX4 33 yX4_inWord, Cond.instanceMethod yX4_inWord, Cond.selects RX4 yX4_inWord yX4_inWord, Cond.code yX4_inWord cX4_inWord 5 (some .int), Cond.methodLink RX4 61 yX4_ends, Cond.instanceMethod yX4_ends]
def wsX4_repair_r2 : List Cond := [Cond.selects RX4 yX4_ends yX4_ends, Cond.code yX4_ends cX4_ends 3 (some .int), Cond.fieldLink RX4 29 "SlotMapsModel" "pasts" "I", Cond.fieldLink RX4 13 "SlotMapsModel" "past" "[I"]
def wsX4_repair : List Cond := .code yX4_repair cX4_repair 1 (some .int) :: ((wsX4_repair_r1 ++ wsX4_repair_r2) ++ wsX40)
def wsX4_undo : List Cond := .code yX4_undo cX4_undo 1 (some .int) :: ([.fieldLink RX4 29 "SlotMapsModel" "pasts" "I", .fieldLink RX4 13 "SlotMapsModel" "past" "[I", .fieldLink RX4 7 "SlotMapsModel" "now" "[I", .methodLink RX4 25 yX4_copies, .static yX4_copies, .initialized RX4, .code yX4_copies cX4_copies 5 none] ++ wsX40)
def wsX4_append : List Cond := .code yX4_append cX4_append 2 (some .int) :: ([.fieldLink RX4 102 "SlotMapsModel" "typed" "I", .fieldLink RX4 22 "SlotMapsModel" "text" "[I", .methodLink RX4 64 yX4_in, .static yX4_in, .initialized RX4, .code yX4_in cX4_in 3 (some .boolean)] ++ wsX40)
def wsX4_clearText : List Cond := .code yX4_clearText cX4_clearText 2 (some .int) :: ([.fieldLink RX4 102 "SlotMapsModel" "typed" "I"] ++ wsX40)
def wsX4_signAt : List Cond := .code yX4_signAt cX4_signAt 2 (some .int) :: ([.fieldLink RX4 102 "SlotMapsModel" "typed" "I", .fieldLink RX4 22 "SlotMapsModel" "text" "[I"] ++ wsX40)
def wsX4_isDigit : List Cond := .code yX4_isDigit cX4_isDigit 1 (some .boolean) :: ([.fieldLink RX4 105 "SlotMapsModel" "at" "I", .methodLink RX4 108 yX4_signAt, .instanceMethod yX4_signAt, .selects RX4 yX4_signAt yX4_signAt, .initialized RX4, .code yX4_signAt cX4_signAt 2 (some .int), .fieldLink RX4 102 "SlotMapsModel" "typed" "I", .fieldLink RX4 22 "SlotMapsModel" "text" "[I", .methodLink RX4 64 yX4_in, .static yX4_in, .code yX4_in cX4_in 3 (some .boolean)] ++ wsX40)
def wsX4_number : List Cond := .code yX4_number cX4_number 3 (some .int) :: ([.fieldLink RX4 105 "SlotMapsModel" "at" "I", .methodLink RX4 108 yX4_signAt, .instanceMethod yX4_signAt, .selects RX4 yX4_signAt yX4_signAt, .initialized RX4, .code yX4_signAt cX4_signAt 2 (some .int), .fieldLink RX4 102 "SlotMapsModel" "typed" "I", .fieldLink RX4 22 "SlotMapsModel" "text" "[I", .methodLink RX4 111 yX4_isDigit, .instanceMethod yX4_isDigit, .selects RX4 yX4_isDigit yX4_isDigit, .code yX4_isDigit cX4_isDigit 1 (some .boolean), .methodLink RX4 64 yX4_in, .static yX4_in, .code yX4_in cX4_in 3 (some .boolean)] ++ wsX40)
def wsX4_takesMany_r1 : List Cond := [Cond.methodLink RX4 64 yX4_in, Cond.static yX4_in, Cond.initialized RX4, Cond.code yX4_in cX4_in 3 (some .boolean), Cond.methodLink RX4 58 yX4_takes1, Cond.instanceMethod yX4_takes1, Cond.selects RX4 yX4_takes1 yX4_takes1, Cond.code yX4_takes1 cX4_takes1 2 (some .int), Cond.methodLink RX4 48 yX4_goesThrough, Cond.instanceMethod yX4_goesThrough, Cond.selects RX4 yX4_goesThrough yX4_goesThrough, Cond.code yX4_goesThrough cX4_goesThrough 3 (some .int), Cond.fieldLink RX4 7 "SlotMapsModel" "now" "[I", Cond.methodLink RX4 41 yX4_firstIn, Cond.instanceMethod yX4_firstIn, Cond.selects RX4 yX4_firstIn yX4_firstIn, Cond.code yX4_firstIn cX4_firstIn 3 (some .int), Cond.methodLink RX4 44 yX4_becomes, Cond.instanceMethod yX4_becomes, Cond.selects RX4 yX4_becomes yX4_becomes, Cond.code yX4_becomes cX4_becomes 3 none, Cond.methodLink RX4 37 yX4_right, Cond.instanceMethod yX4_right, Cond.selects RX4 yX4_right yX4_right]
def wsX4_takesMany_r2 : List Cond := [Cond.code yX4_right cX4_right 2 (some .int), Cond.methodLink RX4 33 yX4_inWord, Cond.instanceMethod yX4_inWord, Cond.selects RX4 yX4_inWord yX4_inWord, Cond.code yX4_inWord cX4_inWord 5 (some .int), Cond.methodLink RX4 52 yX4_clears, Cond.instanceMethod yX4_clears, Cond.selects RX4 yX4_clears yX4_clears, Cond.code yX4_clears cX4_clears 6 (some .int)]
def wsX4_takesMany : List Cond := .code yX4_takesMany cX4_takesMany 4 (some .int) :: ((wsX4_takesMany_r1 ++ wsX4_takesMany_r2) ++ wsX40)
def wsX4_does_r1 : List Cond := [Cond.methodLink RX4 115 yX4_takesMany, Cond.instanceMethod yX4_takesMany, Cond.selects RX4 yX4_takesMany yX4_takesMany, Cond.initialized RX4, Cond.code yX4_takesMany cX4_takesMany 4 (some .int), Cond.methodLink RX4 64 yX4_in, Cond.static yX4_in, Cond.code yX4_in cX4_in 3 (some .boolean), Cond.methodLink RX4 58 yX4_takes1, Cond.instanceMethod yX4_takes1, Cond.selects RX4 yX4_takes1 yX4_takes1, Cond.code yX4_takes1 cX4_takes1 2 (some .int), Cond.methodLink RX4 48 yX4_goesThrough, Cond.instanceMethod yX4_goesThrough, Cond.selects RX4 yX4_goesThrough yX4_goesThrough, Cond.code yX4_goesThrough cX4_goesThrough 3 (some .int), Cond.fieldLink RX4 7 "SlotMapsModel" "now" "[I", Cond.methodLink RX4 41 yX4_firstIn, Cond.instanceMethod yX4_firstIn, Cond.selects RX4 yX4_firstIn yX4_firstIn, Cond.code yX4_firstIn cX4_firstIn 3 (some .int), Cond.methodLink RX4 44 yX4_becomes, Cond.instanceMethod yX4_becomes, Cond.selects RX4 yX4_becomes yX4_becomes]
def wsX4_does_r2 : List Cond := [Cond.code yX4_becomes cX4_becomes 3 none, Cond.methodLink RX4 37 yX4_right, Cond.instanceMethod yX4_right, Cond.selects RX4 yX4_right yX4_right, Cond.code yX4_right cX4_right 2 (some .int), Cond.methodLink RX4 33 yX4_inWord, Cond.instanceMethod yX4_inWord, Cond.selects RX4 yX4_inWord yX4_inWord, Cond.code yX4_inWord cX4_inWord 5 (some .int), Cond.methodLink RX4 52 yX4_clears, Cond.instanceMethod yX4_clears, Cond.selects RX4 yX4_clears yX4_clears, Cond.code yX4_clears cX4_clears 6 (some .int), Cond.methodLink RX4 71 yX4_givesBack, Cond.instanceMethod yX4_givesBack, Cond.selects RX4 yX4_givesBack yX4_givesBack, Cond.code yX4_givesBack cX4_givesBack 5 (some .int), Cond.methodLink RX4 74 yX4_clearsSome, Cond.instanceMethod yX4_clearsSome, Cond.selects RX4 yX4_clearsSome yX4_clearsSome, Cond.code yX4_clearsSome cX4_clearsSome 2 (some .int), Cond.methodLink RX4 87 yX4_reserves, Cond.instanceMethod yX4_reserves, Cond.selects RX4 yX4_reserves yX4_reserves]
def wsX4_does_r3 : List Cond := [Cond.code yX4_reserves cX4_reserves 5 (some .int), Cond.methodLink RX4 77 yX4_isSize, Cond.static yX4_isSize, Cond.code yX4_isSize cX4_isSize 1 (some .boolean), Cond.methodLink RX4 81 yX4_isBlock, Cond.instanceMethod yX4_isBlock, Cond.selects RX4 yX4_isBlock yX4_isBlock, Cond.code yX4_isBlock cX4_isBlock 2 (some .boolean), Cond.methodLink RX4 84 yX4_placeOf, Cond.instanceMethod yX4_placeOf, Cond.selects RX4 yX4_placeOf yX4_placeOf, Cond.code yX4_placeOf cX4_placeOf 5 (some .int), Cond.methodLink RX4 90 yX4_takesIn, Cond.instanceMethod yX4_takesIn, Cond.selects RX4 yX4_takesIn yX4_takesIn, Cond.code yX4_takesIn cX4_takesIn 4 (some .int), Cond.methodLink RX4 96 yX4_damages, Cond.instanceMethod yX4_damages, Cond.selects RX4 yX4_damages yX4_damages, Cond.code yX4_damages cX4_damages 2 (some .int), Cond.methodLink RX4 93 yX4_isWord, Cond.static yX4_isWord, Cond.code yX4_isWord cX4_isWord 1 (some .boolean), Cond.methodLink RX4 99 yX4_repairs]
def wsX4_does_r4 : List Cond := [Cond.instanceMethod yX4_repairs, Cond.selects RX4 yX4_repairs yX4_repairs, Cond.code yX4_repairs cX4_repairs 3 (some .int)]
def wsX4_does : List Cond := .code yX4_does cX4_does 4 (some .int) :: ((wsX4_does_r1 ++ (wsX4_does_r2 ++ (wsX4_does_r3 ++ wsX4_does_r4))) ++ wsX40)
def wsX4_isLetter : List Cond := .code yX4_isLetter cX4_isLetter 1 (some .boolean) :: ([])
def wsX4_runsOne_r1 : List Cond := [Cond.fieldLink RX4 105 "SlotMapsModel" "at" "I", Cond.methodLink RX4 108 yX4_signAt, Cond.instanceMethod yX4_signAt, Cond.selects RX4 yX4_signAt yX4_signAt, Cond.initialized RX4, Cond.code yX4_signAt cX4_signAt 2 (some .int), Cond.fieldLink RX4 102 "SlotMapsModel" "typed" "I", Cond.fieldLink RX4 22 "SlotMapsModel" "text" "[I", Cond.methodLink RX4 118 yX4_isLetter, Cond.static yX4_isLetter, Cond.code yX4_isLetter cX4_isLetter 1 (some .boolean), Cond.methodLink RX4 111 yX4_isDigit, Cond.instanceMethod yX4_isDigit, Cond.selects RX4 yX4_isDigit yX4_isDigit, Cond.code yX4_isDigit cX4_isDigit 1 (some .boolean), Cond.methodLink RX4 64 yX4_in, Cond.static yX4_in, Cond.code yX4_in cX4_in 3 (some .boolean), Cond.methodLink RX4 121 yX4_number, Cond.instanceMethod yX4_number, Cond.selects RX4 yX4_number yX4_number, Cond.code yX4_number cX4_number 3 (some .int), Cond.methodLink RX4 124 yX4_does, Cond.instanceMethod yX4_does]
def wsX4_runsOne_r2 : List Cond := [Cond.selects RX4 yX4_does yX4_does, Cond.code yX4_does cX4_does 4 (some .int), Cond.methodLink RX4 115 yX4_takesMany, Cond.instanceMethod yX4_takesMany, Cond.selects RX4 yX4_takesMany yX4_takesMany, Cond.code yX4_takesMany cX4_takesMany 4 (some .int), Cond.methodLink RX4 58 yX4_takes1, Cond.instanceMethod yX4_takes1, Cond.selects RX4 yX4_takes1 yX4_takes1, Cond.code yX4_takes1 cX4_takes1 2 (some .int), Cond.methodLink RX4 48 yX4_goesThrough, Cond.instanceMethod yX4_goesThrough, Cond.selects RX4 yX4_goesThrough yX4_goesThrough, Cond.code yX4_goesThrough cX4_goesThrough 3 (some .int), Cond.fieldLink RX4 7 "SlotMapsModel" "now" "[I", Cond.methodLink RX4 41 yX4_firstIn, Cond.instanceMethod yX4_firstIn, Cond.selects RX4 yX4_firstIn yX4_firstIn, Cond.code yX4_firstIn cX4_firstIn 3 (some .int), Cond.methodLink RX4 44 yX4_becomes, Cond.instanceMethod yX4_becomes, Cond.selects RX4 yX4_becomes yX4_becomes, Cond.code yX4_becomes cX4_becomes 3 none, Cond.methodLink RX4 37 yX4_right]
def wsX4_runsOne_r3 : List Cond := [Cond.instanceMethod yX4_right, Cond.selects RX4 yX4_right yX4_right, Cond.code yX4_right cX4_right 2 (some .int), Cond.methodLink RX4 33 yX4_inWord, Cond.instanceMethod yX4_inWord, Cond.selects RX4 yX4_inWord yX4_inWord, Cond.code yX4_inWord cX4_inWord 5 (some .int), Cond.methodLink RX4 52 yX4_clears, Cond.instanceMethod yX4_clears, Cond.selects RX4 yX4_clears yX4_clears, Cond.code yX4_clears cX4_clears 6 (some .int), Cond.methodLink RX4 71 yX4_givesBack, Cond.instanceMethod yX4_givesBack, Cond.selects RX4 yX4_givesBack yX4_givesBack, Cond.code yX4_givesBack cX4_givesBack 5 (some .int), Cond.methodLink RX4 74 yX4_clearsSome, Cond.instanceMethod yX4_clearsSome, Cond.selects RX4 yX4_clearsSome yX4_clearsSome, Cond.code yX4_clearsSome cX4_clearsSome 2 (some .int), Cond.methodLink RX4 87 yX4_reserves, Cond.instanceMethod yX4_reserves, Cond.selects RX4 yX4_reserves yX4_reserves, Cond.code yX4_reserves cX4_reserves 5 (some .int), Cond.methodLink RX4 77 yX4_isSize]
def wsX4_runsOne_r4 : List Cond := [Cond.static yX4_isSize, Cond.code yX4_isSize cX4_isSize 1 (some .boolean), Cond.methodLink RX4 81 yX4_isBlock, Cond.instanceMethod yX4_isBlock, Cond.selects RX4 yX4_isBlock yX4_isBlock, Cond.code yX4_isBlock cX4_isBlock 2 (some .boolean), Cond.methodLink RX4 84 yX4_placeOf, Cond.instanceMethod yX4_placeOf, Cond.selects RX4 yX4_placeOf yX4_placeOf, Cond.code yX4_placeOf cX4_placeOf 5 (some .int), Cond.methodLink RX4 90 yX4_takesIn, Cond.instanceMethod yX4_takesIn, Cond.selects RX4 yX4_takesIn yX4_takesIn, Cond.code yX4_takesIn cX4_takesIn 4 (some .int), Cond.methodLink RX4 96 yX4_damages, Cond.instanceMethod yX4_damages, Cond.selects RX4 yX4_damages yX4_damages, Cond.code yX4_damages cX4_damages 2 (some .int), Cond.methodLink RX4 93 yX4_isWord, Cond.static yX4_isWord, Cond.code yX4_isWord cX4_isWord 1 (some .boolean), Cond.methodLink RX4 99 yX4_repairs, Cond.instanceMethod yX4_repairs, Cond.selects RX4 yX4_repairs yX4_repairs]
def wsX4_runsOne_r5 : List Cond := [Cond.code yX4_repairs cX4_repairs 3 (some .int)]
def wsX4_runsOne : List Cond := .code yX4_runsOne cX4_runsOne 6 (some .boolean) :: ((wsX4_runsOne_r1 ++ (wsX4_runsOne_r2 ++ (wsX4_runsOne_r3 ++ (wsX4_runsOne_r4 ++ wsX4_runsOne_r5)))) ++ wsX40)
def wsX4_run_r1 : List Cond := [Cond.fieldLink RX4 105 "SlotMapsModel" "at" "I", Cond.fieldLink RX4 102 "SlotMapsModel" "typed" "I", Cond.methodLink RX4 55 yX4_notes, Cond.instanceMethod yX4_notes, Cond.selects RX4 yX4_notes yX4_notes, Cond.initialized RX4, Cond.code yX4_notes cX4_notes 1 none, Cond.fieldLink RX4 7 "SlotMapsModel" "now" "[I", Cond.fieldLink RX4 16 "SlotMapsModel" "before" "[I", Cond.methodLink RX4 25 yX4_copies, Cond.static yX4_copies, Cond.code yX4_copies cX4_copies 5 none, Cond.methodLink RX4 128 yX4_runsOne, Cond.instanceMethod yX4_runsOne, Cond.selects RX4 yX4_runsOne yX4_runsOne, Cond.code yX4_runsOne cX4_runsOne 6 (some .boolean), Cond.methodLink RX4 108 yX4_signAt, Cond.instanceMethod yX4_signAt, Cond.selects RX4 yX4_signAt yX4_signAt, Cond.code yX4_signAt cX4_signAt 2 (some .int), Cond.fieldLink RX4 22 "SlotMapsModel" "text" "[I", Cond.methodLink RX4 118 yX4_isLetter, Cond.static yX4_isLetter, Cond.code yX4_isLetter cX4_isLetter 1 (some .boolean)]
def wsX4_run_r2 : List Cond := [Cond.methodLink RX4 111 yX4_isDigit, Cond.instanceMethod yX4_isDigit, Cond.selects RX4 yX4_isDigit yX4_isDigit, Cond.code yX4_isDigit cX4_isDigit 1 (some .boolean), Cond.methodLink RX4 64 yX4_in, Cond.static yX4_in, Cond.code yX4_in cX4_in 3 (some .boolean), Cond.methodLink RX4 121 yX4_number, Cond.instanceMethod yX4_number, Cond.selects RX4 yX4_number yX4_number, Cond.code yX4_number cX4_number 3 (some .int), Cond.methodLink RX4 124 yX4_does, Cond.instanceMethod yX4_does, Cond.selects RX4 yX4_does yX4_does, Cond.code yX4_does cX4_does 4 (some .int), Cond.methodLink RX4 115 yX4_takesMany, Cond.instanceMethod yX4_takesMany, Cond.selects RX4 yX4_takesMany yX4_takesMany, Cond.code yX4_takesMany cX4_takesMany 4 (some .int), Cond.methodLink RX4 58 yX4_takes1, Cond.instanceMethod yX4_takes1, Cond.selects RX4 yX4_takes1 yX4_takes1, Cond.code yX4_takes1 cX4_takes1 2 (some .int), Cond.methodLink RX4 48 yX4_goesThrough]
def wsX4_run_r3 : List Cond := [Cond.instanceMethod yX4_goesThrough, Cond.selects RX4 yX4_goesThrough yX4_goesThrough, Cond.code yX4_goesThrough cX4_goesThrough 3 (some .int), Cond.methodLink RX4 41 yX4_firstIn, Cond.instanceMethod yX4_firstIn, Cond.selects RX4 yX4_firstIn yX4_firstIn, Cond.code yX4_firstIn cX4_firstIn 3 (some .int), Cond.methodLink RX4 44 yX4_becomes, Cond.instanceMethod yX4_becomes, Cond.selects RX4 yX4_becomes yX4_becomes, Cond.code yX4_becomes cX4_becomes 3 none, Cond.methodLink RX4 37 yX4_right, Cond.instanceMethod yX4_right, Cond.selects RX4 yX4_right yX4_right, Cond.code yX4_right cX4_right 2 (some .int), Cond.methodLink RX4 33 yX4_inWord, Cond.instanceMethod yX4_inWord, Cond.selects RX4 yX4_inWord yX4_inWord, Cond.code yX4_inWord cX4_inWord 5 (some .int), Cond.methodLink RX4 52 yX4_clears, Cond.instanceMethod yX4_clears, Cond.selects RX4 yX4_clears yX4_clears, Cond.code yX4_clears cX4_clears 6 (some .int), Cond.methodLink RX4 71 yX4_givesBack]
def wsX4_run_r4 : List Cond := [Cond.instanceMethod yX4_givesBack, Cond.selects RX4 yX4_givesBack yX4_givesBack, Cond.code yX4_givesBack cX4_givesBack 5 (some .int), Cond.methodLink RX4 74 yX4_clearsSome, Cond.instanceMethod yX4_clearsSome, Cond.selects RX4 yX4_clearsSome yX4_clearsSome, Cond.code yX4_clearsSome cX4_clearsSome 2 (some .int), Cond.methodLink RX4 87 yX4_reserves, Cond.instanceMethod yX4_reserves, Cond.selects RX4 yX4_reserves yX4_reserves, Cond.code yX4_reserves cX4_reserves 5 (some .int), Cond.methodLink RX4 77 yX4_isSize, Cond.static yX4_isSize, Cond.code yX4_isSize cX4_isSize 1 (some .boolean), Cond.methodLink RX4 81 yX4_isBlock, Cond.instanceMethod yX4_isBlock, Cond.selects RX4 yX4_isBlock yX4_isBlock, Cond.code yX4_isBlock cX4_isBlock 2 (some .boolean), Cond.methodLink RX4 84 yX4_placeOf, Cond.instanceMethod yX4_placeOf, Cond.selects RX4 yX4_placeOf yX4_placeOf, Cond.code yX4_placeOf cX4_placeOf 5 (some .int), Cond.methodLink RX4 90 yX4_takesIn, Cond.instanceMethod yX4_takesIn]
def wsX4_run_r5 : List Cond := [Cond.selects RX4 yX4_takesIn yX4_takesIn, Cond.code yX4_takesIn cX4_takesIn 4 (some .int), Cond.methodLink RX4 96 yX4_damages, Cond.instanceMethod yX4_damages, Cond.selects RX4 yX4_damages yX4_damages, Cond.code yX4_damages cX4_damages 2 (some .int), Cond.methodLink RX4 93 yX4_isWord, Cond.static yX4_isWord, Cond.code yX4_isWord cX4_isWord 1 (some .boolean), Cond.methodLink RX4 99 yX4_repairs, Cond.instanceMethod yX4_repairs, Cond.selects RX4 yX4_repairs yX4_repairs, Cond.code yX4_repairs cX4_repairs 3 (some .int), Cond.methodLink RX4 61 yX4_ends, Cond.instanceMethod yX4_ends, Cond.selects RX4 yX4_ends yX4_ends, Cond.code yX4_ends cX4_ends 3 (some .int), Cond.fieldLink RX4 29 "SlotMapsModel" "pasts" "I", Cond.fieldLink RX4 13 "SlotMapsModel" "past" "[I"]
def wsX4_run : List Cond := .code yX4_run cX4_run 2 (some .int) :: ((wsX4_run_r1 ++ (wsX4_run_r2 ++ (wsX4_run_r3 ++ (wsX4_run_r4 ++ wsX4_run_r5)))) ++ wsX40)
def wsX4_bits : List Cond := .code yX4_bits cX4_bits 3 (some .int) :: ([.fieldLink RX4 7 "SlotMapsModel" "now" "[I"] ++ wsX40)
def wsX4_full : List Cond := .code yX4_full cX4_full 3 (some .int) :: ([.methodLink RX4 37 yX4_right, .instanceMethod yX4_right, .selects RX4 yX4_right yX4_right, .initialized RX4, .code yX4_right cX4_right 2 (some .int), .methodLink RX4 33 yX4_inWord, .instanceMethod yX4_inWord, .selects RX4 yX4_inWord yX4_inWord, .code yX4_inWord cX4_inWord 5 (some .int), .fieldLink RX4 7 "SlotMapsModel" "now" "[I"] ++ wsX40)
def wsX4_runs : List Cond := .code yX4_runs cX4_runs 6 (some .int) :: ([.fieldLink RX4 7 "SlotMapsModel" "now" "[I"] ++ wsX40)
def wsX4_blocks : List Cond := .code yX4_blocks cX4_blocks 3 (some .int) :: ([.methodLink RX4 81 yX4_isBlock, .instanceMethod yX4_isBlock, .selects RX4 yX4_isBlock yX4_isBlock, .initialized RX4, .code yX4_isBlock cX4_isBlock 2 (some .boolean), .fieldLink RX4 7 "SlotMapsModel" "now" "[I", .methodLink RX4 64 yX4_in, .static yX4_in, .code yX4_in cX4_in 3 (some .boolean)] ++ wsX40)
def wsX4_count_r1 : List Cond := [Cond.fieldLink RX4 7 "SlotMapsModel" "now" "[I", Cond.fieldLink RX4 29 "SlotMapsModel" "pasts" "I", Cond.fieldLink RX4 102 "SlotMapsModel" "typed" "I", Cond.methodLink RX4 131 yX4_inAll, Cond.instanceMethod yX4_inAll, Cond.selects RX4 yX4_inAll yX4_inAll, Cond.initialized RX4, Cond.code yX4_inAll cX4_inAll 4 (some .int), Cond.methodLink RX4 33 yX4_inWord, Cond.instanceMethod yX4_inWord, Cond.selects RX4 yX4_inWord yX4_inWord, Cond.code yX4_inWord cX4_inWord 5 (some .int), Cond.methodLink RX4 134 yX4_blocks, Cond.instanceMethod yX4_blocks, Cond.selects RX4 yX4_blocks yX4_blocks, Cond.code yX4_blocks cX4_blocks 3 (some .int), Cond.methodLink RX4 81 yX4_isBlock, Cond.instanceMethod yX4_isBlock, Cond.selects RX4 yX4_isBlock yX4_isBlock, Cond.code yX4_isBlock cX4_isBlock 2 (some .boolean), Cond.methodLink RX4 64 yX4_in, Cond.static yX4_in, Cond.code yX4_in cX4_in 3 (some .boolean), Cond.methodLink RX4 137 yX4_bits]
def wsX4_count_r2 : List Cond := [Cond.instanceMethod yX4_bits, Cond.selects RX4 yX4_bits yX4_bits, Cond.code yX4_bits cX4_bits 3 (some .int), Cond.methodLink RX4 140 yX4_full, Cond.instanceMethod yX4_full, Cond.selects RX4 yX4_full yX4_full, Cond.code yX4_full cX4_full 3 (some .int), Cond.methodLink RX4 37 yX4_right, Cond.instanceMethod yX4_right, Cond.selects RX4 yX4_right yX4_right, Cond.code yX4_right cX4_right 2 (some .int), Cond.methodLink RX4 143 yX4_runs, Cond.instanceMethod yX4_runs, Cond.selects RX4 yX4_runs yX4_runs, Cond.code yX4_runs cX4_runs 6 (some .int)]
def wsX4_count : List Cond := .code yX4_count cX4_count 2 (some .int) :: ((wsX4_count_r1 ++ wsX4_count_r2) ++ wsX40)
def wsX4_slot : List Cond := .code yX4_slot cX4_slot 3 (some .int) :: ([.fieldLink RX4 7 "SlotMapsModel" "now" "[I", .methodLink RX4 64 yX4_in, .static yX4_in, .initialized RX4, .code yX4_in cX4_in 3 (some .boolean)] ++ wsX40)
def wsX4_word : List Cond := .code yX4_word cX4_word 3 (some .int) :: ([.fieldLink RX4 7 "SlotMapsModel" "now" "[I", .methodLink RX4 93 yX4_isWord, .static yX4_isWord, .initialized RX4, .code yX4_isWord cX4_isWord 1 (some .boolean), .methodLink RX4 64 yX4_in, .static yX4_in, .code yX4_in cX4_in 3 (some .boolean), .methodLink RX4 33 yX4_inWord, .instanceMethod yX4_inWord, .selects RX4 yX4_inWord yX4_inWord, .code yX4_inWord cX4_inWord 5 (some .int), .methodLink RX4 37 yX4_right, .instanceMethod yX4_right, .selects RX4 yX4_right yX4_right, .code yX4_right cX4_right 2 (some .int), .methodLink RX4 41 yX4_firstIn, .instanceMethod yX4_firstIn, .selects RX4 yX4_firstIn yX4_firstIn, .code yX4_firstIn cX4_firstIn 3 (some .int)] ++ wsX40)
def wsX4_block : List Cond := .code yX4_block cX4_block 7 (some .int) :: ([.fieldLink RX4 7 "SlotMapsModel" "now" "[I", .methodLink RX4 64 yX4_in, .static yX4_in, .initialized RX4, .code yX4_in cX4_in 3 (some .boolean), .methodLink RX4 81 yX4_isBlock, .instanceMethod yX4_isBlock, .selects RX4 yX4_isBlock yX4_isBlock, .code yX4_isBlock cX4_isBlock 2 (some .boolean)] ++ wsX40)
def wsX4_audit : List Cond := .code yX4_audit cX4_audit 7 (some .int) :: ([.fieldLink RX4 7 "SlotMapsModel" "now" "[I", .methodLink RX4 64 yX4_in, .static yX4_in, .initialized RX4, .code yX4_in cX4_in 3 (some .boolean), .methodLink RX4 37 yX4_right, .instanceMethod yX4_right, .selects RX4 yX4_right yX4_right, .code yX4_right cX4_right 2 (some .int), .methodLink RX4 33 yX4_inWord, .instanceMethod yX4_inWord, .selects RX4 yX4_inWord yX4_inWord, .code yX4_inWord cX4_inWord 5 (some .int)] ++ wsX40)
def wsX4_next_r1 : List Cond := [Cond.fieldLink RX4 7 "SlotMapsModel" "now" "[I", Cond.fieldLink RX4 19 "SlotMapsModel" "trial" "[I", Cond.methodLink RX4 64 yX4_in, Cond.static yX4_in, Cond.initialized RX4, Cond.code yX4_in cX4_in 3 (some .boolean), Cond.methodLink RX4 25 yX4_copies, Cond.static yX4_copies, Cond.code yX4_copies cX4_copies 5 none, Cond.methodLink RX4 131 yX4_inAll, Cond.instanceMethod yX4_inAll, Cond.selects RX4 yX4_inAll yX4_inAll, Cond.code yX4_inAll cX4_inAll 4 (some .int), Cond.methodLink RX4 33 yX4_inWord, Cond.instanceMethod yX4_inWord, Cond.selects RX4 yX4_inWord yX4_inWord, Cond.code yX4_inWord cX4_inWord 5 (some .int), Cond.methodLink RX4 58 yX4_takes1, Cond.instanceMethod yX4_takes1, Cond.selects RX4 yX4_takes1 yX4_takes1, Cond.code yX4_takes1 cX4_takes1 2 (some .int), Cond.methodLink RX4 48 yX4_goesThrough, Cond.instanceMethod yX4_goesThrough, Cond.selects RX4 yX4_goesThrough yX4_goesThrough]
def wsX4_next_r2 : List Cond := [Cond.code yX4_goesThrough cX4_goesThrough 3 (some .int), Cond.methodLink RX4 41 yX4_firstIn, Cond.instanceMethod yX4_firstIn, Cond.selects RX4 yX4_firstIn yX4_firstIn, Cond.code yX4_firstIn cX4_firstIn 3 (some .int), Cond.methodLink RX4 44 yX4_becomes, Cond.instanceMethod yX4_becomes, Cond.selects RX4 yX4_becomes yX4_becomes, Cond.code yX4_becomes cX4_becomes 3 none, Cond.methodLink RX4 37 yX4_right, Cond.instanceMethod yX4_right, Cond.selects RX4 yX4_right yX4_right, Cond.code yX4_right cX4_right 2 (some .int), Cond.methodLink RX4 52 yX4_clears, Cond.instanceMethod yX4_clears, Cond.selects RX4 yX4_clears yX4_clears, Cond.code yX4_clears cX4_clears 6 (some .int)]
def wsX4_next : List Cond := .code yX4_next cX4_next 6 (some .int) :: ((wsX4_next_r1 ++ wsX4_next_r2) ++ wsX40)
def wsX4_runAt : List Cond := .code yX4_runAt cX4_runAt 2 (some .int) :: ([.methodLink RX4 64 yX4_in, .static yX4_in, .initialized RX4, .code yX4_in cX4_in 3 (some .boolean), .methodLink RX4 68 yX4_runFrom, .instanceMethod yX4_runFrom, .selects RX4 yX4_runFrom yX4_runFrom, .code yX4_runFrom cX4_runFrom 4 (some .int), .fieldLink RX4 7 "SlotMapsModel" "now" "[I"] ++ wsX40)
def wsX4_placeFor : List Cond := .code yX4_placeFor cX4_placeFor 2 (some .int) :: ([.methodLink RX4 77 yX4_isSize, .static yX4_isSize, .initialized RX4, .code yX4_isSize cX4_isSize 1 (some .boolean), .methodLink RX4 84 yX4_placeOf, .instanceMethod yX4_placeOf, .selects RX4 yX4_placeOf yX4_placeOf, .code yX4_placeOf cX4_placeOf 5 (some .int), .fieldLink RX4 7 "SlotMapsModel" "now" "[I"] ++ wsX40)
def wsX4_takes_r1 : List Cond := [Cond.fieldLink RX4 7 "SlotMapsModel" "now" "[I", Cond.fieldLink RX4 19 "SlotMapsModel" "trial" "[I", Cond.methodLink RX4 25 yX4_copies, Cond.static yX4_copies, Cond.initialized RX4, Cond.code yX4_copies cX4_copies 5 none, Cond.methodLink RX4 58 yX4_takes1, Cond.instanceMethod yX4_takes1, Cond.selects RX4 yX4_takes1 yX4_takes1, Cond.code yX4_takes1 cX4_takes1 2 (some .int), Cond.methodLink RX4 48 yX4_goesThrough, Cond.instanceMethod yX4_goesThrough, Cond.selects RX4 yX4_goesThrough yX4_goesThrough, Cond.code yX4_goesThrough cX4_goesThrough 3 (some .int), Cond.methodLink RX4 41 yX4_firstIn, Cond.instanceMethod yX4_firstIn, Cond.selects RX4 yX4_firstIn yX4_firstIn, Cond.code yX4_firstIn cX4_firstIn 3 (some .int), Cond.methodLink RX4 44 yX4_becomes, Cond.instanceMethod yX4_becomes, Cond.selects RX4 yX4_becomes yX4_becomes, Cond.code yX4_becomes cX4_becomes 3 none, Cond.methodLink RX4 37 yX4_right, Cond.instanceMethod yX4_right]
def wsX4_takes_r2 : List Cond := [Cond.selects RX4 yX4_right yX4_right, Cond.code yX4_right cX4_right 2 (some .int), Cond.methodLink RX4 33 yX4_inWord, Cond.instanceMethod yX4_inWord, Cond.selects RX4 yX4_inWord yX4_inWord, Cond.code yX4_inWord cX4_inWord 5 (some .int), Cond.methodLink RX4 52 yX4_clears, Cond.instanceMethod yX4_clears, Cond.selects RX4 yX4_clears yX4_clears, Cond.code yX4_clears cX4_clears 6 (some .int)]
def wsX4_takes : List Cond := .code yX4_takes cX4_takes 2 (some .int) :: ((wsX4_takes_r1 ++ wsX4_takes_r2) ++ wsX40)
def wsJ9_max_7cf53 : List Cond := .code yJ9_max_7cf53 cJ9_max_7cf53 2 (some .int) :: ([])
def wsJ9_min_7cf53 : List Cond := .code yJ9_min_7cf53 cJ9_min_7cf53 2 (some .int) :: ([])
abbrev vwCl : List vw_C := [(RX0, TX0, 3), (RX1, TX1, 6), (RX2, TX2, 5), (RX3, TX3, 6), (RX4, TX4, 8)]
end
section
/-! the frame of every contract here: a world of cells before, a world behind, the same array classes -/
def bI (b : Bool) : Int32 := if b then 1 else 0
theorem bI_0 {b : Bool} : bI b = nI 0 ↔ b = false := by cases b <;> simp [bI, nI]
theorem bI_z (b : Bool) : narrow .boolean (.int (bI b)) = .int (bI b) := by cases b <;> rfl
theorem bI_t {b : Bool} (h : b = true) : nI 1 = bI b := by rw [h]; rfl
theorem bI_f {b : Bool} (h : b = false) : nI 0 = bI b := by rw [h]; rfl
theorem bI_cf {b : Bool} (h : bI b = nI 0) : b = false := bI_0.mp h
theorem bI_ct {b : Bool} (h : ¬ bI b = nI 0) : b = true := by
  cases b with
  | false => exact absurd (bI_0.mpr rfl) h
  | true => rfl
/-- the array classes of the worlds -/
abbrev TY (cI cG cC cR : ClassId) : List (ClassId × FieldType) := [(cI, .int), (cG, .array .int), (cC, .char), (cR, .object "SlotMaps$Slots")]
/-- the words of the nest: what a class here reads of a nest mate's private members -/
def nwF : List (Nat × String × String × String) := [(121, "SlotMaps$Slots", "bits", "[[I"), (138, "SlotMaps$Slots", "blockFirst", "[I"), (142, "SlotMaps$Slots", "blockSize", "[I"), (95, "SlotMaps$Slots", "summary", "I"), (92, "SlotMaps$Slots", "looks", "I"), (112, "SlotMaps$History", "states", "I")]
def nwM : List (Nat × MethodName) := [(51, yX3_lowestBit), (54, yX3_bitOf), (64, yX3_isRunLength), (70, yX3_wordOf), (73, yX3_rangeBits), (85, yX3_isBlockSize)]
def nwL : List Cond := nwF.map (fun q => .fieldLinkNest RX3 q.1 q.2.1 q.2.2.1 q.2.2.2 RX3) ++ nwM.map (fun q => .methodLinkNest RX2 q.1 q.2 RX3)
def nwH (U : State) : Prop := ∀ w ∈ nwL, va_Nw w U
theorem nwH.warm {s U : State} (hW : s.WarmedH U.vm) (h : nwH s) : nwH U := by
  intro w hw
  rcases List.mem_append.mp hw with h1 | h1
  · obtain ⟨q, -, rfl⟩ := List.mem_map.mp h1
    exact va_Nw.warmF hW (h _ hw)
  · obtain ⟨q, -, rfl⟩ := List.mem_map.mp h1
    exact va_Nw.warmM hW (h _ hw)
theorem nwH.same {s U : State} (e : s.vm = U.vm) (h : nwH s) : nwH U := by
  intro w hw
  refine va_Nw.same ?_ e (h w hw)
  rcases List.mem_append.mp hw with h1 | h1
  · obtain ⟨q, -, rfl⟩ := List.mem_map.mp h1
    rfl
  · obtain ⟨q, -, rfl⟩ := List.mem_map.mp h1
    rfl
/-- what stays known of the tables: the classes, the array classes, the nest -/
def KK (D : va_G) (tys : List (ClassId × FieldType)) (U : State) : Prop := va_K D vwCl tys U ∧ nwH U
theorem KK.warm {D : va_G} {tys : List (ClassId × FieldType)} {s U : State} (hW : s.WarmedH U.vm) (h : KK D tys s) : KK D tys U := ⟨va_K.moved hW.alike h.1, h.2.warm hW⟩
abbrev MPc (D : va_G) (tys : List (ClassId × FieldType)) (av : List Value) (ws : va_W) (sz : Nat) : Array Value → State → Prop := va_Pc av (fun U => U.heap.size = sz ∧ va_P D vwCl ws U.heap ∧ KK D tys U ∧ va_D (fun _ => True) ws)
abbrev MB (D : va_G) (ws : va_W) (sz : Nat) (ws' : va_W) : State → Prop := fun t => va_P D vwCl ws' t.heap ∧ va_D (va_A ws sz) ws'
/-- a method that answers a number: from any heap that holds ws it returns r with post r u, and the heap holds W' u; nothing else is changed, nothing is made -/
def CtI {S : Type} (l : Launch) (y : MethodName) (wd : List Cond) (rm : Room) (D : va_G) (tys : List (ClassId × FieldType)) (av : List Value) (ws : va_W) (W' : S → va_W) (post : Int32 → S → Prop) : Prop :=
  ∀ sz : Nat, Met l y wd rm (MPc D tys av ws sz) (va_Qi post (fun u => MB D ws sz (W' u)) (va_A ws sz)) 0 0 (va_A ws sz)
/-- the same of a method without an answer -/
def CtV {S : Type} (l : Launch) (y : MethodName) (wd : List Cond) (rm : Room) (D : va_G) (tys : List (ClassId × FieldType)) (av : List Value) (ws : va_W) (W' : S → va_W) (post : S → Prop) : Prop :=
  ∀ sz : Nat, Met l y wd rm (MPc D tys av ws sz) (va_Qv post (fun u => MB D ws sz (W' u)) (va_A ws sz)) 0 0 (va_A ws sz)
theorem MPc_blind {D : va_G} {tys : List (ClassId × FieldType)} {av : List Value} {ws : va_W} {sz : Nat} : FrameBlind (MPc D tys av ws sz) := fun a U g mk q => by
  obtain ⟨q0, q1, qP, qK, qD⟩ := q
  exact ⟨q0, q1, qP, ⟨va_K.moved (u := U) (U := U.calling g mk a) (Vm.Alike.refl U.vm) qK.1, nwH.same (s := U) (U := U.calling g mk a) rfl qK.2⟩, qD⟩
theorem CtI.of {S : Type} {l : Launch} {y : MethodName} {wd wd' : List Cond} {rm : Room} {D : va_G} {tys : List (ClassId × FieldType)} {av : List Value} {ws : va_W} {W' : S → va_W} {post : Int32 → S → Prop} {cc : ByteArray} {maxL : Nat} {ty : FieldType}
    (hy : plainName y.cls = true) (hw : wd = Cond.code y cc maxL (some ty) :: wd') (hlen : (lg_sl av).length ≤ maxL)
    (body : ∀ (p : Program) (e : Env) (s : State) (m : MethodId) (args : Array Value) (below : List Frame) (meth : Method) (c : Code) (A : Nat → Prop) (Q : State → Prop) (ls : Array Slot),
      CallFix p m c cc maxL s args wd y.cls → KK D tys s → va_P D vwCl ws s.heap → va_D A ws → (∀ q : Nat, s.heap.size ≤ q → A q) →
      (∀ (H : Heap) (locs : List Loc) (r : Int32) (u : S) (ls : Array Slot) (pc : Nat), decode cc pc = .ok (.ireturn, 1) → narrow ty (.int r) = .int r → post r u → va_P D vwCl (W' u) H → va_D A (W' u) → va_S A s.heap H locs → W p l e rm s m args below meth c H locs 0 0 Q (F0 m pc ls [.int r])) →
      lv_has ls maxL (lv_args 0 av) → W p l e rm s m args below meth c s.heap [] 0 0 Q (F0 m 0 ls [])) : CtI l y wd rm D tys av ws W' post := by
  intro sz
  refine Met.ofW hy hw ?_
  intro p e s m args below meth c s₁ B hml hv
  obtain ⟨rfl, hsz, hP, hK, hD0⟩ := hv
  subst hsz
  have hl := lv_entry av (n := maxL) hlen
  rw [lg_entry_eq]
  refine body p e s m av.toArray below meth c (va_A ws s.heap.size) _ _ ⟨B.exec, B.bytes, hml, findClass_of_methodNamed B.named, atoms_spec (ws := wd) B.pre⟩ hK hP hD0.self (fun q h => Or.inr h) ?_ hl
  intro H locs r u ls pc hdg hn hp hP' hD' hS
  exact W.zret B.exec B.bytes B.returns hn (fun t ht hW => ⟨⟨r, u, rfl, hp, by rw [ht]; exact hP', hD'⟩, hS.F ht⟩) hS.2.2 hdg B.notSynchronized
theorem CtV.of {S : Type} {l : Launch} {y : MethodName} {wd wd' : List Cond} {rm : Room} {D : va_G} {tys : List (ClassId × FieldType)} {av : List Value} {ws : va_W} {W' : S → va_W} {post : S → Prop} {cc : ByteArray} {maxL : Nat}
    (hy : plainName y.cls = true) (hw : wd = Cond.code y cc maxL none :: wd') (hlen : (lg_sl av).length ≤ maxL)
    (body : ∀ (p : Program) (e : Env) (s : State) (m : MethodId) (args : Array Value) (below : List Frame) (meth : Method) (c : Code) (A : Nat → Prop) (Q : State → Prop) (ls : Array Slot),
      CallFix p m c cc maxL s args wd y.cls → KK D tys s → va_P D vwCl ws s.heap → va_D A ws → (∀ q : Nat, s.heap.size ≤ q → A q) →
      (∀ (H : Heap) (locs : List Loc) (u : S) (ls : Array Slot) (pc : Nat), decode cc pc = .ok (.return_, 1) → post u → va_P D vwCl (W' u) H → va_D A (W' u) → va_S A s.heap H locs → W p l e rm s m args below meth c H locs 0 0 Q (F0 m pc ls [])) →
      lv_has ls maxL (lv_args 0 av) → W p l e rm s m args below meth c s.heap [] 0 0 Q (F0 m 0 ls [])) : CtV l y wd rm D tys av ws W' post := by
  intro sz
  refine Met.ofW hy hw ?_
  intro p e s m args below meth c s₁ B hml hv
  obtain ⟨rfl, hsz, hP, hK, hD0⟩ := hv
  subst hsz
  have hl := lv_entry av (n := maxL) hlen
  rw [lg_entry_eq]
  refine body p e s m av.toArray below meth c (va_A ws s.heap.size) _ _ ⟨B.exec, B.bytes, hml, findClass_of_methodNamed B.named, atoms_spec (ws := wd) B.pre⟩ hK hP hD0.self (fun q h => Or.inr h) ?_ hl
  intro H locs u ls pc hdg hp hP' hD' hS
  exact W.vret B.exec B.bytes B.returns (fun t ht hW => ⟨⟨u, rfl, hp, by rw [ht]; exact hP', hD'⟩, hS.F ht⟩) hS.2.2 hdg B.notSynchronized
section CALLS
variable {p : Program} {l : Launch} {e : Env} {R : Room} {s : State} {m : MethodId} {args : Array Value} {below : List Frame} {meth : Method} {c : Code} {H : Heap} {locs : List Loc} {cells slots : Nat} {Q : State → Prop}
variable {cc : ByteArray} {nL pc index n maxL : Nat} {ls : Array Slot} {rest st As : List Value} {D : va_G} {A : Nat → Prop} {b ci : Nat} {fs : List Value} {tys : List (ClassId × FieldType)} {ws wc wr : va_W} {H0 : Heap} {Ts wd : List Cond} {own C : String} {y : MethodName} {rm : Room} {bytes : ByteArray} {ret : Option FieldType} {T : u_T} {N : Nat}
/-- how a call's end gives the caller's world: the callee's cells by isC, the others by isR, the order of what comes by isO -/
theorem cl_end {w1 wsN : va_W} {H1 : Heap} (hP : va_P D vwCl ws H) (hD : va_D A ws) (isC isR isO : List Nat) (hC : isC.map (fun i => ws[i]?) = wc.map some) (hR : isR.map (fun i => ws[i]?) = wr.map some) (hn : va_nd isR = true) (hdis : ∀ i ∈ isR, i ∉ isC) (hO : isO.map (fun i => (wr ++ w1)[i]?) = wsN.map some) (hnO : va_nd isO = true)
    (hk : ∀ q : Nat, q < H.size → ¬ va_A wc H.size q → H1[q]? = H[q]?) (hF : ∀ q, va_A wc H.size q → A q) (hP1 : va_P D vwCl w1 H1) (hD1 : va_D (va_A wc H.size) w1) : va_P D vwCl wsN H1 ∧ va_D A wsN := by
  obtain ⟨a1, a2⟩ := va_join hP hD isC isR hC hR hn hdis hk hF hP1 hD1
  refine ⟨fun k q hq => ?_, a2.sub isO hnO hO⟩
  have h1 : (isO.map (fun i => (wr ++ w1)[i]?))[k]? = some (some q) := by rw [hO, List.getElem?_map, hq]; rfl
  rw [List.getElem?_map] at h1
  cases hi : isO[k]? with
  | none => rw [hi] at h1; cases h1
  | some i => rw [hi] at h1; exact a1 i q (Option.some.inj h1)
theorem cl_sub (hP : va_P D vwCl ws H) (isC : List Nat) (hC : isC.map (fun i => ws[i]?) = wc.map some) : va_P D vwCl wc H := by
  intro k q hq
  have h1 : (isC.map (fun i => ws[i]?))[k]? = some (some q) := by rw [hC, List.getElem?_map, hq]; rfl
  rw [List.getElem?_map] at h1
  cases hi : isC[k]? with
  | none => rw [hi] at h1; cases h1
  | some i => rw [hi] at h1; exact hP i q (Option.some.inj h1)
/-- a virtual call that answers a number -/
theorem cl_Vi {S : Type} {post : Int32 → S → Prop} {W' wsN : S → va_W} (F : CallFix p m c cc nL s args Ts own) (hK : KK D tys s) (hA : ∀ q : Nat, H0.size ≤ q → A q) (hP : va_P D vwCl ws H) (hD : va_D A ws) (hS : va_S A H0 H locs)
    (hM : CtI l y wd rm D tys (.ref b :: As) wc W' post) (cw : CallW R s args own C index y bytes maxL ret wd rm 0 0 n) (isC isR isO : List Nat) (wr : va_W) (hC : isC.map (fun i => ws[i]?) = wc.map some) (hR : isR.map (fun i => ws[i]?) = wr.map some) (hO : ∀ u, isO.map (fun i => (wr ++ W' u)[i]?) = (wsN u).map some) (hnd : (va_nd isC && va_nd isR && va_nd isO) = true) (hdis : ∀ i ∈ isR, i ∉ isC)
    (q0 : Nat) (hrc : wc[q0]? = some (b, .inr (ci, fs))) (hci : vwCl[ci]? = some (C, T, N)) (hn : As.length = n) (hsz : ls.size = nL) (hst : st = As.reverse ++ .ref b :: rest) (hW : (rest.map fun v => v.category).sum ≤ 8) (hf : cells ≤ R.cells ∧ slots ≤ R.slots) (hdg : decode cc pc = .ok (.invokevirtual index, 3))
    (kk : ∀ (r : Int32) (u : S) (H1 : Heap) (locs1 : List Loc), post r u → va_P D vwCl (wsN u) H1 → va_D A (wsN u) → va_S A H0 H1 locs1 → W p l e R s m args below meth c H1 locs1 cells slots Q (F0 m (pc + 3) ls (.int r :: rest))) : W p l e R s m args below meth c H locs cells slots Q (F0 m pc ls st) := by
  simp only [Bool.and_eq_true] at hnd
  have hPc := cl_sub hP isC hC
  have hDc := hD.sub isC hnd.1.1 hC
  have hFc := va_free hD hS hA isC hC
  refine va_calli (va_runV (As := As) (rest := rest) F (hM H.size) cw ⟨MPc_blind, va_recv hK.1 hPc hci hrc, fun U hU hW => ⟨rfl, by rw [hU], by rw [hU]; exact hPc, KK.warm hW hK, hDc.weaken (fun _ _ _ _ => trivial)⟩⟩ rfl hn hsz hst (lv_room hW) hdg hf) hS (fun q _ h => hFc q h) hFc (fun r u t H1 locs1 ht hvm hw hB hz1 hk1 hS1 => ?_)
  obtain ⟨hP1, hD1⟩ := hB
  rw [ht] at hP1
  obtain ⟨a1, a2⟩ := cl_end hP hD isC isR isO hC hR hnd.1.2 hdis (hO u) hnd.2 hk1 hFc hP1 hD1
  exact kk r u H1 locs1 hw a1 a2 hS1
/-- a virtual call without an answer -/
theorem cl_Vv {S : Type} {post : S → Prop} {W' wsN : S → va_W} (F : CallFix p m c cc nL s args Ts own) (hK : KK D tys s) (hA : ∀ q : Nat, H0.size ≤ q → A q) (hP : va_P D vwCl ws H) (hD : va_D A ws) (hS : va_S A H0 H locs)
    (hM : CtV l y wd rm D tys (.ref b :: As) wc W' post) (cw : CallW R s args own C index y bytes maxL ret wd rm 0 0 n) (isC isR isO : List Nat) (wr : va_W) (hC : isC.map (fun i => ws[i]?) = wc.map some) (hR : isR.map (fun i => ws[i]?) = wr.map some) (hO : ∀ u, isO.map (fun i => (wr ++ W' u)[i]?) = (wsN u).map some) (hnd : (va_nd isC && va_nd isR && va_nd isO) = true) (hdis : ∀ i ∈ isR, i ∉ isC)
    (q0 : Nat) (hrc : wc[q0]? = some (b, .inr (ci, fs))) (hci : vwCl[ci]? = some (C, T, N)) (hn : As.length = n) (hsz : ls.size = nL) (hst : st = As.reverse ++ .ref b :: rest) (hW : (rest.map fun v => v.category).sum ≤ 8) (hf : cells ≤ R.cells ∧ slots ≤ R.slots) (hdg : decode cc pc = .ok (.invokevirtual index, 3))
    (kk : ∀ (u : S) (H1 : Heap) (locs1 : List Loc), post u → va_P D vwCl (wsN u) H1 → va_D A (wsN u) → va_S A H0 H1 locs1 → W p l e R s m args below meth c H1 locs1 cells slots Q (F0 m (pc + 3) ls rest)) : W p l e R s m args below meth c H locs cells slots Q (F0 m pc ls st) := by
  simp only [Bool.and_eq_true] at hnd
  have hPc := cl_sub hP isC hC
  have hDc := hD.sub isC hnd.1.1 hC
  have hFc := va_free hD hS hA isC hC
  refine va_callv (va_runV (As := As) (rest := rest) F (hM H.size) cw ⟨MPc_blind, va_recv hK.1 hPc hci hrc, fun U hU hW => ⟨rfl, by rw [hU], by rw [hU]; exact hPc, KK.warm hW hK, hDc.weaken (fun _ _ _ _ => trivial)⟩⟩ rfl hn hsz hst (lv_room hW) hdg hf) hS (fun q _ h => hFc q h) hFc (fun u t H1 locs1 ht hvm hw hB hz1 hk1 hS1 => ?_)
  obtain ⟨hP1, hD1⟩ := hB
  rw [ht] at hP1
  obtain ⟨a1, a2⟩ := cl_end hP hD isC isR isO hC hR hnd.1.2 hdis (hO u) hnd.2 hk1 hFc hP1 hD1
  exact kk u H1 locs1 hw a1 a2 hS1
/-- a static call without an answer, over a part of the world -/
theorem cl_Sv {S : Type} {post : S → Prop} {W' wsN : S → va_W} (F : CallFix p m c cc nL s args Ts own) (hK : KK D tys s) (hA : ∀ q : Nat, H0.size ≤ q → A q) (hP : va_P D vwCl ws H) (hD : va_D A ws) (hS : va_S A H0 H locs)
    (hM : CtV l y wd rm D tys As wc W' post) (cw : CallB R s args own index y bytes maxL ret wd rm 0 0 n ∧ (Cond.static y).before args s = true) (isC isR isO : List Nat) (wr : va_W) (hC : isC.map (fun i => ws[i]?) = wc.map some) (hR : isR.map (fun i => ws[i]?) = wr.map some) (hO : ∀ u, isO.map (fun i => (wr ++ W' u)[i]?) = (wsN u).map some) (hnd : (va_nd isC && va_nd isR && va_nd isO) = true) (hdis : ∀ i ∈ isR, i ∉ isC)
    (hn : As.length = n) (hsz : ls.size = nL) (hst : st = As.reverse ++ rest) (hW : (rest.map fun v => v.category).sum ≤ 8) (hf : cells ≤ R.cells ∧ slots ≤ R.slots) (hdg : decode cc pc = .ok (.invokestatic index, 3))
    (kk : ∀ (u : S) (H1 : Heap) (locs1 : List Loc), post u → va_P D vwCl (wsN u) H1 → va_D A (wsN u) → va_S A H0 H1 locs1 → W p l e R s m args below meth c H1 locs1 cells slots Q (F0 m (pc + 3) ls rest)) : W p l e R s m args below meth c H locs cells slots Q (F0 m pc ls st) := by
  simp only [Bool.and_eq_true] at hnd
  have hPc := cl_sub hP isC hC
  have hDc := hD.sub isC hnd.1.1 hC
  have hFc := va_free hD hS hA isC hC
  refine va_callv (va_runS (As := As) (rest := rest) F (hM H.size) cw ⟨MPc_blind, fun U hU hW => ⟨rfl, by rw [hU], by rw [hU]; exact hPc, KK.warm hW hK, hDc.weaken (fun _ _ _ _ => trivial)⟩⟩ rfl hn hsz hst (lv_room hW) hdg hf) hS (fun q _ h => hFc q h) hFc (fun u t H1 locs1 ht hvm hw hB hz1 hk1 hS1 => ?_)
  obtain ⟨hP1, hD1⟩ := hB
  rw [ht] at hP1
  obtain ⟨a1, a2⟩ := cl_end hP hD isC isR isO hC hR hnd.1.2 hdis (hO u) hnd.2 hk1 hFc hP1 hD1
  exact kk u H1 locs1 hw a1 a2 hS1
/-- a static call that touches no cell of the world -/
theorem cl_S0 {post : Int32 → Unit → Prop} (F : CallFix p m c cc nL s args Ts own) (hK : KK D tys s) (hA : ∀ q : Nat, H0.size ≤ q → A q) (hP : va_P D vwCl ws H) (hD : va_D A ws) (hS : va_S A H0 H locs)
    (hM : CtI l y wd rm D tys As [] (fun _ => []) post) (cw : CallB R s args own index y bytes maxL ret wd rm 0 0 n ∧ (Cond.static y).before args s = true)
    (hn : As.length = n) (hsz : ls.size = nL) (hst : st = As.reverse ++ rest) (hW : (rest.map fun v => v.category).sum ≤ 8) (hf : cells ≤ R.cells ∧ slots ≤ R.slots) (hdg : decode cc pc = .ok (.invokestatic index, 3))
    (kk : ∀ (r : Int32) (H1 : Heap) (locs1 : List Loc), post r () → va_P D vwCl ws H1 → va_S A H0 H1 locs1 → W p l e R s m args below meth c H1 locs1 cells slots Q (F0 m (pc + 3) ls (.int r :: rest))) : W p l e R s m args below meth c H locs cells slots Q (F0 m pc ls st) := by
  have hFc : ∀ q, va_A [] H.size q → A q := va_free hD hS hA [] rfl
  refine va_calli (va_runS (As := As) (rest := rest) F (hM H.size) cw ⟨MPc_blind, fun U hU hW => ⟨rfl, by rw [hU], fun k q h => by simp at h, KK.warm hW hK, ⟨fun i j p q h => by simp at h, fun k q h => by simp at h⟩⟩⟩ rfl hn hsz hst (lv_room hW) hdg hf) hS (fun q _ h => hFc q h) hFc (fun r u t H1 locs1 ht hvm hw hB hz1 hk1 hS1 => ?_)
  refine kk r H1 locs1 hw (hP.kept (fun k q hq => hk1 q.1 ((hP k q hq).lt) (fun h => ?_))) hS1
  rcases h with ⟨k, e, h⟩ | h
  · simp at h
  · exact absurd ((hP k q hq).lt) (Nat.not_lt.mpr h)
/-- a static call of a nest mate's private method that touches no cell of the world -/
theorem cl_N0 {host : String} {post : Int32 → Unit → Prop} (F : CallFix p m c cc nL s args Ts own) (hK : KK D tys s) (hA : ∀ q : Nat, H0.size ≤ q → A q) (hP : va_P D vwCl ws H) (hD : va_D A ws) (hS : va_S A H0 H locs)
    (hM : CtI l y wd rm D tys As [] (fun _ => []) post) (cw : va_CN R s args own index y host bytes maxL ret wd rm 0 0 n ∧ (Cond.static y).before args s = true ∧ True)
    (hn : As.length = n) (hsz : ls.size = nL) (hst : st = As.reverse ++ rest) (hW : (rest.map fun v => v.category).sum ≤ 8) (hf : cells ≤ R.cells ∧ slots ≤ R.slots) (hdg : decode cc pc = .ok (.invokestatic index, 3))
    (kk : ∀ (r : Int32) (H1 : Heap) (locs1 : List Loc), post r () → va_P D vwCl ws H1 → va_S A H0 H1 locs1 → W p l e R s m args below meth c H1 locs1 cells slots Q (F0 m (pc + 3) ls (.int r :: rest))) : W p l e R s m args below meth c H locs cells slots Q (F0 m pc ls st) := by
  have hFc : ∀ q, va_A [] H.size q → A q := va_free hD hS hA [] rfl
  refine va_calli (va_runSN (As := As) (rest := rest) F (hM H.size) cw ⟨MPc_blind, fun U hU hW => ⟨rfl, by rw [hU], fun k q h => by simp at h, KK.warm hW hK, ⟨fun i j p q h => by simp at h, fun k q h => by simp at h⟩⟩⟩ rfl hn hsz hst (lv_room hW) hdg hf) hS (fun q _ h => hFc q h) hFc (fun r u t H1 locs1 ht hvm hw hB hz1 hk1 hS1 => ?_)
  refine kk r H1 locs1 hw (hP.kept (fun k q hq => hk1 q.1 ((hP k q hq).lt) (fun h => ?_))) hS1
  rcases h with ⟨k, e, h⟩ | h
  · simp at h
  · exact absurd ((hP k q hq).lt) (Nat.not_lt.mpr h)
/-- the load of a place of an int array -/
theorem n_iald (hexec : p.tables.exec = Jvm.exec) (hb : c.code = cc) (hK : KK D tys s) (hP : va_P D vwCl ws H) (q0 t0 : Nat) {a : Nat} {cA : ClassId} {n : Nat} {f : Nat → Int32} (ha : ws[q0]? = some (a, .inl (cA, n, .inl f))) (ht : tys[t0]? = some (cA, .int)) (hn : n < 2 ^ 31) {i : Nat} (hin : i < n) (hdg : decode cc pc = .ok (.iaload, 1))
    (kk : W p l e R s m args below meth c H locs cells slots Q (F0 m (pc + 1) ls (.int (f i) :: rest))) : W p l e R s m args below meth c H locs cells slots Q (F0 m pc ls (.int (nI i) :: .ref a :: rest)) := by
  refine va_iald hexec hb hK.1 hP q0 t0 ha ht (vp_in_nI hin hn) hdg ?_
  rw [nI_clamp (Nat.lt_trans hin hn)]
  exact kk
theorem n_iast (hexec : p.tables.exec = Jvm.exec) (hb : c.code = cc) (hK : KK D tys s) (hP : va_P D vwCl ws H) (hD : va_D A ws) (hS : va_S A H0 H locs) (q0 t0 : Nat) {a : Nat} {cA : ClassId} {n : Nat} {f : Nat → Int32} (ha : ws[q0]? = some (a, .inl (cA, n, .inl f))) (ht : tys[t0]? = some (cA, .int)) (hn : n < 2 ^ 31) {i : Nat} {x : Int32} (hin : i < n) (hdg : decode cc pc = .ok (.iastore, 1)) {wsN : va_W} (hN : ws.set q0 (a, .inl (cA, n, .inl (upd f i x))) = wsN)
    (kk : ∀ (H1 : Heap) (locs1 : List Loc), va_P D vwCl wsN H1 → va_D A wsN → va_S A H0 H1 locs1 → W p l e R s m args below meth c H1 locs1 cells slots Q (F0 m (pc + 1) ls rest)) : W p l e R s m args below meth c H locs cells slots Q (F0 m pc ls (.int x :: .int (nI i) :: .ref a :: rest)) := by
  refine va_iast hexec hb hK.1 hP hD hS q0 t0 ha ht (vp_in_nI hin hn) hdg (fun H1 locs1 h1 h2 h3 => ?_)
  rw [nI_clamp (Nat.lt_trans hin hn), hN] at h1 h2
  exact kk H1 locs1 h1 h2 h3
theorem n_as {x x' : Int32} (h : x = x') (k : W p l e R s m args below meth c H locs cells slots Q (F0 m pc ls (.int x' :: rest))) : W p l e R s m args below meth c H locs cells slots Q (F0 m pc ls (.int x :: rest)) := by rw [h]; exact k
end CALLS
/-- an array's cell by its places below its length -/
theorem vc_arr {D : va_G} {cl : List vw_C} {ws wsN : va_W} {H : Heap} {a n : Nat} {cA : ClassId} {f g : Nat → Int32} (k : Nat) (h : ws[k]? = some (a, .inl (cA, n, .inl f))) (hfg : ∀ j, j < n → f j = g j) (hN : ws.set k (a, .inl (cA, n, .inl g)) = wsN) (hP : va_P D cl ws H) : va_P D cl wsN H := by
  subst hN
  intro i q hq
  by_cases e : i = k
  · subst e
    rw [List.getElem?_set_self ((List.getElem?_eq_some_iff.mp h).1)] at hq
    cases hq
    have h1 := hP i _ h
    refine Eq.trans (show H[a]? = some (vp_cell cA (n, .inl f)) from h1) (congrArg some ?_)
    show arrV cA n (fun j => .int (f j)) = arrV cA n (fun j => .int (g j))
    unfold arrV
    have e : (fun j : Fin n => Value.int (f j.val)) = (fun j : Fin n => Value.int (g j.val)) := funext fun j => by rw [hfg j.val j.isLt]
    rw [e]
  · rw [List.getElem?_set_ne (Ne.symm e)] at hq
    exact hP i q hq
theorem vc_arrD {ws wsN : va_W} {A : Nat → Prop} {a n : Nat} {cA : ClassId} {f g : Nat → Int32} (k : Nat) (h : ws[k]? = some (a, .inl (cA, n, .inl f))) (hN : ws.set k (a, .inl (cA, n, .inl g)) = wsN) (hD : va_D A ws) : va_D A wsN := by
  subst hN
  exact hD.set h
end
section
/-! counts and sums: the given laws (fb_ct, fb_sm), pasted; then this claim's own words for a state of the map -/
def fb_ct (p : Nat → Bool) : Nat → Nat
  | 0 => 0
  | n + 1 => fb_ct p n + (if p n then 1 else 0)
theorem fb_ct_succ (p : Nat → Bool) (n : Nat) : fb_ct p (n + 1) = fb_ct p n + (if p n then 1 else 0) := rfl
theorem fb_ct_le (p : Nat → Bool) : ∀ n, fb_ct p n ≤ n
  | 0 => Nat.le_refl _
  | n + 1 => by
    have h := fb_ct_le p n
    rw [fb_ct_succ]
    split <;> omega
theorem fb_ct_step (p : Nat → Bool) (m : Nat) : ∀ n, fb_ct p m ≤ fb_ct p (m + n)
  | 0 => Nat.le_refl _
  | n + 1 => by
    have h := fb_ct_step p m n
    show fb_ct p m ≤ fb_ct p (m + n + 1)
    rw [fb_ct_succ]
    omega
theorem fb_ct_mono (p : Nat → Bool) {m n : Nat} (h : m ≤ n) : fb_ct p m ≤ fb_ct p n := by
  have := fb_ct_step p m (n - m)
  rwa [Nat.add_sub_cancel' h] at this
theorem fb_ct_cong {p q : Nat → Bool} : ∀ {n : Nat}, (∀ k, k < n → p k = q k) → fb_ct p n = fb_ct q n
  | 0, _ => rfl
  | n + 1, h => by
    rw [fb_ct_succ, fb_ct_succ, fb_ct_cong (fun k hk => h k (by omega)), h n (by omega)]
/-- one place changed -/
theorem fb_ct_out (p : Nat → Bool) (b : Bool) {i n : Nat} (h : n ≤ i) : fb_ct (fun k => if k = i then b else p k) n = fb_ct p n :=
  fb_ct_cong fun k hk => if_neg (by omega)
theorem fb_ct_upd (p : Nat → Bool) (b : Bool) {i : Nat} : ∀ {n : Nat}, i < n → fb_ct (fun k => if k = i then b else p k) n + (if p i then 1 else 0) = fb_ct p n + (if b then 1 else 0)
  | 0, h => absurd h (Nat.not_lt_zero i)
  | n + 1, h => by
    rw [fb_ct_succ, fb_ct_succ]
    rcases Nat.lt_or_ge i n with q | q
    · have := fb_ct_upd p b q
      have e : (if n = i then b else p n) = p n := if_neg (by omega)
      rw [e]
      omega
    · have e : i = n := by omega
      subst e
      rw [fb_ct_out p b (Nat.le_refl _)]
      simp only [if_true]
      omega
theorem fb_ct_sub {p q : Nat → Bool} : ∀ {n : Nat}, (∀ k, k < n → p k = true → q k = true) → fb_ct p n ≤ fb_ct q n
  | 0, _ => Nat.le_refl _
  | n + 1, h => by
    have h1 := fb_ct_sub (n := n) (p := p) (q := q) (fun k hk => h k (by omega))
    have h2 := h n (by omega)
    rw [fb_ct_succ, fb_ct_succ]
    cases hp : p n <;> cases hq : q n <;> simp_all <;> omega
theorem fb_ct_or {p q : Nat → Bool} : ∀ {n : Nat}, (∀ k, k < n → ¬ (p k = true ∧ q k = true)) → fb_ct (fun k => p k || q k) n = fb_ct p n + fb_ct q n
  | 0, _ => rfl
  | n + 1, h => by
    have h1 := fb_ct_or (n := n) (p := p) (q := q) (fun k hk => h k (by omega))
    have h2 := h n (by omega)
    rw [fb_ct_succ, fb_ct_succ, fb_ct_succ, h1]
    cases hp : p n <;> cases hq : q n <;> simp_all <;> omega
theorem fb_ct_not (p : Nat → Bool) : ∀ n, fb_ct p n + fb_ct (fun k => !p k) n = n
  | 0 => rfl
  | n + 1 => by
    have h := fb_ct_not p n
    rw [fb_ct_succ, fb_ct_succ]
    cases p n <;> simp <;> omega
theorem fb_ct_split (p : Nat → Bool) (m : Nat) : ∀ n, fb_ct p (m + n) = fb_ct p m + fb_ct (fun k => p (m + k)) n
  | 0 => rfl
  | n + 1 => by
    have h := fb_ct_split p m n
    show fb_ct p (m + n + 1) = _
    rw [fb_ct_succ, fb_ct_succ, h, Nat.add_assoc]
theorem fb_ct_zero {p : Nat → Bool} : ∀ {n : Nat}, fb_ct p n = 0 ↔ ∀ k, k < n → p k = false
  | 0 => ⟨fun _ k hk => absurd hk (Nat.not_lt_zero k), fun _ => rfl⟩
  | n + 1 => by
    have h := fb_ct_zero (p := p) (n := n)
    rw [fb_ct_succ]
    constructor
    · intro e k hk
      have e1 : fb_ct p n = 0 := by omega
      rcases Nat.lt_or_ge k n with q | q
      · exact h.mp e1 k q
      · have ek : k = n := by omega
        subst ek
        cases hp : p k
        · rfl
        · simp [hp] at e
    · intro a
      rw [h.mpr (fun k hk => a k (by omega)), a n (by omega)]
      rfl
theorem fb_ct_pos {p : Nat → Bool} {n : Nat} : 0 < fb_ct p n ↔ ∃ k, k < n ∧ p k = true := by
  constructor
  · intro h
    refine Classical.byContradiction fun hx => ?_
    have := fb_ct_zero.mpr (fun k hk => by
      cases hp : p k
      · rfl
      · exact absurd ⟨k, hk, hp⟩ hx : ∀ k, k < n → p k = false)
    omega
  · rintro ⟨k, hk, hp⟩
    rcases Nat.eq_zero_or_pos (fb_ct p n) with e | e
    · have := fb_ct_zero.mp e k hk
      rw [this] at hp
      cases hp
    · exact e
theorem fb_ct_all {p : Nat → Bool} {n : Nat} : fb_ct p n = n ↔ ∀ k, k < n → p k = true := by
  have h := fb_ct_not p n
  constructor
  · intro e k hk
    have z : fb_ct (fun k => !p k) n = 0 := by omega
    have := fb_ct_zero.mp z k hk
    cases hp : p k
    · simp [hp] at this
    · rfl
  · intro a
    have z : fb_ct (fun k => !p k) n = 0 := fb_ct_zero.mpr (fun k hk => by simp [a k hk])
    omega
/-- the k-th place with the property -/
theorem fb_ct_kth {p : Nat → Bool} {k : Nat} : ∀ {n : Nat}, k < fb_ct p n → ∃ i, i < n ∧ p i = true ∧ fb_ct p i = k
  | 0, h => absurd h (Nat.not_lt_zero k)
  | n + 1, h => by
    rcases Nat.lt_or_ge k (fb_ct p n) with q | q
    · obtain ⟨i, h1, h2⟩ := fb_ct_kth q
      exact ⟨i, by omega, h2⟩
    · rw [fb_ct_succ] at h
      cases hp : p n
      · simp [hp] at h; omega
      · simp [hp] at h
        exact ⟨n, by omega, hp, by omega⟩
theorem fb_ct_kth_one {p : Nat → Bool} {i j : Nat} (hi : p i = true) (hj : p j = true) (e : fb_ct p i = fb_ct p j) : i = j := by
  have key : ∀ a b : Nat, a < b → p a = true → fb_ct p a < fb_ct p b := by
    intro a b hab ha
    have h := fb_ct_mono p (show a + 1 ≤ b from hab)
    rw [fb_ct_succ, ha] at h
    simp at h
    omega
  rcases Nat.lt_trichotomy i j with q | q | q
  · have := key i j q hi; omega
  · exact q
  · have := key j i q hj; omega
/-! ===== sums over a range: one place changed, parts, bounds ===== -/
def fb_sm (f : Nat → Nat) : Nat → Nat
  | 0 => 0
  | n + 1 => fb_sm f n + f n
theorem fb_sm_succ (f : Nat → Nat) (n : Nat) : fb_sm f (n + 1) = fb_sm f n + f n := rfl
theorem fb_sm_cong {f g : Nat → Nat} : ∀ {n : Nat}, (∀ k, k < n → f k = g k) → fb_sm f n = fb_sm g n
  | 0, _ => rfl
  | n + 1, h => by rw [fb_sm_succ, fb_sm_succ, fb_sm_cong (fun k hk => h k (by omega)), h n (by omega)]
theorem fb_sm_out (f : Nat → Nat) (v : Nat) {i n : Nat} (h : n ≤ i) : fb_sm (fun k => if k = i then v else f k) n = fb_sm f n :=
  fb_sm_cong fun k hk => if_neg (by omega)
theorem fb_sm_upd (f : Nat → Nat) (v : Nat) {i : Nat} : ∀ {n : Nat}, i < n → fb_sm (fun k => if k = i then v else f k) n + f i = fb_sm f n + v
  | 0, h => absurd h (Nat.not_lt_zero i)
  | n + 1, h => by
    rw [fb_sm_succ, fb_sm_succ]
    rcases Nat.lt_or_ge i n with q | q
    · have := fb_sm_upd f v q
      have e : (if n = i then v else f n) = f n := if_neg (by omega)
      rw [e]
      omega
    · have e : i = n := by omega
      subst e
      rw [fb_sm_out f v (Nat.le_refl _)]
      simp only [if_true]
      omega
theorem fb_sm_add (f g : Nat → Nat) : ∀ n, fb_sm (fun k => f k + g k) n = fb_sm f n + fb_sm g n
  | 0 => rfl
  | n + 1 => by
    have h := fb_sm_add f g n
    rw [fb_sm_succ, fb_sm_succ, fb_sm_succ, h]
    omega
theorem fb_sm_le {f g : Nat → Nat} : ∀ {n : Nat}, (∀ k, k < n → f k ≤ g k) → fb_sm f n ≤ fb_sm g n
  | 0, _ => Nat.le_refl _
  | n + 1, h => by
    have h1 := fb_sm_le (n := n) (f := f) (g := g) (fun k hk => h k (by omega))
    have h2 := h n (by omega)
    rw [fb_sm_succ, fb_sm_succ]
    omega
theorem fb_sm_const (c : Nat) : ∀ n, fb_sm (fun _ => c) n = n * c
  | 0 => by rw [Nat.zero_mul]; rfl
  | n + 1 => by rw [fb_sm_succ, fb_sm_const c n, Nat.succ_mul]
theorem fb_sm_bound {f : Nat → Nat} {c n : Nat} (h : ∀ k, k < n → f k ≤ c) : fb_sm f n ≤ n * c := by
  rw [← fb_sm_const c n]
  exact fb_sm_le h
theorem fb_sm_mono (f : Nat → Nat) (m : Nat) : ∀ n, fb_sm f m ≤ fb_sm f (m + n)
  | 0 => Nat.le_refl _
  | n + 1 => by
    have h := fb_sm_mono f m n
    show fb_sm f m ≤ fb_sm f (m + n + 1)
    rw [fb_sm_succ]
    omega
theorem fb_sm_part (f : Nat → Nat) {i n : Nat} (h : i < n) : fb_sm f i + f i ≤ fb_sm f n := by
  have := fb_sm_mono f (i + 1) (n - (i + 1))
  rw [fb_sm_succ, show i + 1 + (n - (i + 1)) = n by omega] at this
  exact this
theorem fb_sm_split (f : Nat → Nat) (m : Nat) : ∀ n, fb_sm f (m + n) = fb_sm f m + fb_sm (fun k => f (m + k)) n
  | 0 => rfl
  | n + 1 => by
    have h := fb_sm_split f m n
    show fb_sm f (m + n + 1) = _
    rw [fb_sm_succ, fb_sm_succ, h, Nat.add_assoc]
theorem fb_sm_zero {f : Nat → Nat} {n : Nat} (h : fb_sm f n = 0) : ∀ k, k < n → f k = 0 := fun k hk => by
  have := fb_sm_part f hk
  omega
/-! THE MAP AS NUMBERS: f has 667 places, as the reference holds them: 0.. kinds of the slots, 320.. owners, 640.. summary bits, 650.. blocks (first, size), 666 looks -/
/-- how many slots of word w are k -/
def cw (f : Nat → Int32) (w : Nat) (k : Int32) : Nat := fb_ct (fun i => decide (f (32 * w + i) = k)) 32
/-- the right summary bit -/
def rt (f : Nat → Int32) (w : Nat) : Int32 := bI (decide (cw f w (nI 0) = 0))
/-- slot s becomes v -/
def bc1 (f : Nat → Int32) (s : Nat) (v : Int32) : Nat → Int32 := upd (upd f s v) (640 + s / 32) (rt (upd f s v) (s / 32))
/-- the slots of P become v -/
def chg (f : Nat → Int32) (P : Nat → Bool) (v : Nat → Int32) : Nat → Int32 := fun j => if j < 320 ∧ P j = true then v j else f j
def anyW (P : Nat → Bool) (w : Nat) : Prop := ∃ i, i < 32 ∧ P (32 * w + i) = true
def anyB (P : Nat → Bool) (w : Nat) : Bool := decide (0 < fb_ct (fun i => P (32 * w + i)) 32)
/-- the slots of P become v, and the bits of their words are set right -/
def bec (f : Nat → Int32) (P : Nat → Bool) (v : Nat → Int32) : Nat → Int32 := fun j => if (640 ≤ j ∧ j < 650) ∧ anyB P (j - 640) = true then rt (chg f P v) (j - 640) else chg f P v j
theorem anyB_iff {P : Nat → Bool} {w : Nat} : anyB P w = true ↔ anyW P w := by
  unfold anyB anyW
  rw [decide_eq_true_iff, fb_ct_pos]
theorem anyB_cong {P P' : Nat → Bool} {w : Nat} (h : ∀ i, i < 32 → P (32 * w + i) = P' (32 * w + i)) : anyB P w = anyB P' w := by
  unfold anyB
  rw [fb_ct_cong h]
theorem cw_cong {f g : Nat → Int32} {w : Nat} {k : Int32} (h : ∀ i, i < 32 → f (32 * w + i) = g (32 * w + i)) : cw f w k = cw g w k := fb_ct_cong (fun i hi => by rw [h i hi])
theorem rt_cong {f g : Nat → Int32} {w : Nat} (h : ∀ i, i < 32 → f (32 * w + i) = g (32 * w + i)) : rt f w = rt g w := by
  unfold rt
  rw [cw_cong h]
theorem cw_le (f : Nat → Int32) (w : Nat) (k : Int32) : cw f w k ≤ 32 := fb_ct_le _ _
theorem upd_s (f : Nat → Int32) (k : Nat) (x : Int32) : upd f k x k = x := if_pos rfl
theorem upd_n (f : Nat → Int32) {k j : Nat} (x : Int32) (h : j ≠ k) : upd f k x j = f j := if_neg h
theorem bec_slot {f : Nat → Int32} {P : Nat → Bool} {v : Nat → Int32} {s : Nat} (h : s < 320) : bec f P v s = if P s = true then v s else f s := by
  unfold bec chg
  rw [if_neg (by omega)]
  by_cases e : P s = true
  · rw [if_pos ⟨h, e⟩, if_pos e]
  · rw [if_neg (fun q => e q.2), if_neg e]
theorem bec_slot_n {f : Nat → Int32} {P : Nat → Bool} {v : Nat → Int32} {s : Nat} (h : s < 320) (e : P s = false) : bec f P v s = f s := by rw [bec_slot h, e]; rfl
theorem bec_own {f : Nat → Int32} {P : Nat → Bool} {v : Nat → Int32} {j : Nat} (h : 320 ≤ j) (h2 : j < 640 ∨ 650 ≤ j) : bec f P v j = f j := by
  unfold bec chg
  rw [if_neg (by omega), if_neg (by omega)]
theorem bec_bit {f : Nat → Int32} {P : Nat → Bool} {v : Nat → Int32} {w : Nat} (h : w < 10) : bec f P v (640 + w) = if anyB P w = true then rt (chg f P v) w else f (640 + w) := by
  unfold bec
  rw [show 640 + w - 640 = w by omega]
  by_cases e : anyB P w = true
  · rw [if_pos ⟨by omega, e⟩, if_pos e]
  · rw [if_neg (fun q => e q.2), if_neg e]
    unfold chg
    rw [if_neg (by omega)]
theorem chg_slot {f : Nat → Int32} {P : Nat → Bool} {v : Nat → Int32} {s : Nat} (h : s < 320) : chg f P v s = if P s = true then v s else f s := by
  unfold chg
  by_cases e : P s = true
  · rw [if_pos ⟨h, e⟩, if_pos e]
  · rw [if_neg (fun q => e q.2), if_neg e]
theorem bec_cong {f : Nat → Int32} {P P' : Nat → Bool} {v v' : Nat → Int32} (h : ∀ j, j < 320 → P j = P' j) (hv : ∀ j, j < 320 → P j = true → v j = v' j) : bec f P v = bec f P' v' := by
  have hc : chg f P v = chg f P' v' := funext fun j => by
    unfold chg
    by_cases e : j < 320
    · rw [h j e]
      by_cases e2 : P' j = true
      · rw [if_pos ⟨e, e2⟩, if_pos ⟨e, e2⟩, hv j e (by rw [h j e]; exact e2)]
      · rw [if_neg (fun q => e2 q.2), if_neg (fun q => e2 q.2)]
    · rw [if_neg (fun q => e q.1), if_neg (fun q => e q.1)]
  funext j
  unfold bec
  rw [hc]
  by_cases e : 640 ≤ j ∧ j < 650
  · rw [anyB_cong (P := P) (P' := P') (fun i hi => h _ (by omega))]
  · rw [if_neg (fun q => e q.1), if_neg (fun q => e q.1)]
theorem anyB_none {P : Nat → Bool} {w : Nat} (h : ∀ i, i < 32 → P (32 * w + i) = false) : anyB P w = false := by
  cases e : anyB P w with
  | false => rfl
  | true =>
    obtain ⟨i, h1, h2⟩ := anyB_iff.mp e
    rw [h i h1] at h2
    exact absurd h2 (by decide)
theorem bec_none {f : Nat → Int32} {P : Nat → Bool} {v : Nat → Int32} (h : ∀ j, j < 320 → P j = false) : bec f P v = f := by
  funext j
  unfold bec
  by_cases e : 640 ≤ j ∧ j < 650
  · rw [if_neg (fun q => by rw [anyB_none (fun i hi => h _ (by omega))] at q; exact absurd q.2 (by decide))]
    unfold chg
    rw [if_neg (by omega)]
  · rw [if_neg (fun q => e q.1)]
    unfold chg
    by_cases e2 : j < 320
    · rw [if_neg (fun q => by rw [h j e2] at q; exact absurd q.2 (by decide))]
    · rw [if_neg (fun q => e2 q.1)]
/-- two changes, one behind the other, are one -/
theorem bec_bec {f : Nat → Int32} {P P' : Nat → Bool} {v v' w : Nat → Int32} (hw : ∀ j, j < 320 → P' j = true → w j = v' j) (hw2 : ∀ j, j < 320 → P j = true → P' j = false → w j = v j) : bec (bec f P v) P' v' = bec f (fun j => P j || P' j) w := by
  have hs : ∀ j, j < 320 → chg (bec f P v) P' v' j = chg f (fun j => P j || P' j) w j := fun j hj => by
    rw [chg_slot hj, chg_slot hj, bec_slot hj]
    cases e : P' j with
    | true => simp [hw j hj e]
    | false =>
      cases e2 : P j with
      | true => simp [hw2 j hj e2 e]
      | false => simp
  funext j
  by_cases hj : j < 320
  · rw [bec_slot hj, bec_slot hj, bec_slot hj]
    cases e : P' j with
    | true => simp [hw j hj e]
    | false =>
      cases e2 : P j with
      | true => simp [hw2 j hj e2 e]
      | false => simp
  · by_cases hb : 640 ≤ j ∧ j < 650
    · obtain ⟨k, rfl, hk⟩ : ∃ k, j = 640 + k ∧ k < 10 := ⟨j - 640, by omega, by omega⟩
      rw [bec_bit (P := P') hk, bec_bit (P := fun j => P j || P' j) hk, bec_bit (P := P) hk]
      have r1 : rt (chg (bec f P v) P' v') k = rt (chg f (fun j => P j || P' j) w) k := rt_cong (fun i hi => hs _ (by omega))
      rw [r1]
      cases e : anyB P' k with
      | true =>
        have : anyB (fun j => P j || P' j) k = true := by
          obtain ⟨i, h1, h2⟩ := anyB_iff.mp e
          exact anyB_iff.mpr ⟨i, h1, by simp [h2]⟩
        rw [this]
        simp
      | false =>
        have e3 : ∀ i, i < 32 → P' (32 * k + i) = false := fun i hi => by
          cases q : P' (32 * k + i) with
          | false => rfl
          | true => rw [anyB_iff.mpr ⟨i, hi, q⟩] at e; exact absurd e (by decide)
        rw [anyB_cong (P := fun j => P j || P' j) (P' := P) (w := k) (fun i hi => by simp [e3 i hi])]
        cases e4 : anyB P k with
        | false => simp
        | true =>
          simp only [if_true, Bool.false_eq_true, if_false]
          refine rt_cong (fun i hi => ?_)
          rw [chg_slot (by omega), chg_slot (by omega), e3 i hi]
          cases e5 : P (32 * k + i) with
          | true => simp [hw2 _ (by omega) e5 (e3 i hi)]
          | false => simp
    · rw [bec_own (by omega) (by omega), bec_own (by omega) (by omega), bec_own (by omega) (by omega)]
theorem bc1_bec {f : Nat → Int32} {s : Nat} {x : Int32} (h : s < 320) : bc1 f s x = bec f (fun j => decide (j = s)) (fun _ => x) := by
  have hs : ∀ j, j < 320 → upd f s x j = chg f (fun j => decide (j = s)) (fun _ => x) j := fun j hj => by
    rw [chg_slot hj]
    unfold upd
    by_cases e : j = s <;> simp [e]
  have hr : ∀ k, k < 10 → rt (upd f s x) k = rt (chg f (fun j => decide (j = s)) (fun _ => x)) k := fun k hk => rt_cong (fun i hi => hs _ (by omega))
  funext j
  unfold bc1
  by_cases hj : j = 640 + s / 32
  · rw [hj, upd_s, bec_bit (by omega), anyB_iff.mpr ⟨s % 32, by omega, by rw [show 32 * (s / 32) + s % 32 = s by omega]; simp⟩, hr _ (by omega)]
    simp
  · rw [upd_n _ _ hj]
    by_cases h3 : j < 320
    · rw [hs j h3, bec_slot h3, chg_slot h3]
    · rw [upd_n _ _ (by omega)]
      by_cases hb : 640 ≤ j ∧ j < 650
      · obtain ⟨k, rfl, hk⟩ : ∃ k, j = 640 + k ∧ k < 10 := ⟨j - 640, by omega, by omega⟩
        rw [bec_bit hk, anyB_none (fun i hi => by simp; omega)]
        simp
      · rw [bec_own (by omega) (by omega)]
/-- one slot more -/
theorem bec_add {f : Nat → Int32} {P P' : Nat → Bool} {v : Nat → Int32} {s : Nat} {x : Int32} (h : s < 320) (hx : v s = x) (hP : ∀ j, j < 320 → P' j = (P j || decide (j = s))) : bc1 (bec f P v) s x = bec f P' v := by
  rw [bc1_bec h, bec_bec (w := v) (fun j _ e => by rw [of_decide_eq_true e, hx]) (fun _ _ _ _ => rfl)]
  exact bec_cong (fun j hj => (hP j hj).symm) (fun _ _ _ => rfl)
/-- the first place from a on, among n, that has p -/
def ls1 (p : Nat → Bool) : Nat → Nat → Option Nat
  | 0, _ => none
  | n + 1, a => if p a = true then some a else ls1 p n (a + 1)
def oI : Option Nat → Int32
  | none => -9
  | some k => nI k
def o3 : Option Nat → Int32
  | none => -3
  | some k => nI k
theorem ls1_end (p : Nat → Bool) {e a : Nat} (h : e ≤ a) : ls1 p (e - a) a = none := by rw [show e - a = 0 by omega]; rfl
theorem ls1_yes {p : Nat → Bool} {e a : Nat} (h : a < e) (hp : p a = true) : ls1 p (e - a) a = some a := by
  rw [show e - a = (e - (a + 1)) + 1 by omega]
  exact if_pos hp
theorem ls1_no {p : Nat → Bool} {e a : Nat} (h : a < e) (hp : p a = false) : ls1 p (e - a) a = ls1 p (e - (a + 1)) (a + 1) := by
  rw [show e - a = (e - (a + 1)) + 1 by omega]
  exact if_neg (by rw [hp]; decide)
theorem ls1_cong {p q : Nat → Bool} : ∀ (n a : Nat), (∀ j, a ≤ j → j < a + n → p j = q j) → ls1 p n a = ls1 q n a
  | 0, _, _ => rfl
  | n + 1, a, h => by
    rw [ls1, ls1, h a (Nat.le_refl _) (by omega), ls1_cong n (a + 1) (fun j h1 h2 => h j (by omega) (by omega))]
theorem ls1_some {p : Nat → Bool} : ∀ {n a s : Nat}, ls1 p n a = some s → a ≤ s ∧ s < a + n ∧ p s = true ∧ ∀ j, a ≤ j → j < s → p j = false
  | 0, _, _, h => by cases h
  | n + 1, a, s, h => by
    rw [ls1] at h
    by_cases e : p a = true
    · rw [if_pos e] at h
      cases h
      exact ⟨Nat.le_refl _, by omega, e, fun j h1 h2 => absurd h2 (by omega)⟩
    · rw [if_neg e] at h
      obtain ⟨h1, h2, h3, h4⟩ := ls1_some h
      refine ⟨by omega, by omega, h3, fun j h5 h6 => ?_⟩
      by_cases ej : j = a
      · rw [ej]; cases q : p a with
        | false => rfl
        | true => exact absurd q e
      · exact h4 j (by omega) h6
theorem ls1_none {p : Nat → Bool} : ∀ {n a : Nat}, ls1 p n a = none → ∀ j, a ≤ j → j < a + n → p j = false
  | 0, _, _ => fun j h1 h2 => absurd h2 (by omega)
  | n + 1, a, h => by
    rw [ls1] at h
    by_cases e : p a = true
    · rw [if_pos e] at h; cases h
    · rw [if_neg e] at h
      intro j h1 h2
      by_cases ej : j = a
      · rw [ej]; cases q : p a with
        | false => rfl
        | true => exact absurd q e
      · exact ls1_none h j (by omega) (by omega)
theorem ls1_is {p : Nat → Bool} : ∀ {n a s : Nat}, a ≤ s → s < a + n → p s = true → (∀ j, a ≤ j → j < s → p j = false) → ls1 p n a = some s
  | 0, _, _, h1, h2, _, _ => absurd h2 (by omega)
  | n + 1, a, s, h1, h2, h3, h4 => by
    rw [ls1]
    by_cases ea : a = s
    · rw [ea, if_pos h3]
    · rw [if_neg (by rw [h4 a (Nat.le_refl _) (by omega)]; decide)]
      exact ls1_is (by omega) (by omega) h3 (fun j h5 h6 => h4 j (by omega) h6)
theorem ls1_out {p : Nat → Bool} : ∀ {n a : Nat}, (∀ j, a ≤ j → j < a + n → p j = false) → ls1 p n a = none
  | 0, _, _ => rfl
  | n + 1, a, h => by
    rw [ls1, if_neg (by rw [h a (Nat.le_refl _) (by omega)]; decide)]
    exact ls1_out (fun j h1 h2 => h j (by omega) (by omega))
theorem oI_ne {o : Option Nat} (h : ∀ k, o = some k → k < 1000) : oI o = -9 ↔ o = none := by
  cases o with
  | none => simp [oI]
  | some k =>
    have hk := h k rfl
    constructor
    · intro e
      have := nI_pos (n := k) (by omega)
      rw [show nI k = -9 from e] at this
      exact absurd (by decide) this
    · intro e; cases e
theorem n_inc1 (a : Nat) : nI a + Int32.ofInt 1 = nI (a + 1) := nI_1 a
theorem n_inc4 (a : Nat) : nI a + Int32.ofInt 4 = nI (a + 4) := nI_add a 4
theorem n_inc3 (a : Nat) : nI a + Int32.ofInt 3 = nI (a + 3) := nI_add a 3
/-- whether v is from lo to hi -/
def inB (v lo hi : Int32) : Bool := decide (lo ≤ v) && decide (v ≤ hi)
theorem inB_t {v lo hi : Int32} (h1 : ¬ v < lo) (h2 : ¬ hi < v) : inB v lo hi = true := by
  unfold inB
  rw [Int32.lt_iff_toInt_lt] at h1 h2
  simp only [Bool.and_eq_true, decide_eq_true_eq, Int32.le_iff_toInt_le]
  omega
theorem inB_f1 {v lo hi : Int32} (h : v < lo) : inB v lo hi = false := by
  unfold inB
  rw [Int32.lt_iff_toInt_lt] at h
  rw [Bool.and_eq_false_iff]
  left
  rw [decide_eq_false_iff_not, Int32.le_iff_toInt_le]
  omega
theorem inB_f2 {v lo hi : Int32} (h : hi < v) : inB v lo hi = false := by
  unfold inB
  rw [Int32.lt_iff_toInt_lt] at h
  rw [Bool.and_eq_false_iff]
  right
  rw [decide_eq_false_iff_not, Int32.le_iff_toInt_le]
  omega
theorem inB_nat {v : Int32} {a b : Nat} (hb : b < 2 ^ 31) (hab : a ≤ b) (h : inB v (nI a) (nI b) = true) : ∃ k, a ≤ k ∧ k ≤ b ∧ v = nI k := by
  unfold inB at h
  rw [Bool.and_eq_true, decide_eq_true_eq, decide_eq_true_eq, Int32.le_iff_toInt_le, Int32.le_iff_toInt_le, nI_toInt (by omega), nI_toInt hb] at h
  obtain ⟨j, hj, rfl⟩ := nI_of (x := v) (by rw [Int32.lt_iff_toInt_lt, Int32.toInt_zero]; omega)
  rw [nI_toInt hj] at h
  exact ⟨j, by omega, by omega, rfl⟩
theorem inB_of {k a b : Nat} (hb : b < 2 ^ 31) (h1 : a ≤ k) (h2 : k ≤ b) : inB (nI k) (nI a) (nI b) = true := by
  unfold inB
  rw [Bool.and_eq_true, decide_eq_true_eq, decide_eq_true_eq]
  exact ⟨nI_le h1 (by omega), nI_le h2 hb⟩
/-- a slot is free -/
def fr (f : Nat → Int32) : Nat → Bool := fun s => decide (f s = nI 0)
/-- the first free slot of a word -/
def fi (f : Nat → Int32) (w : Nat) : Option Nat := ls1 (fr f) 32 (32 * w)
end
section
theorem dX4_init_0 : decode cX4_init 0 = .ok (.aload_n 0, 1) := by decide +kernel
theorem dX4_init_1 : decode cX4_init 1 = .ok (.invokespecial 1, 3) := by decide +kernel
theorem dX4_init_4 : decode cX4_init 4 = .ok (.aload_n 0, 1) := by decide +kernel
theorem dX4_init_5 : decode cX4_init 5 = .ok (.sipush 667, 3) := by decide +kernel
theorem dX4_init_8 : decode cX4_init 8 = .ok (.newarray .int, 2) := by decide +kernel
theorem dX4_init_10 : decode cX4_init 10 = .ok (.putfield 7, 3) := by decide +kernel
theorem dX4_init_13 : decode cX4_init 13 = .ok (.aload_n 0, 1) := by decide +kernel
theorem dX4_init_14 : decode cX4_init 14 = .ok (.sipush 3335, 3) := by decide +kernel
theorem dX4_init_17 : decode cX4_init 17 = .ok (.newarray .int, 2) := by decide +kernel
theorem dX4_init_19 : decode cX4_init 19 = .ok (.putfield 13, 3) := by decide +kernel
theorem dX4_init_22 : decode cX4_init 22 = .ok (.aload_n 0, 1) := by decide +kernel
theorem dX4_init_23 : decode cX4_init 23 = .ok (.sipush 667, 3) := by decide +kernel
theorem dX4_init_26 : decode cX4_init 26 = .ok (.newarray .int, 2) := by decide +kernel
theorem dX4_init_28 : decode cX4_init 28 = .ok (.putfield 16, 3) := by decide +kernel
theorem dX4_init_31 : decode cX4_init 31 = .ok (.aload_n 0, 1) := by decide +kernel
theorem dX4_init_32 : decode cX4_init 32 = .ok (.sipush 667, 3) := by decide +kernel
theorem dX4_init_35 : decode cX4_init 35 = .ok (.newarray .int, 2) := by decide +kernel
theorem dX4_init_37 : decode cX4_init 37 = .ok (.putfield 19, 3) := by decide +kernel
theorem dX4_init_40 : decode cX4_init 40 = .ok (.aload_n 0, 1) := by decide +kernel
theorem dX4_init_41 : decode cX4_init 41 = .ok (.bipush 80, 2) := by decide +kernel
theorem dX4_init_43 : decode cX4_init 43 = .ok (.newarray .int, 2) := by decide +kernel
theorem dX4_init_45 : decode cX4_init 45 = .ok (.putfield 22, 3) := by decide +kernel
theorem dX4_init_48 : decode cX4_init 48 = .ok (.return_, 1) := by decide +kernel
theorem dX4_in_0 : decode cX4_in 0 = .ok (.iload_n 0, 1) := by decide +kernel
theorem dX4_in_1 : decode cX4_in 1 = .ok (.iload_n 1, 1) := by decide +kernel
theorem dX4_in_2 : decode cX4_in 2 = .ok (.if_icmp .lt 12, 3) := by decide +kernel
theorem dX4_in_5 : decode cX4_in 5 = .ok (.iload_n 0, 1) := by decide +kernel
theorem dX4_in_6 : decode cX4_in 6 = .ok (.iload_n 2, 1) := by decide +kernel
theorem dX4_in_7 : decode cX4_in 7 = .ok (.if_icmp .gt 7, 3) := by decide +kernel
theorem dX4_in_10 : decode cX4_in 10 = .ok (.iconst 1, 1) := by decide +kernel
theorem dX4_in_11 : decode cX4_in 11 = .ok (.goto 4, 3) := by decide +kernel
theorem dX4_in_14 : decode cX4_in 14 = .ok (.iconst 0, 1) := by decide +kernel
theorem dX4_in_15 : decode cX4_in 15 = .ok (.ireturn, 1) := by decide +kernel
theorem dX4_copies_0 : decode cX4_copies 0 = .ok (.iconst 0, 1) := by decide +kernel
theorem dX4_copies_1 : decode cX4_copies 1 = .ok (.istore 4, 2) := by decide +kernel
theorem dX4_copies_3 : decode cX4_copies 3 = .ok (.iload 4, 2) := by decide +kernel
theorem dX4_copies_5 : decode cX4_copies 5 = .ok (.sipush 667, 3) := by decide +kernel
theorem dX4_copies_8 : decode cX4_copies 8 = .ok (.if_icmp .ge 21, 3) := by decide +kernel
theorem dX4_copies_11 : decode cX4_copies 11 = .ok (.aload_n 2, 1) := by decide +kernel
theorem dX4_copies_12 : decode cX4_copies 12 = .ok (.iload_n 3, 1) := by decide +kernel
theorem dX4_copies_13 : decode cX4_copies 13 = .ok (.iload 4, 2) := by decide +kernel
theorem dX4_copies_15 : decode cX4_copies 15 = .ok (.iadd, 1) := by decide +kernel
theorem dX4_copies_16 : decode cX4_copies 16 = .ok (.aload_n 0, 1) := by decide +kernel
theorem dX4_copies_17 : decode cX4_copies 17 = .ok (.iload_n 1, 1) := by decide +kernel
theorem dX4_copies_18 : decode cX4_copies 18 = .ok (.iload 4, 2) := by decide +kernel
theorem dX4_copies_20 : decode cX4_copies 20 = .ok (.iadd, 1) := by decide +kernel
theorem dX4_copies_21 : decode cX4_copies 21 = .ok (.iaload, 1) := by decide +kernel
theorem dX4_copies_22 : decode cX4_copies 22 = .ok (.iastore, 1) := by decide +kernel
theorem dX4_copies_23 : decode cX4_copies 23 = .ok (.iinc 4 1, 3) := by decide +kernel
theorem dX4_copies_26 : decode cX4_copies 26 = .ok (.goto (-23), 3) := by decide +kernel
theorem dX4_copies_29 : decode cX4_copies 29 = .ok (.return_, 1) := by decide +kernel
set_option maxRecDepth 20000 in
theorem ggX4_notes_X4_copies : GoodIn wsX4_notes wsX4_copies := goodIn_r _ [6] (by decide +kernel) (by decide +kernel)
set_option maxRecDepth 20000 in
theorem gX4_notes_X4_copies : GoodIn wsX4_notes (va_wsS RX4 25 yX4_copies wsX4_copies) := goodIn_app (goodIn_of _ (by decide +kernel)) ggX4_notes_X4_copies
theorem dX4_notes_0 : decode cX4_notes 0 = .ok (.aload_n 0, 1) := by decide +kernel
theorem dX4_notes_1 : decode cX4_notes 1 = .ok (.getfield 7, 3) := by decide +kernel
theorem dX4_notes_4 : decode cX4_notes 4 = .ok (.iconst 0, 1) := by decide +kernel
theorem dX4_notes_5 : decode cX4_notes 5 = .ok (.aload_n 0, 1) := by decide +kernel
theorem dX4_notes_6 : decode cX4_notes 6 = .ok (.getfield 16, 3) := by decide +kernel
theorem dX4_notes_9 : decode cX4_notes 9 = .ok (.iconst 0, 1) := by decide +kernel
theorem dX4_notes_10 : decode cX4_notes 10 = .ok (.invokestatic 25, 3) := by decide +kernel
theorem dX4_notes_13 : decode cX4_notes 13 = .ok (.return_, 1) := by decide +kernel
set_option maxRecDepth 20000 in
theorem ggX4_ends_X4_copies : GoodIn wsX4_ends wsX4_copies := goodIn_r _ [8] (by decide +kernel) (by decide +kernel)
set_option maxRecDepth 20000 in
theorem gX4_ends_X4_copies : GoodIn wsX4_ends (va_wsS RX4 25 yX4_copies wsX4_copies) := goodIn_app (goodIn_of _ (by decide +kernel)) ggX4_ends_X4_copies
theorem dX4_ends_0 : decode cX4_ends 0 = .ok (.iload_n 1, 1) := by decide +kernel
theorem dX4_ends_1 : decode cX4_ends 1 = .ok (.ifCond .ge 18, 3) := by decide +kernel
theorem dX4_ends_4 : decode cX4_ends 4 = .ok (.aload_n 0, 1) := by decide +kernel
theorem dX4_ends_5 : decode cX4_ends 5 = .ok (.getfield 16, 3) := by decide +kernel
theorem dX4_ends_8 : decode cX4_ends 8 = .ok (.iconst 0, 1) := by decide +kernel
theorem dX4_ends_9 : decode cX4_ends 9 = .ok (.aload_n 0, 1) := by decide +kernel
theorem dX4_ends_10 : decode cX4_ends 10 = .ok (.getfield 7, 3) := by decide +kernel
theorem dX4_ends_13 : decode cX4_ends 13 = .ok (.iconst 0, 1) := by decide +kernel
theorem dX4_ends_14 : decode cX4_ends 14 = .ok (.invokestatic 25, 3) := by decide +kernel
theorem dX4_ends_17 : decode cX4_ends 17 = .ok (.iload_n 1, 1) := by decide +kernel
theorem dX4_ends_18 : decode cX4_ends 18 = .ok (.ireturn, 1) := by decide +kernel
theorem dX4_ends_19 : decode cX4_ends 19 = .ok (.aload_n 0, 1) := by decide +kernel
theorem dX4_ends_20 : decode cX4_ends 20 = .ok (.getfield 29, 3) := by decide +kernel
theorem dX4_ends_23 : decode cX4_ends 23 = .ok (.iconst 5, 1) := by decide +kernel
theorem dX4_ends_24 : decode cX4_ends 24 = .ok (.if_icmp .ne 39, 3) := by decide +kernel
theorem dX4_ends_27 : decode cX4_ends 27 = .ok (.iconst 0, 1) := by decide +kernel
theorem dX4_ends_28 : decode cX4_ends 28 = .ok (.istore_n 2, 1) := by decide +kernel
theorem dX4_ends_29 : decode cX4_ends 29 = .ok (.iload_n 2, 1) := by decide +kernel
theorem dX4_ends_30 : decode cX4_ends 30 = .ok (.sipush 2668, 3) := by decide +kernel
theorem dX4_ends_33 : decode cX4_ends 33 = .ok (.if_icmp .ge 25, 3) := by decide +kernel
theorem dX4_ends_36 : decode cX4_ends 36 = .ok (.aload_n 0, 1) := by decide +kernel
theorem dX4_ends_37 : decode cX4_ends 37 = .ok (.getfield 13, 3) := by decide +kernel
theorem dX4_ends_40 : decode cX4_ends 40 = .ok (.iload_n 2, 1) := by decide +kernel
theorem dX4_ends_41 : decode cX4_ends 41 = .ok (.aload_n 0, 1) := by decide +kernel
theorem dX4_ends_42 : decode cX4_ends 42 = .ok (.getfield 13, 3) := by decide +kernel
theorem dX4_ends_45 : decode cX4_ends 45 = .ok (.iload_n 2, 1) := by decide +kernel
theorem dX4_ends_46 : decode cX4_ends 46 = .ok (.sipush 667, 3) := by decide +kernel
theorem dX4_ends_49 : decode cX4_ends 49 = .ok (.iadd, 1) := by decide +kernel
theorem dX4_ends_50 : decode cX4_ends 50 = .ok (.iaload, 1) := by decide +kernel
theorem dX4_ends_51 : decode cX4_ends 51 = .ok (.iastore, 1) := by decide +kernel
theorem dX4_ends_52 : decode cX4_ends 52 = .ok (.iinc 2 1, 3) := by decide +kernel
theorem dX4_ends_55 : decode cX4_ends 55 = .ok (.goto (-26), 3) := by decide +kernel
theorem dX4_ends_58 : decode cX4_ends 58 = .ok (.aload_n 0, 1) := by decide +kernel
theorem dX4_ends_59 : decode cX4_ends 59 = .ok (.iconst 4, 1) := by decide +kernel
theorem dX4_ends_60 : decode cX4_ends 60 = .ok (.putfield 29, 3) := by decide +kernel
theorem dX4_ends_63 : decode cX4_ends 63 = .ok (.aload_n 0, 1) := by decide +kernel
theorem dX4_ends_64 : decode cX4_ends 64 = .ok (.getfield 16, 3) := by decide +kernel
theorem dX4_ends_67 : decode cX4_ends 67 = .ok (.iconst 0, 1) := by decide +kernel
theorem dX4_ends_68 : decode cX4_ends 68 = .ok (.aload_n 0, 1) := by decide +kernel
theorem dX4_ends_69 : decode cX4_ends 69 = .ok (.getfield 13, 3) := by decide +kernel
theorem dX4_ends_72 : decode cX4_ends 72 = .ok (.aload_n 0, 1) := by decide +kernel
theorem dX4_ends_73 : decode cX4_ends 73 = .ok (.getfield 29, 3) := by decide +kernel
theorem dX4_ends_76 : decode cX4_ends 76 = .ok (.sipush 667, 3) := by decide +kernel
theorem dX4_ends_79 : decode cX4_ends 79 = .ok (.imul, 1) := by decide +kernel
theorem dX4_ends_80 : decode cX4_ends 80 = .ok (.invokestatic 25, 3) := by decide +kernel
theorem dX4_ends_83 : decode cX4_ends 83 = .ok (.aload_n 0, 1) := by decide +kernel
theorem dX4_ends_84 : decode cX4_ends 84 = .ok (.dup, 1) := by decide +kernel
theorem dX4_ends_85 : decode cX4_ends 85 = .ok (.getfield 29, 3) := by decide +kernel
theorem dX4_ends_88 : decode cX4_ends 88 = .ok (.iconst 1, 1) := by decide +kernel
theorem dX4_ends_89 : decode cX4_ends 89 = .ok (.iadd, 1) := by decide +kernel
theorem dX4_ends_90 : decode cX4_ends 90 = .ok (.putfield 29, 3) := by decide +kernel
theorem dX4_ends_93 : decode cX4_ends 93 = .ok (.iload_n 1, 1) := by decide +kernel
theorem dX4_ends_94 : decode cX4_ends 94 = .ok (.ireturn, 1) := by decide +kernel
theorem dX4_inWord_0 : decode cX4_inWord 0 = .ok (.iconst 0, 1) := by decide +kernel
theorem dX4_inWord_1 : decode cX4_inWord 1 = .ok (.istore_n 3, 1) := by decide +kernel
theorem dX4_inWord_2 : decode cX4_inWord 2 = .ok (.bipush 32, 2) := by decide +kernel
theorem dX4_inWord_4 : decode cX4_inWord 4 = .ok (.iload_n 1, 1) := by decide +kernel
theorem dX4_inWord_5 : decode cX4_inWord 5 = .ok (.imul, 1) := by decide +kernel
theorem dX4_inWord_6 : decode cX4_inWord 6 = .ok (.istore 4, 2) := by decide +kernel
theorem dX4_inWord_8 : decode cX4_inWord 8 = .ok (.iload 4, 2) := by decide +kernel
theorem dX4_inWord_10 : decode cX4_inWord 10 = .ok (.bipush 32, 2) := by decide +kernel
theorem dX4_inWord_12 : decode cX4_inWord 12 = .ok (.iload_n 1, 1) := by decide +kernel
theorem dX4_inWord_13 : decode cX4_inWord 13 = .ok (.imul, 1) := by decide +kernel
theorem dX4_inWord_14 : decode cX4_inWord 14 = .ok (.bipush 32, 2) := by decide +kernel
theorem dX4_inWord_16 : decode cX4_inWord 16 = .ok (.iadd, 1) := by decide +kernel
theorem dX4_inWord_17 : decode cX4_inWord 17 = .ok (.if_icmp .ge 28, 3) := by decide +kernel
theorem dX4_inWord_20 : decode cX4_inWord 20 = .ok (.iload_n 3, 1) := by decide +kernel
theorem dX4_inWord_21 : decode cX4_inWord 21 = .ok (.aload_n 0, 1) := by decide +kernel
theorem dX4_inWord_22 : decode cX4_inWord 22 = .ok (.getfield 7, 3) := by decide +kernel
theorem dX4_inWord_25 : decode cX4_inWord 25 = .ok (.iload 4, 2) := by decide +kernel
theorem dX4_inWord_27 : decode cX4_inWord 27 = .ok (.iaload, 1) := by decide +kernel
theorem dX4_inWord_28 : decode cX4_inWord 28 = .ok (.iload_n 2, 1) := by decide +kernel
theorem dX4_inWord_29 : decode cX4_inWord 29 = .ok (.if_icmp .ne 7, 3) := by decide +kernel
theorem dX4_inWord_32 : decode cX4_inWord 32 = .ok (.iconst 1, 1) := by decide +kernel
theorem dX4_inWord_33 : decode cX4_inWord 33 = .ok (.goto 4, 3) := by decide +kernel
theorem dX4_inWord_36 : decode cX4_inWord 36 = .ok (.iconst 0, 1) := by decide +kernel
theorem dX4_inWord_37 : decode cX4_inWord 37 = .ok (.iadd, 1) := by decide +kernel
theorem dX4_inWord_38 : decode cX4_inWord 38 = .ok (.istore_n 3, 1) := by decide +kernel
theorem dX4_inWord_39 : decode cX4_inWord 39 = .ok (.iinc 4 1, 3) := by decide +kernel
theorem dX4_inWord_42 : decode cX4_inWord 42 = .ok (.goto (-34), 3) := by decide +kernel
theorem dX4_inWord_45 : decode cX4_inWord 45 = .ok (.iload_n 3, 1) := by decide +kernel
theorem dX4_inWord_46 : decode cX4_inWord 46 = .ok (.ireturn, 1) := by decide +kernel
set_option maxRecDepth 20000 in
theorem ggX4_inAll_X4_inWord : GoodIn wsX4_inAll wsX4_inWord := goodIn_r _ [5, 6, 7, 8, 9, 10, 11, 12, 13, 14] (by decide +kernel) (by decide +kernel)
set_option maxRecDepth 20000 in
theorem gX4_inAll_X4_inWord : GoodIn wsX4_inAll (wsV RX4 33 RX4 yX4_inWord wsX4_inWord) := goodIn_app (goodIn_of _ (by decide +kernel)) ggX4_inAll_X4_inWord
theorem dX4_inAll_0 : decode cX4_inAll 0 = .ok (.iconst 0, 1) := by decide +kernel
theorem dX4_inAll_1 : decode cX4_inAll 1 = .ok (.istore_n 2, 1) := by decide +kernel
theorem dX4_inAll_2 : decode cX4_inAll 2 = .ok (.iconst 0, 1) := by decide +kernel
theorem dX4_inAll_3 : decode cX4_inAll 3 = .ok (.istore_n 3, 1) := by decide +kernel
theorem dX4_inAll_4 : decode cX4_inAll 4 = .ok (.iload_n 3, 1) := by decide +kernel
theorem dX4_inAll_5 : decode cX4_inAll 5 = .ok (.bipush 10, 2) := by decide +kernel
theorem dX4_inAll_7 : decode cX4_inAll 7 = .ok (.if_icmp .ge 18, 3) := by decide +kernel
theorem dX4_inAll_10 : decode cX4_inAll 10 = .ok (.iload_n 2, 1) := by decide +kernel
theorem dX4_inAll_11 : decode cX4_inAll 11 = .ok (.aload_n 0, 1) := by decide +kernel
theorem dX4_inAll_12 : decode cX4_inAll 12 = .ok (.iload_n 3, 1) := by decide +kernel
theorem dX4_inAll_13 : decode cX4_inAll 13 = .ok (.iload_n 1, 1) := by decide +kernel
theorem dX4_inAll_14 : decode cX4_inAll 14 = .ok (.invokevirtual 33, 3) := by decide +kernel
theorem dX4_inAll_17 : decode cX4_inAll 17 = .ok (.iadd, 1) := by decide +kernel
theorem dX4_inAll_18 : decode cX4_inAll 18 = .ok (.istore_n 2, 1) := by decide +kernel
theorem dX4_inAll_19 : decode cX4_inAll 19 = .ok (.iinc 3 1, 3) := by decide +kernel
theorem dX4_inAll_22 : decode cX4_inAll 22 = .ok (.goto (-18), 3) := by decide +kernel
theorem dX4_inAll_25 : decode cX4_inAll 25 = .ok (.iload_n 2, 1) := by decide +kernel
theorem dX4_inAll_26 : decode cX4_inAll 26 = .ok (.ireturn, 1) := by decide +kernel
set_option maxRecDepth 20000 in
theorem ggX4_right_X4_inWord : GoodIn wsX4_right wsX4_inWord := goodIn_r _ [5, 6, 7, 8, 9, 10, 11, 12, 13, 14] (by decide +kernel) (by decide +kernel)
set_option maxRecDepth 20000 in
theorem gX4_right_X4_inWord : GoodIn wsX4_right (wsV RX4 33 RX4 yX4_inWord wsX4_inWord) := goodIn_app (goodIn_of _ (by decide +kernel)) ggX4_right_X4_inWord
theorem dX4_right_0 : decode cX4_right 0 = .ok (.aload_n 0, 1) := by decide +kernel
theorem dX4_right_1 : decode cX4_right 1 = .ok (.iload_n 1, 1) := by decide +kernel
theorem dX4_right_2 : decode cX4_right 2 = .ok (.iconst 0, 1) := by decide +kernel
theorem dX4_right_3 : decode cX4_right 3 = .ok (.invokevirtual 33, 3) := by decide +kernel
theorem dX4_right_6 : decode cX4_right 6 = .ok (.ifCond .ne 7, 3) := by decide +kernel
theorem dX4_right_9 : decode cX4_right 9 = .ok (.iconst 1, 1) := by decide +kernel
theorem dX4_right_10 : decode cX4_right 10 = .ok (.goto 4, 3) := by decide +kernel
theorem dX4_right_13 : decode cX4_right 13 = .ok (.iconst 0, 1) := by decide +kernel
theorem dX4_right_14 : decode cX4_right 14 = .ok (.ireturn, 1) := by decide +kernel
set_option maxRecDepth 20000 in
theorem ggX4_becomes_X4_right : GoodIn wsX4_becomes wsX4_right := goodIn_r _ [6, 7, 8, 9, 5, 10, 1, 11, 12, 13, 14, 15, 16, 17, 18] (by decide +kernel) (by decide +kernel)
set_option maxRecDepth 20000 in
theorem gX4_becomes_X4_right : GoodIn wsX4_becomes (wsV RX4 37 RX4 yX4_right wsX4_right) := goodIn_app (goodIn_of _ (by decide +kernel)) ggX4_becomes_X4_right
theorem dX4_becomes_0 : decode cX4_becomes 0 = .ok (.aload_n 0, 1) := by decide +kernel
theorem dX4_becomes_1 : decode cX4_becomes 1 = .ok (.getfield 7, 3) := by decide +kernel
theorem dX4_becomes_4 : decode cX4_becomes 4 = .ok (.iload_n 1, 1) := by decide +kernel
theorem dX4_becomes_5 : decode cX4_becomes 5 = .ok (.iload_n 2, 1) := by decide +kernel
theorem dX4_becomes_6 : decode cX4_becomes 6 = .ok (.iastore, 1) := by decide +kernel
theorem dX4_becomes_7 : decode cX4_becomes 7 = .ok (.aload_n 0, 1) := by decide +kernel
theorem dX4_becomes_8 : decode cX4_becomes 8 = .ok (.getfield 7, 3) := by decide +kernel
theorem dX4_becomes_11 : decode cX4_becomes 11 = .ok (.sipush 640, 3) := by decide +kernel
theorem dX4_becomes_14 : decode cX4_becomes 14 = .ok (.iload_n 1, 1) := by decide +kernel
theorem dX4_becomes_15 : decode cX4_becomes 15 = .ok (.bipush 32, 2) := by decide +kernel
theorem dX4_becomes_17 : decode cX4_becomes 17 = .ok (.idiv, 1) := by decide +kernel
theorem dX4_becomes_18 : decode cX4_becomes 18 = .ok (.iadd, 1) := by decide +kernel
theorem dX4_becomes_19 : decode cX4_becomes 19 = .ok (.aload_n 0, 1) := by decide +kernel
theorem dX4_becomes_20 : decode cX4_becomes 20 = .ok (.iload_n 1, 1) := by decide +kernel
theorem dX4_becomes_21 : decode cX4_becomes 21 = .ok (.bipush 32, 2) := by decide +kernel
theorem dX4_becomes_23 : decode cX4_becomes 23 = .ok (.idiv, 1) := by decide +kernel
theorem dX4_becomes_24 : decode cX4_becomes 24 = .ok (.invokevirtual 37, 3) := by decide +kernel
theorem dX4_becomes_27 : decode cX4_becomes 27 = .ok (.iastore, 1) := by decide +kernel
theorem dX4_becomes_28 : decode cX4_becomes 28 = .ok (.return_, 1) := by decide +kernel
theorem dX4_firstIn_0 : decode cX4_firstIn 0 = .ok (.bipush 32, 2) := by decide +kernel
theorem dX4_firstIn_2 : decode cX4_firstIn 2 = .ok (.iload_n 1, 1) := by decide +kernel
theorem dX4_firstIn_3 : decode cX4_firstIn 3 = .ok (.imul, 1) := by decide +kernel
theorem dX4_firstIn_4 : decode cX4_firstIn 4 = .ok (.istore_n 2, 1) := by decide +kernel
theorem dX4_firstIn_5 : decode cX4_firstIn 5 = .ok (.iload_n 2, 1) := by decide +kernel
theorem dX4_firstIn_6 : decode cX4_firstIn 6 = .ok (.bipush 32, 2) := by decide +kernel
theorem dX4_firstIn_8 : decode cX4_firstIn 8 = .ok (.iload_n 1, 1) := by decide +kernel
theorem dX4_firstIn_9 : decode cX4_firstIn 9 = .ok (.imul, 1) := by decide +kernel
theorem dX4_firstIn_10 : decode cX4_firstIn 10 = .ok (.bipush 32, 2) := by decide +kernel
theorem dX4_firstIn_12 : decode cX4_firstIn 12 = .ok (.iadd, 1) := by decide +kernel
theorem dX4_firstIn_13 : decode cX4_firstIn 13 = .ok (.if_icmp .ge 20, 3) := by decide +kernel
theorem dX4_firstIn_16 : decode cX4_firstIn 16 = .ok (.aload_n 0, 1) := by decide +kernel
theorem dX4_firstIn_17 : decode cX4_firstIn 17 = .ok (.getfield 7, 3) := by decide +kernel
theorem dX4_firstIn_20 : decode cX4_firstIn 20 = .ok (.iload_n 2, 1) := by decide +kernel
theorem dX4_firstIn_21 : decode cX4_firstIn 21 = .ok (.iaload, 1) := by decide +kernel
theorem dX4_firstIn_22 : decode cX4_firstIn 22 = .ok (.ifCond .ne 5, 3) := by decide +kernel
theorem dX4_firstIn_25 : decode cX4_firstIn 25 = .ok (.iload_n 2, 1) := by decide +kernel
theorem dX4_firstIn_26 : decode cX4_firstIn 26 = .ok (.ireturn, 1) := by decide +kernel
theorem dX4_firstIn_27 : decode cX4_firstIn 27 = .ok (.iinc 2 1, 3) := by decide +kernel
theorem dX4_firstIn_30 : decode cX4_firstIn 30 = .ok (.goto (-25), 3) := by decide +kernel
theorem dX4_firstIn_33 : decode cX4_firstIn 33 = .ok (.bipush (-9), 2) := by decide +kernel
theorem dX4_firstIn_35 : decode cX4_firstIn 35 = .ok (.ireturn, 1) := by decide +kernel
set_option maxRecDepth 20000 in
theorem ggX4_goesThrough_X4_firstIn : GoodIn wsX4_goesThrough wsX4_firstIn := goodIn_r _ [6, 1, 19, 20, 21, 22, 23, 24, 25, 26] (by decide +kernel) (by decide +kernel)
set_option maxRecDepth 20000 in
theorem gX4_goesThrough_X4_firstIn : GoodIn wsX4_goesThrough (wsV RX4 41 RX4 yX4_firstIn wsX4_firstIn) := goodIn_app (goodIn_of _ (by decide +kernel)) ggX4_goesThrough_X4_firstIn
set_option maxRecDepth 20000 in
theorem ggX4_goesThrough_X4_becomes : GoodIn wsX4_goesThrough wsX4_becomes := goodIn_r _ [10, 1, 11, 12, 13, 5, 14, 15, 16, 17, 18, 19, 20, 21, 22, 23, 24, 25, 26] (by decide +kernel) (by decide +kernel)
set_option maxRecDepth 20000 in
theorem gX4_goesThrough_X4_becomes : GoodIn wsX4_goesThrough (wsV RX4 44 RX4 yX4_becomes wsX4_becomes) := goodIn_app (goodIn_of _ (by decide +kernel)) ggX4_goesThrough_X4_becomes
theorem dX4_goesThrough_0 : decode cX4_goesThrough 0 = .ok (.iconst 0, 1) := by decide +kernel
theorem dX4_goesThrough_1 : decode cX4_goesThrough 1 = .ok (.istore_n 1, 1) := by decide +kernel
theorem dX4_goesThrough_2 : decode cX4_goesThrough 2 = .ok (.iload_n 1, 1) := by decide +kernel
theorem dX4_goesThrough_3 : decode cX4_goesThrough 3 = .ok (.bipush 10, 2) := by decide +kernel
theorem dX4_goesThrough_5 : decode cX4_goesThrough 5 = .ok (.if_icmp .ge 65, 3) := by decide +kernel
theorem dX4_goesThrough_8 : decode cX4_goesThrough 8 = .ok (.aload_n 0, 1) := by decide +kernel
theorem dX4_goesThrough_9 : decode cX4_goesThrough 9 = .ok (.getfield 7, 3) := by decide +kernel
theorem dX4_goesThrough_12 : decode cX4_goesThrough 12 = .ok (.sipush 640, 3) := by decide +kernel
theorem dX4_goesThrough_15 : decode cX4_goesThrough 15 = .ok (.iload_n 1, 1) := by decide +kernel
theorem dX4_goesThrough_16 : decode cX4_goesThrough 16 = .ok (.iadd, 1) := by decide +kernel
theorem dX4_goesThrough_17 : decode cX4_goesThrough 17 = .ok (.iaload, 1) := by decide +kernel
theorem dX4_goesThrough_18 : decode cX4_goesThrough 18 = .ok (.ifCond .ne 46, 3) := by decide +kernel
theorem dX4_goesThrough_21 : decode cX4_goesThrough 21 = .ok (.aload_n 0, 1) := by decide +kernel
theorem dX4_goesThrough_22 : decode cX4_goesThrough 22 = .ok (.getfield 7, 3) := by decide +kernel
theorem dX4_goesThrough_25 : decode cX4_goesThrough 25 = .ok (.sipush 666, 3) := by decide +kernel
theorem dX4_goesThrough_28 : decode cX4_goesThrough 28 = .ok (.dup2, 1) := by decide +kernel
theorem dX4_goesThrough_29 : decode cX4_goesThrough 29 = .ok (.iaload, 1) := by decide +kernel
theorem dX4_goesThrough_30 : decode cX4_goesThrough 30 = .ok (.iconst 1, 1) := by decide +kernel
theorem dX4_goesThrough_31 : decode cX4_goesThrough 31 = .ok (.iadd, 1) := by decide +kernel
theorem dX4_goesThrough_32 : decode cX4_goesThrough 32 = .ok (.iastore, 1) := by decide +kernel
theorem dX4_goesThrough_33 : decode cX4_goesThrough 33 = .ok (.aload_n 0, 1) := by decide +kernel
theorem dX4_goesThrough_34 : decode cX4_goesThrough 34 = .ok (.iload_n 1, 1) := by decide +kernel
theorem dX4_goesThrough_35 : decode cX4_goesThrough 35 = .ok (.invokevirtual 41, 3) := by decide +kernel
theorem dX4_goesThrough_38 : decode cX4_goesThrough 38 = .ok (.istore_n 2, 1) := by decide +kernel
theorem dX4_goesThrough_39 : decode cX4_goesThrough 39 = .ok (.iload_n 2, 1) := by decide +kernel
theorem dX4_goesThrough_40 : decode cX4_goesThrough 40 = .ok (.bipush (-9), 2) := by decide +kernel
theorem dX4_goesThrough_42 : decode cX4_goesThrough 42 = .ok (.if_icmp .eq 11, 3) := by decide +kernel
theorem dX4_goesThrough_45 : decode cX4_goesThrough 45 = .ok (.aload_n 0, 1) := by decide +kernel
theorem dX4_goesThrough_46 : decode cX4_goesThrough 46 = .ok (.iload_n 2, 1) := by decide +kernel
theorem dX4_goesThrough_47 : decode cX4_goesThrough 47 = .ok (.iconst 1, 1) := by decide +kernel
theorem dX4_goesThrough_48 : decode cX4_goesThrough 48 = .ok (.invokevirtual 44, 3) := by decide +kernel
theorem dX4_goesThrough_51 : decode cX4_goesThrough 51 = .ok (.iload_n 2, 1) := by decide +kernel
theorem dX4_goesThrough_52 : decode cX4_goesThrough 52 = .ok (.ireturn, 1) := by decide +kernel
theorem dX4_goesThrough_53 : decode cX4_goesThrough 53 = .ok (.aload_n 0, 1) := by decide +kernel
theorem dX4_goesThrough_54 : decode cX4_goesThrough 54 = .ok (.getfield 7, 3) := by decide +kernel
theorem dX4_goesThrough_57 : decode cX4_goesThrough 57 = .ok (.sipush 640, 3) := by decide +kernel
theorem dX4_goesThrough_60 : decode cX4_goesThrough 60 = .ok (.iload_n 1, 1) := by decide +kernel
theorem dX4_goesThrough_61 : decode cX4_goesThrough 61 = .ok (.iadd, 1) := by decide +kernel
theorem dX4_goesThrough_62 : decode cX4_goesThrough 62 = .ok (.iconst 1, 1) := by decide +kernel
theorem dX4_goesThrough_63 : decode cX4_goesThrough 63 = .ok (.iastore, 1) := by decide +kernel
theorem dX4_goesThrough_64 : decode cX4_goesThrough 64 = .ok (.iinc 1 1, 3) := by decide +kernel
theorem dX4_goesThrough_67 : decode cX4_goesThrough 67 = .ok (.goto (-65), 3) := by decide +kernel
theorem dX4_goesThrough_70 : decode cX4_goesThrough 70 = .ok (.bipush (-9), 2) := by decide +kernel
theorem dX4_goesThrough_72 : decode cX4_goesThrough 72 = .ok (.ireturn, 1) := by decide +kernel
set_option maxRecDepth 20000 in
theorem ggX4_clears_X4_inWord : GoodIn wsX4_clears wsX4_inWord := goodIn_r _ [6, 1, 15, 16, 17, 18, 19, 20, 21, 22] (by decide +kernel) (by decide +kernel)
set_option maxRecDepth 20000 in
theorem gX4_clears_X4_inWord : GoodIn wsX4_clears (wsV RX4 33 RX4 yX4_inWord wsX4_inWord) := goodIn_app (goodIn_of _ (by decide +kernel)) ggX4_clears_X4_inWord
set_option maxRecDepth 20000 in
theorem ggX4_clears_X4_becomes : GoodIn wsX4_clears wsX4_becomes := goodIn_r _ [10, 1, 11, 12, 13, 5, 14, 2, 3, 4, 6, 15, 16, 17, 18, 19, 20, 21, 22] (by decide +kernel) (by decide +kernel)
set_option maxRecDepth 20000 in
theorem gX4_clears_X4_becomes : GoodIn wsX4_clears (wsV RX4 44 RX4 yX4_becomes wsX4_becomes) := goodIn_app (goodIn_of _ (by decide +kernel)) ggX4_clears_X4_becomes
theorem dX4_clears_0 : decode cX4_clears 0 = .ok (.iconst 0, 1) := by decide +kernel
theorem dX4_clears_1 : decode cX4_clears 1 = .ok (.istore_n 2, 1) := by decide +kernel
theorem dX4_clears_2 : decode cX4_clears 2 = .ok (.iload_n 1, 1) := by decide +kernel
theorem dX4_clears_3 : decode cX4_clears 3 = .ok (.istore_n 3, 1) := by decide +kernel
theorem dX4_clears_4 : decode cX4_clears 4 = .ok (.iconst 0, 1) := by decide +kernel
theorem dX4_clears_5 : decode cX4_clears 5 = .ok (.istore 4, 2) := by decide +kernel
theorem dX4_clears_7 : decode cX4_clears 7 = .ok (.iload 4, 2) := by decide +kernel
theorem dX4_clears_9 : decode cX4_clears 9 = .ok (.bipush 10, 2) := by decide +kernel
theorem dX4_clears_11 : decode cX4_clears 11 = .ok (.if_icmp .ge 78, 3) := by decide +kernel
theorem dX4_clears_14 : decode cX4_clears 14 = .ok (.iload_n 3, 1) := by decide +kernel
theorem dX4_clears_15 : decode cX4_clears 15 = .ok (.ifCond .le 74, 3) := by decide +kernel
theorem dX4_clears_18 : decode cX4_clears 18 = .ok (.iload_n 3, 1) := by decide +kernel
theorem dX4_clears_19 : decode cX4_clears 19 = .ok (.aload_n 0, 1) := by decide +kernel
theorem dX4_clears_20 : decode cX4_clears 20 = .ok (.iload 4, 2) := by decide +kernel
theorem dX4_clears_22 : decode cX4_clears 22 = .ok (.iconst 2, 1) := by decide +kernel
theorem dX4_clears_23 : decode cX4_clears 23 = .ok (.invokevirtual 33, 3) := by decide +kernel
theorem dX4_clears_26 : decode cX4_clears 26 = .ok (.ifCond .le 7, 3) := by decide +kernel
theorem dX4_clears_29 : decode cX4_clears 29 = .ok (.iconst 1, 1) := by decide +kernel
theorem dX4_clears_30 : decode cX4_clears 30 = .ok (.goto 4, 3) := by decide +kernel
theorem dX4_clears_33 : decode cX4_clears 33 = .ok (.iconst 0, 1) := by decide +kernel
theorem dX4_clears_34 : decode cX4_clears 34 = .ok (.isub, 1) := by decide +kernel
theorem dX4_clears_35 : decode cX4_clears 35 = .ok (.istore_n 3, 1) := by decide +kernel
theorem dX4_clears_36 : decode cX4_clears 36 = .ok (.bipush 32, 2) := by decide +kernel
theorem dX4_clears_38 : decode cX4_clears 38 = .ok (.iload 4, 2) := by decide +kernel
theorem dX4_clears_40 : decode cX4_clears 40 = .ok (.imul, 1) := by decide +kernel
theorem dX4_clears_41 : decode cX4_clears 41 = .ok (.istore 5, 2) := by decide +kernel
theorem dX4_clears_43 : decode cX4_clears 43 = .ok (.iload 5, 2) := by decide +kernel
theorem dX4_clears_45 : decode cX4_clears 45 = .ok (.bipush 32, 2) := by decide +kernel
theorem dX4_clears_47 : decode cX4_clears 47 = .ok (.iload 4, 2) := by decide +kernel
theorem dX4_clears_49 : decode cX4_clears 49 = .ok (.imul, 1) := by decide +kernel
theorem dX4_clears_50 : decode cX4_clears 50 = .ok (.bipush 32, 2) := by decide +kernel
theorem dX4_clears_52 : decode cX4_clears 52 = .ok (.iadd, 1) := by decide +kernel
theorem dX4_clears_53 : decode cX4_clears 53 = .ok (.if_icmp .ge 30, 3) := by decide +kernel
theorem dX4_clears_56 : decode cX4_clears 56 = .ok (.aload_n 0, 1) := by decide +kernel
theorem dX4_clears_57 : decode cX4_clears 57 = .ok (.getfield 7, 3) := by decide +kernel
theorem dX4_clears_60 : decode cX4_clears 60 = .ok (.iload 5, 2) := by decide +kernel
theorem dX4_clears_62 : decode cX4_clears 62 = .ok (.iaload, 1) := by decide +kernel
theorem dX4_clears_63 : decode cX4_clears 63 = .ok (.iconst 2, 1) := by decide +kernel
theorem dX4_clears_64 : decode cX4_clears 64 = .ok (.if_icmp .ne 13, 3) := by decide +kernel
theorem dX4_clears_67 : decode cX4_clears 67 = .ok (.aload_n 0, 1) := by decide +kernel
theorem dX4_clears_68 : decode cX4_clears 68 = .ok (.iload 5, 2) := by decide +kernel
theorem dX4_clears_70 : decode cX4_clears 70 = .ok (.iconst 0, 1) := by decide +kernel
theorem dX4_clears_71 : decode cX4_clears 71 = .ok (.invokevirtual 44, 3) := by decide +kernel
theorem dX4_clears_74 : decode cX4_clears 74 = .ok (.iinc 2 1, 3) := by decide +kernel
theorem dX4_clears_77 : decode cX4_clears 77 = .ok (.iinc 5 1, 3) := by decide +kernel
theorem dX4_clears_80 : decode cX4_clears 80 = .ok (.goto (-37), 3) := by decide +kernel
theorem dX4_clears_83 : decode cX4_clears 83 = .ok (.iinc 4 1, 3) := by decide +kernel
theorem dX4_clears_86 : decode cX4_clears 86 = .ok (.goto (-79), 3) := by decide +kernel
theorem dX4_clears_89 : decode cX4_clears 89 = .ok (.iload_n 2, 1) := by decide +kernel
theorem dX4_clears_90 : decode cX4_clears 90 = .ok (.ireturn, 1) := by decide +kernel
set_option maxRecDepth 20000 in
theorem ggX4_takes1_X4_goesThrough : GoodIn wsX4_takes1 wsX4_goesThrough := goodIn_r _ [5, 6, 7, 8, 9, 4, 10, 11, 12, 13, 14, 15, 16, 17, 18, 19, 20, 21, 22, 27, 28, 29, 30, 31, 32, 33, 34] (by decide +kernel) (by decide +kernel)
set_option maxRecDepth 20000 in
theorem gX4_takes1_X4_goesThrough : GoodIn wsX4_takes1 (wsV RX4 48 RX4 yX4_goesThrough wsX4_goesThrough) := goodIn_app (goodIn_of _ (by decide +kernel)) ggX4_takes1_X4_goesThrough
set_option maxRecDepth 20000 in
theorem ggX4_takes1_X4_clears : GoodIn wsX4_takes1 wsX4_clears := goodIn_r _ [26, 6, 19, 20, 21, 4, 22, 11, 12, 13, 14, 15, 16, 17, 18, 27, 28, 29, 30, 31, 32, 33, 34] (by decide +kernel) (by decide +kernel)
set_option maxRecDepth 20000 in
theorem gX4_takes1_X4_clears : GoodIn wsX4_takes1 (wsV RX4 52 RX4 yX4_clears wsX4_clears) := goodIn_app (goodIn_of _ (by decide +kernel)) ggX4_takes1_X4_clears
theorem dX4_takes1_0 : decode cX4_takes1 0 = .ok (.aload_n 0, 1) := by decide +kernel
theorem dX4_takes1_1 : decode cX4_takes1 1 = .ok (.invokevirtual 48, 3) := by decide +kernel
theorem dX4_takes1_4 : decode cX4_takes1 4 = .ok (.istore_n 1, 1) := by decide +kernel
theorem dX4_takes1_5 : decode cX4_takes1 5 = .ok (.iload_n 1, 1) := by decide +kernel
theorem dX4_takes1_6 : decode cX4_takes1 6 = .ok (.bipush (-9), 2) := by decide +kernel
theorem dX4_takes1_8 : decode cX4_takes1 8 = .ok (.if_icmp .ne 17, 3) := by decide +kernel
theorem dX4_takes1_11 : decode cX4_takes1 11 = .ok (.aload_n 0, 1) := by decide +kernel
theorem dX4_takes1_12 : decode cX4_takes1 12 = .ok (.bipush 10, 2) := by decide +kernel
theorem dX4_takes1_14 : decode cX4_takes1 14 = .ok (.invokevirtual 52, 3) := by decide +kernel
theorem dX4_takes1_17 : decode cX4_takes1 17 = .ok (.ifCond .le 8, 3) := by decide +kernel
theorem dX4_takes1_20 : decode cX4_takes1 20 = .ok (.aload_n 0, 1) := by decide +kernel
theorem dX4_takes1_21 : decode cX4_takes1 21 = .ok (.invokevirtual 48, 3) := by decide +kernel
theorem dX4_takes1_24 : decode cX4_takes1 24 = .ok (.istore_n 1, 1) := by decide +kernel
theorem dX4_takes1_25 : decode cX4_takes1 25 = .ok (.iload_n 1, 1) := by decide +kernel
theorem dX4_takes1_26 : decode cX4_takes1 26 = .ok (.bipush (-9), 2) := by decide +kernel
theorem dX4_takes1_28 : decode cX4_takes1 28 = .ok (.if_icmp .ne 8, 3) := by decide +kernel
theorem dX4_takes1_31 : decode cX4_takes1 31 = .ok (.bipush (-3), 2) := by decide +kernel
theorem dX4_takes1_33 : decode cX4_takes1 33 = .ok (.goto 4, 3) := by decide +kernel
theorem dX4_takes1_36 : decode cX4_takes1 36 = .ok (.iload_n 1, 1) := by decide +kernel
theorem dX4_takes1_37 : decode cX4_takes1 37 = .ok (.ireturn, 1) := by decide +kernel
set_option maxRecDepth 20000 in
theorem ggX4_take_X4_notes : GoodIn wsX4_take wsX4_notes := goodIn_r _ [5, 6, 7, 8, 9, 4, 10, 45, 46, 47, 48, 49, 50, 51, 52] (by decide +kernel) (by decide +kernel)
set_option maxRecDepth 20000 in
theorem gX4_take_X4_notes : GoodIn wsX4_take (wsV RX4 55 RX4 yX4_notes wsX4_notes) := goodIn_app (goodIn_of _ (by decide +kernel)) ggX4_take_X4_notes
set_option maxRecDepth 20000 in
theorem ggX4_take_X4_takes1 : GoodIn wsX4_take wsX4_takes1 := goodIn_r _ [14, 15, 16, 17, 4, 18, 6, 19, 20, 21, 22, 23, 24, 25, 26, 27, 28, 29, 30, 31, 32, 33, 34, 35, 36, 37, 38, 45, 46, 47, 48, 49, 50, 51, 52] (by decide +kernel) (by decide +kernel)
set_option maxRecDepth 20000 in
theorem gX4_take_X4_takes1 : GoodIn wsX4_take (wsV RX4 58 RX4 yX4_takes1 wsX4_takes1) := goodIn_app (goodIn_of _ (by decide +kernel)) ggX4_take_X4_takes1
set_option maxRecDepth 20000 in
theorem ggX4_take_X4_ends : GoodIn wsX4_take wsX4_ends := goodIn_r _ [42, 7, 6, 43, 44, 8, 9, 4, 10, 45, 46, 47, 48, 49, 50, 51, 52] (by decide +kernel) (by decide +kernel)
set_option maxRecDepth 20000 in
theorem gX4_take_X4_ends : GoodIn wsX4_take (wsV RX4 61 RX4 yX4_ends wsX4_ends) := goodIn_app (goodIn_of _ (by decide +kernel)) ggX4_take_X4_ends
theorem dX4_take_0 : decode cX4_take 0 = .ok (.aload_n 0, 1) := by decide +kernel
theorem dX4_take_1 : decode cX4_take 1 = .ok (.invokevirtual 55, 3) := by decide +kernel
theorem dX4_take_4 : decode cX4_take 4 = .ok (.aload_n 0, 1) := by decide +kernel
theorem dX4_take_5 : decode cX4_take 5 = .ok (.aload_n 0, 1) := by decide +kernel
theorem dX4_take_6 : decode cX4_take 6 = .ok (.invokevirtual 58, 3) := by decide +kernel
theorem dX4_take_9 : decode cX4_take 9 = .ok (.invokevirtual 61, 3) := by decide +kernel
theorem dX4_take_12 : decode cX4_take 12 = .ok (.ireturn, 1) := by decide +kernel
theorem dX4_runFrom_0 : decode cX4_runFrom 0 = .ok (.iconst 0, 1) := by decide +kernel
theorem dX4_runFrom_1 : decode cX4_runFrom 1 = .ok (.istore_n 2, 1) := by decide +kernel
theorem dX4_runFrom_2 : decode cX4_runFrom 2 = .ok (.iconst 0, 1) := by decide +kernel
theorem dX4_runFrom_3 : decode cX4_runFrom 3 = .ok (.istore_n 3, 1) := by decide +kernel
theorem dX4_runFrom_4 : decode cX4_runFrom 4 = .ok (.iload_n 3, 1) := by decide +kernel
theorem dX4_runFrom_5 : decode cX4_runFrom 5 = .ok (.sipush 320, 3) := by decide +kernel
theorem dX4_runFrom_8 : decode cX4_runFrom 8 = .ok (.if_icmp .ge 37, 3) := by decide +kernel
theorem dX4_runFrom_11 : decode cX4_runFrom 11 = .ok (.aload_n 0, 1) := by decide +kernel
theorem dX4_runFrom_12 : decode cX4_runFrom 12 = .ok (.getfield 7, 3) := by decide +kernel
theorem dX4_runFrom_15 : decode cX4_runFrom 15 = .ok (.iload_n 3, 1) := by decide +kernel
theorem dX4_runFrom_16 : decode cX4_runFrom 16 = .ok (.iaload, 1) := by decide +kernel
theorem dX4_runFrom_17 : decode cX4_runFrom 17 = .ok (.ifCond .ne 9, 3) := by decide +kernel
theorem dX4_runFrom_20 : decode cX4_runFrom 20 = .ok (.iload_n 2, 1) := by decide +kernel
theorem dX4_runFrom_21 : decode cX4_runFrom 21 = .ok (.iconst 1, 1) := by decide +kernel
theorem dX4_runFrom_22 : decode cX4_runFrom 22 = .ok (.iadd, 1) := by decide +kernel
theorem dX4_runFrom_23 : decode cX4_runFrom 23 = .ok (.goto 4, 3) := by decide +kernel
theorem dX4_runFrom_26 : decode cX4_runFrom 26 = .ok (.iconst 0, 1) := by decide +kernel
theorem dX4_runFrom_27 : decode cX4_runFrom 27 = .ok (.istore_n 2, 1) := by decide +kernel
theorem dX4_runFrom_28 : decode cX4_runFrom 28 = .ok (.iload_n 2, 1) := by decide +kernel
theorem dX4_runFrom_29 : decode cX4_runFrom 29 = .ok (.iload_n 1, 1) := by decide +kernel
theorem dX4_runFrom_30 : decode cX4_runFrom 30 = .ok (.if_icmp .ne 9, 3) := by decide +kernel
theorem dX4_runFrom_33 : decode cX4_runFrom 33 = .ok (.iload_n 3, 1) := by decide +kernel
theorem dX4_runFrom_34 : decode cX4_runFrom 34 = .ok (.iload_n 1, 1) := by decide +kernel
theorem dX4_runFrom_35 : decode cX4_runFrom 35 = .ok (.isub, 1) := by decide +kernel
theorem dX4_runFrom_36 : decode cX4_runFrom 36 = .ok (.iconst 1, 1) := by decide +kernel
theorem dX4_runFrom_37 : decode cX4_runFrom 37 = .ok (.iadd, 1) := by decide +kernel
theorem dX4_runFrom_38 : decode cX4_runFrom 38 = .ok (.ireturn, 1) := by decide +kernel
theorem dX4_runFrom_39 : decode cX4_runFrom 39 = .ok (.iinc 3 1, 3) := by decide +kernel
theorem dX4_runFrom_42 : decode cX4_runFrom 42 = .ok (.goto (-38), 3) := by decide +kernel
theorem dX4_runFrom_45 : decode cX4_runFrom 45 = .ok (.bipush (-9), 2) := by decide +kernel
theorem dX4_runFrom_47 : decode cX4_runFrom 47 = .ok (.ireturn, 1) := by decide +kernel
set_option maxRecDepth 20000 in
theorem ggX4_takeRun_X4_in : GoodIn wsX4_takeRun wsX4_in := goodIn_r _ [5] (by decide +kernel) (by decide +kernel)
set_option maxRecDepth 20000 in
theorem gX4_takeRun_X4_in : GoodIn wsX4_takeRun (va_wsS RX4 64 yX4_in wsX4_in) := goodIn_app (goodIn_of _ (by decide +kernel)) ggX4_takeRun_X4_in
set_option maxRecDepth 20000 in
theorem ggX4_takeRun_X4_runFrom : GoodIn wsX4_takeRun wsX4_runFrom := goodIn_r _ [9, 1, 36, 37, 38, 39, 40, 41, 42, 43] (by decide +kernel) (by decide +kernel)
set_option maxRecDepth 20000 in
theorem gX4_takeRun_X4_runFrom : GoodIn wsX4_takeRun (wsV RX4 68 RX4 yX4_runFrom wsX4_runFrom) := goodIn_app (goodIn_of _ (by decide +kernel)) ggX4_takeRun_X4_runFrom
set_option maxRecDepth 20000 in
theorem ggX4_takeRun_X4_notes : GoodIn wsX4_takeRun wsX4_notes := goodIn_r _ [13, 1, 14, 15, 16, 4, 17, 36, 37, 38, 39, 40, 41, 42, 43] (by decide +kernel) (by decide +kernel)
set_option maxRecDepth 20000 in
theorem gX4_takeRun_X4_notes : GoodIn wsX4_takeRun (wsV RX4 55 RX4 yX4_notes wsX4_notes) := goodIn_app (goodIn_of _ (by decide +kernel)) ggX4_takeRun_X4_notes
set_option maxRecDepth 20000 in
theorem ggX4_takeRun_X4_becomes : GoodIn wsX4_takeRun wsX4_becomes := goodIn_r _ [21, 1, 22, 23, 24, 4, 25, 26, 27, 28, 29, 36, 37, 38, 39, 40, 41, 42, 43] (by decide +kernel) (by decide +kernel)
set_option maxRecDepth 20000 in
theorem gX4_takeRun_X4_becomes : GoodIn wsX4_takeRun (wsV RX4 44 RX4 yX4_becomes wsX4_becomes) := goodIn_app (goodIn_of _ (by decide +kernel)) ggX4_takeRun_X4_becomes
set_option maxRecDepth 20000 in
theorem ggX4_takeRun_X4_ends : GoodIn wsX4_takeRun wsX4_ends := goodIn_r _ [33, 14, 1, 34, 35, 15, 16, 4, 17, 36, 37, 38, 39, 40, 41, 42, 43] (by decide +kernel) (by decide +kernel)
set_option maxRecDepth 20000 in
theorem gX4_takeRun_X4_ends : GoodIn wsX4_takeRun (wsV RX4 61 RX4 yX4_ends wsX4_ends) := goodIn_app (goodIn_of _ (by decide +kernel)) ggX4_takeRun_X4_ends
theorem dX4_takeRun_0 : decode cX4_takeRun 0 = .ok (.iload_n 1, 1) := by decide +kernel
theorem dX4_takeRun_1 : decode cX4_takeRun 1 = .ok (.iconst 1, 1) := by decide +kernel
theorem dX4_takeRun_2 : decode cX4_takeRun 2 = .ok (.bipush 64, 2) := by decide +kernel
theorem dX4_takeRun_4 : decode cX4_takeRun 4 = .ok (.invokestatic 64, 3) := by decide +kernel
theorem dX4_takeRun_7 : decode cX4_takeRun 7 = .ok (.ifCond .ne 5, 3) := by decide +kernel
theorem dX4_takeRun_10 : decode cX4_takeRun 10 = .ok (.iconst (-1), 1) := by decide +kernel
theorem dX4_takeRun_11 : decode cX4_takeRun 11 = .ok (.ireturn, 1) := by decide +kernel
theorem dX4_takeRun_12 : decode cX4_takeRun 12 = .ok (.aload_n 0, 1) := by decide +kernel
theorem dX4_takeRun_13 : decode cX4_takeRun 13 = .ok (.iload_n 1, 1) := by decide +kernel
theorem dX4_takeRun_14 : decode cX4_takeRun 14 = .ok (.invokevirtual 68, 3) := by decide +kernel
theorem dX4_takeRun_17 : decode cX4_takeRun 17 = .ok (.istore_n 2, 1) := by decide +kernel
theorem dX4_takeRun_18 : decode cX4_takeRun 18 = .ok (.iload_n 2, 1) := by decide +kernel
theorem dX4_takeRun_19 : decode cX4_takeRun 19 = .ok (.bipush (-9), 2) := by decide +kernel
theorem dX4_takeRun_21 : decode cX4_takeRun 21 = .ok (.if_icmp .ne 6, 3) := by decide +kernel
theorem dX4_takeRun_24 : decode cX4_takeRun 24 = .ok (.bipush (-3), 2) := by decide +kernel
theorem dX4_takeRun_26 : decode cX4_takeRun 26 = .ok (.ireturn, 1) := by decide +kernel
theorem dX4_takeRun_27 : decode cX4_takeRun 27 = .ok (.aload_n 0, 1) := by decide +kernel
theorem dX4_takeRun_28 : decode cX4_takeRun 28 = .ok (.invokevirtual 55, 3) := by decide +kernel
theorem dX4_takeRun_31 : decode cX4_takeRun 31 = .ok (.aload_n 0, 1) := by decide +kernel
theorem dX4_takeRun_32 : decode cX4_takeRun 32 = .ok (.getfield 7, 3) := by decide +kernel
theorem dX4_takeRun_35 : decode cX4_takeRun 35 = .ok (.sipush 666, 3) := by decide +kernel
theorem dX4_takeRun_38 : decode cX4_takeRun 38 = .ok (.dup2, 1) := by decide +kernel
theorem dX4_takeRun_39 : decode cX4_takeRun 39 = .ok (.iaload, 1) := by decide +kernel
theorem dX4_takeRun_40 : decode cX4_takeRun 40 = .ok (.iload_n 2, 1) := by decide +kernel
theorem dX4_takeRun_41 : decode cX4_takeRun 41 = .ok (.iload_n 1, 1) := by decide +kernel
theorem dX4_takeRun_42 : decode cX4_takeRun 42 = .ok (.iadd, 1) := by decide +kernel
theorem dX4_takeRun_43 : decode cX4_takeRun 43 = .ok (.iconst 1, 1) := by decide +kernel
theorem dX4_takeRun_44 : decode cX4_takeRun 44 = .ok (.isub, 1) := by decide +kernel
theorem dX4_takeRun_45 : decode cX4_takeRun 45 = .ok (.bipush 32, 2) := by decide +kernel
theorem dX4_takeRun_47 : decode cX4_takeRun 47 = .ok (.idiv, 1) := by decide +kernel
theorem dX4_takeRun_48 : decode cX4_takeRun 48 = .ok (.iconst 1, 1) := by decide +kernel
theorem dX4_takeRun_49 : decode cX4_takeRun 49 = .ok (.iadd, 1) := by decide +kernel
theorem dX4_takeRun_50 : decode cX4_takeRun 50 = .ok (.iadd, 1) := by decide +kernel
theorem dX4_takeRun_51 : decode cX4_takeRun 51 = .ok (.iastore, 1) := by decide +kernel
theorem dX4_takeRun_52 : decode cX4_takeRun 52 = .ok (.iload_n 2, 1) := by decide +kernel
theorem dX4_takeRun_53 : decode cX4_takeRun 53 = .ok (.istore_n 3, 1) := by decide +kernel
theorem dX4_takeRun_54 : decode cX4_takeRun 54 = .ok (.iload_n 3, 1) := by decide +kernel
theorem dX4_takeRun_55 : decode cX4_takeRun 55 = .ok (.iload_n 2, 1) := by decide +kernel
theorem dX4_takeRun_56 : decode cX4_takeRun 56 = .ok (.iload_n 1, 1) := by decide +kernel
theorem dX4_takeRun_57 : decode cX4_takeRun 57 = .ok (.iadd, 1) := by decide +kernel
theorem dX4_takeRun_58 : decode cX4_takeRun 58 = .ok (.if_icmp .ge 15, 3) := by decide +kernel
theorem dX4_takeRun_61 : decode cX4_takeRun 61 = .ok (.aload_n 0, 1) := by decide +kernel
theorem dX4_takeRun_62 : decode cX4_takeRun 62 = .ok (.iload_n 3, 1) := by decide +kernel
theorem dX4_takeRun_63 : decode cX4_takeRun 63 = .ok (.iconst 1, 1) := by decide +kernel
theorem dX4_takeRun_64 : decode cX4_takeRun 64 = .ok (.invokevirtual 44, 3) := by decide +kernel
theorem dX4_takeRun_67 : decode cX4_takeRun 67 = .ok (.iinc 3 1, 3) := by decide +kernel
theorem dX4_takeRun_70 : decode cX4_takeRun 70 = .ok (.goto (-16), 3) := by decide +kernel
theorem dX4_takeRun_73 : decode cX4_takeRun 73 = .ok (.aload_n 0, 1) := by decide +kernel
theorem dX4_takeRun_74 : decode cX4_takeRun 74 = .ok (.iload_n 2, 1) := by decide +kernel
theorem dX4_takeRun_75 : decode cX4_takeRun 75 = .ok (.invokevirtual 61, 3) := by decide +kernel
theorem dX4_takeRun_78 : decode cX4_takeRun 78 = .ok (.ireturn, 1) := by decide +kernel
set_option maxRecDepth 20000 in
theorem ggX4_givesBack_X4_in : GoodIn wsX4_givesBack wsX4_in := goodIn_r _ [5] (by decide +kernel) (by decide +kernel)
set_option maxRecDepth 20000 in
theorem gX4_givesBack_X4_in : GoodIn wsX4_givesBack (va_wsS RX4 64 yX4_in wsX4_in) := goodIn_app (goodIn_of _ (by decide +kernel)) ggX4_givesBack_X4_in
set_option maxRecDepth 20000 in
theorem ggX4_givesBack_X4_becomes : GoodIn wsX4_givesBack wsX4_becomes := goodIn_r _ [9, 1, 10, 11, 12, 4, 13, 14, 15, 16, 17, 18, 19, 20, 21, 22, 23, 24, 25] (by decide +kernel) (by decide +kernel)
set_option maxRecDepth 20000 in
theorem gX4_givesBack_X4_becomes : GoodIn wsX4_givesBack (wsV RX4 44 RX4 yX4_becomes wsX4_becomes) := goodIn_app (goodIn_of _ (by decide +kernel)) ggX4_givesBack_X4_becomes
theorem dX4_givesBack_0 : decode cX4_givesBack 0 = .ok (.iload_n 1, 1) := by decide +kernel
theorem dX4_givesBack_1 : decode cX4_givesBack 1 = .ok (.iconst 0, 1) := by decide +kernel
theorem dX4_givesBack_2 : decode cX4_givesBack 2 = .ok (.sipush 319, 3) := by decide +kernel
theorem dX4_givesBack_5 : decode cX4_givesBack 5 = .ok (.invokestatic 64, 3) := by decide +kernel
theorem dX4_givesBack_8 : decode cX4_givesBack 8 = .ok (.ifCond .eq 14, 3) := by decide +kernel
theorem dX4_givesBack_11 : decode cX4_givesBack 11 = .ok (.iload_n 2, 1) := by decide +kernel
theorem dX4_givesBack_12 : decode cX4_givesBack 12 = .ok (.iload_n 1, 1) := by decide +kernel
theorem dX4_givesBack_13 : decode cX4_givesBack 13 = .ok (.sipush 319, 3) := by decide +kernel
theorem dX4_givesBack_16 : decode cX4_givesBack 16 = .ok (.invokestatic 64, 3) := by decide +kernel
theorem dX4_givesBack_19 : decode cX4_givesBack 19 = .ok (.ifCond .ne 5, 3) := by decide +kernel
theorem dX4_givesBack_22 : decode cX4_givesBack 22 = .ok (.iconst (-1), 1) := by decide +kernel
theorem dX4_givesBack_23 : decode cX4_givesBack 23 = .ok (.ireturn, 1) := by decide +kernel
theorem dX4_givesBack_24 : decode cX4_givesBack 24 = .ok (.iconst 0, 1) := by decide +kernel
theorem dX4_givesBack_25 : decode cX4_givesBack 25 = .ok (.istore_n 3, 1) := by decide +kernel
theorem dX4_givesBack_26 : decode cX4_givesBack 26 = .ok (.iload_n 1, 1) := by decide +kernel
theorem dX4_givesBack_27 : decode cX4_givesBack 27 = .ok (.istore 4, 2) := by decide +kernel
theorem dX4_givesBack_29 : decode cX4_givesBack 29 = .ok (.iload 4, 2) := by decide +kernel
theorem dX4_givesBack_31 : decode cX4_givesBack 31 = .ok (.iload_n 2, 1) := by decide +kernel
theorem dX4_givesBack_32 : decode cX4_givesBack 32 = .ok (.if_icmp .gt 48, 3) := by decide +kernel
theorem dX4_givesBack_35 : decode cX4_givesBack 35 = .ok (.aload_n 0, 1) := by decide +kernel
theorem dX4_givesBack_36 : decode cX4_givesBack 36 = .ok (.getfield 7, 3) := by decide +kernel
theorem dX4_givesBack_39 : decode cX4_givesBack 39 = .ok (.iload 4, 2) := by decide +kernel
theorem dX4_givesBack_41 : decode cX4_givesBack 41 = .ok (.iaload, 1) := by decide +kernel
theorem dX4_givesBack_42 : decode cX4_givesBack 42 = .ok (.iconst 1, 1) := by decide +kernel
theorem dX4_givesBack_43 : decode cX4_givesBack 43 = .ok (.if_icmp .ne 31, 3) := by decide +kernel
theorem dX4_givesBack_46 : decode cX4_givesBack 46 = .ok (.aload_n 0, 1) := by decide +kernel
theorem dX4_givesBack_47 : decode cX4_givesBack 47 = .ok (.iload 4, 2) := by decide +kernel
theorem dX4_givesBack_49 : decode cX4_givesBack 49 = .ok (.aload_n 0, 1) := by decide +kernel
theorem dX4_givesBack_50 : decode cX4_givesBack 50 = .ok (.getfield 7, 3) := by decide +kernel
theorem dX4_givesBack_53 : decode cX4_givesBack 53 = .ok (.sipush 320, 3) := by decide +kernel
theorem dX4_givesBack_56 : decode cX4_givesBack 56 = .ok (.iload 4, 2) := by decide +kernel
theorem dX4_givesBack_58 : decode cX4_givesBack 58 = .ok (.iadd, 1) := by decide +kernel
theorem dX4_givesBack_59 : decode cX4_givesBack 59 = .ok (.iaload, 1) := by decide +kernel
theorem dX4_givesBack_60 : decode cX4_givesBack 60 = .ok (.ifCond .le 7, 3) := by decide +kernel
theorem dX4_givesBack_63 : decode cX4_givesBack 63 = .ok (.iconst 3, 1) := by decide +kernel
theorem dX4_givesBack_64 : decode cX4_givesBack 64 = .ok (.goto 4, 3) := by decide +kernel
theorem dX4_givesBack_67 : decode cX4_givesBack 67 = .ok (.iconst 2, 1) := by decide +kernel
theorem dX4_givesBack_68 : decode cX4_givesBack 68 = .ok (.invokevirtual 44, 3) := by decide +kernel
theorem dX4_givesBack_71 : decode cX4_givesBack 71 = .ok (.iinc 3 1, 3) := by decide +kernel
theorem dX4_givesBack_74 : decode cX4_givesBack 74 = .ok (.iinc 4 1, 3) := by decide +kernel
theorem dX4_givesBack_77 : decode cX4_givesBack 77 = .ok (.goto (-48), 3) := by decide +kernel
theorem dX4_givesBack_80 : decode cX4_givesBack 80 = .ok (.iload_n 3, 1) := by decide +kernel
theorem dX4_givesBack_81 : decode cX4_givesBack 81 = .ok (.ifCond .ne 8, 3) := by decide +kernel
theorem dX4_givesBack_84 : decode cX4_givesBack 84 = .ok (.bipush (-2), 2) := by decide +kernel
theorem dX4_givesBack_86 : decode cX4_givesBack 86 = .ok (.goto 4, 3) := by decide +kernel
theorem dX4_givesBack_89 : decode cX4_givesBack 89 = .ok (.iload_n 3, 1) := by decide +kernel
theorem dX4_givesBack_90 : decode cX4_givesBack 90 = .ok (.ireturn, 1) := by decide +kernel
set_option maxRecDepth 20000 in
theorem ggX4_giveBack_X4_notes : GoodIn wsX4_giveBack wsX4_notes := goodIn_r _ [5, 6, 7, 8, 9, 4, 10, 36, 37, 38, 39, 40, 41, 42, 43] (by decide +kernel) (by decide +kernel)
set_option maxRecDepth 20000 in
theorem gX4_giveBack_X4_notes : GoodIn wsX4_giveBack (wsV RX4 55 RX4 yX4_notes wsX4_notes) := goodIn_app (goodIn_of _ (by decide +kernel)) ggX4_giveBack_X4_notes
set_option maxRecDepth 20000 in
theorem ggX4_giveBack_X4_givesBack : GoodIn wsX4_giveBack wsX4_givesBack := goodIn_r _ [14, 6, 15, 16, 4, 17, 18, 19, 20, 21, 22, 23, 24, 25, 26, 27, 28, 29, 36, 37, 38, 39, 40, 41, 42, 43] (by decide +kernel) (by decide +kernel)
set_option maxRecDepth 20000 in
theorem gX4_giveBack_X4_givesBack : GoodIn wsX4_giveBack (wsV RX4 71 RX4 yX4_givesBack wsX4_givesBack) := goodIn_app (goodIn_of _ (by decide +kernel)) ggX4_giveBack_X4_givesBack
set_option maxRecDepth 20000 in
theorem ggX4_giveBack_X4_ends : GoodIn wsX4_giveBack wsX4_ends := goodIn_r _ [33, 7, 6, 34, 35, 8, 9, 4, 10, 36, 37, 38, 39, 40, 41, 42, 43] (by decide +kernel) (by decide +kernel)
set_option maxRecDepth 20000 in
theorem gX4_giveBack_X4_ends : GoodIn wsX4_giveBack (wsV RX4 61 RX4 yX4_ends wsX4_ends) := goodIn_app (goodIn_of _ (by decide +kernel)) ggX4_giveBack_X4_ends
theorem dX4_giveBack_0 : decode cX4_giveBack 0 = .ok (.aload_n 0, 1) := by decide +kernel
theorem dX4_giveBack_1 : decode cX4_giveBack 1 = .ok (.invokevirtual 55, 3) := by decide +kernel
theorem dX4_giveBack_4 : decode cX4_giveBack 4 = .ok (.aload_n 0, 1) := by decide +kernel
theorem dX4_giveBack_5 : decode cX4_giveBack 5 = .ok (.aload_n 0, 1) := by decide +kernel
theorem dX4_giveBack_6 : decode cX4_giveBack 6 = .ok (.iload_n 1, 1) := by decide +kernel
theorem dX4_giveBack_7 : decode cX4_giveBack 7 = .ok (.iload_n 2, 1) := by decide +kernel
theorem dX4_giveBack_8 : decode cX4_giveBack 8 = .ok (.invokevirtual 71, 3) := by decide +kernel
theorem dX4_giveBack_11 : decode cX4_giveBack 11 = .ok (.invokevirtual 61, 3) := by decide +kernel
theorem dX4_giveBack_14 : decode cX4_giveBack 14 = .ok (.ireturn, 1) := by decide +kernel
set_option maxRecDepth 20000 in
theorem ggX4_clearsSome_X4_in : GoodIn wsX4_clearsSome wsX4_in := goodIn_r _ [4] (by decide +kernel) (by decide +kernel)
set_option maxRecDepth 20000 in
theorem gX4_clearsSome_X4_in : GoodIn wsX4_clearsSome (va_wsS RX4 64 yX4_in wsX4_in) := goodIn_app (goodIn_of _ (by decide +kernel)) ggX4_clearsSome_X4_in
set_option maxRecDepth 20000 in
theorem ggX4_clearsSome_X4_clears : GoodIn wsX4_clearsSome wsX4_clears := goodIn_r _ [8, 9, 10, 11, 12, 3, 13, 14, 15, 16, 17, 18, 19, 20, 21, 22, 23, 24, 25, 26, 27, 28, 29] (by decide +kernel) (by decide +kernel)
set_option maxRecDepth 20000 in
theorem gX4_clearsSome_X4_clears : GoodIn wsX4_clearsSome (wsV RX4 52 RX4 yX4_clears wsX4_clears) := goodIn_app (goodIn_of _ (by decide +kernel)) ggX4_clearsSome_X4_clears
theorem dX4_clearsSome_0 : decode cX4_clearsSome 0 = .ok (.iload_n 1, 1) := by decide +kernel
theorem dX4_clearsSome_1 : decode cX4_clearsSome 1 = .ok (.iconst 1, 1) := by decide +kernel
theorem dX4_clearsSome_2 : decode cX4_clearsSome 2 = .ok (.bipush 10, 2) := by decide +kernel
theorem dX4_clearsSome_4 : decode cX4_clearsSome 4 = .ok (.invokestatic 64, 3) := by decide +kernel
theorem dX4_clearsSome_7 : decode cX4_clearsSome 7 = .ok (.ifCond .eq 11, 3) := by decide +kernel
theorem dX4_clearsSome_10 : decode cX4_clearsSome 10 = .ok (.aload_n 0, 1) := by decide +kernel
theorem dX4_clearsSome_11 : decode cX4_clearsSome 11 = .ok (.iload_n 1, 1) := by decide +kernel
theorem dX4_clearsSome_12 : decode cX4_clearsSome 12 = .ok (.invokevirtual 52, 3) := by decide +kernel
theorem dX4_clearsSome_15 : decode cX4_clearsSome 15 = .ok (.goto 4, 3) := by decide +kernel
theorem dX4_clearsSome_18 : decode cX4_clearsSome 18 = .ok (.iconst (-1), 1) := by decide +kernel
theorem dX4_clearsSome_19 : decode cX4_clearsSome 19 = .ok (.ireturn, 1) := by decide +kernel
set_option maxRecDepth 20000 in
theorem ggX4_clear_X4_notes : GoodIn wsX4_clear wsX4_notes := goodIn_r _ [5, 6, 7, 8, 9, 4, 10, 40, 41, 42, 43, 44, 45, 46, 47] (by decide +kernel) (by decide +kernel)
set_option maxRecDepth 20000 in
theorem gX4_clear_X4_notes : GoodIn wsX4_clear (wsV RX4 55 RX4 yX4_notes wsX4_notes) := goodIn_app (goodIn_of _ (by decide +kernel)) ggX4_clear_X4_notes
set_option maxRecDepth 20000 in
theorem ggX4_clear_X4_clearsSome : GoodIn wsX4_clear wsX4_clearsSome := goodIn_r _ [14, 15, 16, 4, 17, 18, 19, 20, 21, 6, 22, 23, 24, 25, 26, 27, 28, 29, 30, 31, 32, 33, 40, 41, 42, 43, 44, 45, 46, 47] (by decide +kernel) (by decide +kernel)
set_option maxRecDepth 20000 in
theorem gX4_clear_X4_clearsSome : GoodIn wsX4_clear (wsV RX4 74 RX4 yX4_clearsSome wsX4_clearsSome) := goodIn_app (goodIn_of _ (by decide +kernel)) ggX4_clear_X4_clearsSome
set_option maxRecDepth 20000 in
theorem ggX4_clear_X4_ends : GoodIn wsX4_clear wsX4_ends := goodIn_r _ [37, 7, 6, 38, 39, 8, 9, 4, 10, 40, 41, 42, 43, 44, 45, 46, 47] (by decide +kernel) (by decide +kernel)
set_option maxRecDepth 20000 in
theorem gX4_clear_X4_ends : GoodIn wsX4_clear (wsV RX4 61 RX4 yX4_ends wsX4_ends) := goodIn_app (goodIn_of _ (by decide +kernel)) ggX4_clear_X4_ends
theorem dX4_clear_0 : decode cX4_clear 0 = .ok (.aload_n 0, 1) := by decide +kernel
theorem dX4_clear_1 : decode cX4_clear 1 = .ok (.invokevirtual 55, 3) := by decide +kernel
theorem dX4_clear_4 : decode cX4_clear 4 = .ok (.aload_n 0, 1) := by decide +kernel
theorem dX4_clear_5 : decode cX4_clear 5 = .ok (.aload_n 0, 1) := by decide +kernel
theorem dX4_clear_6 : decode cX4_clear 6 = .ok (.iload_n 1, 1) := by decide +kernel
theorem dX4_clear_7 : decode cX4_clear 7 = .ok (.invokevirtual 74, 3) := by decide +kernel
theorem dX4_clear_10 : decode cX4_clear 10 = .ok (.invokevirtual 61, 3) := by decide +kernel
theorem dX4_clear_13 : decode cX4_clear 13 = .ok (.ireturn, 1) := by decide +kernel
set_option maxRecDepth 20000 in
theorem ggX4_isBlock_X4_in : GoodIn wsX4_isBlock wsX4_in := goodIn_r _ [5] (by decide +kernel) (by decide +kernel)
set_option maxRecDepth 20000 in
theorem gX4_isBlock_X4_in : GoodIn wsX4_isBlock (va_wsS RX4 64 yX4_in wsX4_in) := goodIn_app (goodIn_of _ (by decide +kernel)) ggX4_isBlock_X4_in
theorem dX4_isBlock_0 : decode cX4_isBlock 0 = .ok (.iload_n 1, 1) := by decide +kernel
theorem dX4_isBlock_1 : decode cX4_isBlock 1 = .ok (.iconst 0, 1) := by decide +kernel
theorem dX4_isBlock_2 : decode cX4_isBlock 2 = .ok (.bipush 7, 2) := by decide +kernel
theorem dX4_isBlock_4 : decode cX4_isBlock 4 = .ok (.invokestatic 64, 3) := by decide +kernel
theorem dX4_isBlock_7 : decode cX4_isBlock 7 = .ok (.ifCond .eq 24, 3) := by decide +kernel
theorem dX4_isBlock_10 : decode cX4_isBlock 10 = .ok (.aload_n 0, 1) := by decide +kernel
theorem dX4_isBlock_11 : decode cX4_isBlock 11 = .ok (.getfield 7, 3) := by decide +kernel
theorem dX4_isBlock_14 : decode cX4_isBlock 14 = .ok (.sipush 650, 3) := by decide +kernel
theorem dX4_isBlock_17 : decode cX4_isBlock 17 = .ok (.iconst 2, 1) := by decide +kernel
theorem dX4_isBlock_18 : decode cX4_isBlock 18 = .ok (.iload_n 1, 1) := by decide +kernel
theorem dX4_isBlock_19 : decode cX4_isBlock 19 = .ok (.imul, 1) := by decide +kernel
theorem dX4_isBlock_20 : decode cX4_isBlock 20 = .ok (.iadd, 1) := by decide +kernel
theorem dX4_isBlock_21 : decode cX4_isBlock 21 = .ok (.iconst 1, 1) := by decide +kernel
theorem dX4_isBlock_22 : decode cX4_isBlock 22 = .ok (.iadd, 1) := by decide +kernel
theorem dX4_isBlock_23 : decode cX4_isBlock 23 = .ok (.iaload, 1) := by decide +kernel
theorem dX4_isBlock_24 : decode cX4_isBlock 24 = .ok (.ifCond .le 7, 3) := by decide +kernel
theorem dX4_isBlock_27 : decode cX4_isBlock 27 = .ok (.iconst 1, 1) := by decide +kernel
theorem dX4_isBlock_28 : decode cX4_isBlock 28 = .ok (.goto 4, 3) := by decide +kernel
theorem dX4_isBlock_31 : decode cX4_isBlock 31 = .ok (.iconst 0, 1) := by decide +kernel
theorem dX4_isBlock_32 : decode cX4_isBlock 32 = .ok (.ireturn, 1) := by decide +kernel
theorem dX4_isSize_0 : decode cX4_isSize 0 = .ok (.iload_n 0, 1) := by decide +kernel
theorem dX4_isSize_1 : decode cX4_isSize 1 = .ok (.iconst 4, 1) := by decide +kernel
theorem dX4_isSize_2 : decode cX4_isSize 2 = .ok (.if_icmp .eq 21, 3) := by decide +kernel
theorem dX4_isSize_5 : decode cX4_isSize 5 = .ok (.iload_n 0, 1) := by decide +kernel
theorem dX4_isSize_6 : decode cX4_isSize 6 = .ok (.bipush 8, 2) := by decide +kernel
theorem dX4_isSize_8 : decode cX4_isSize 8 = .ok (.if_icmp .eq 15, 3) := by decide +kernel
theorem dX4_isSize_11 : decode cX4_isSize 11 = .ok (.iload_n 0, 1) := by decide +kernel
theorem dX4_isSize_12 : decode cX4_isSize 12 = .ok (.bipush 16, 2) := by decide +kernel
theorem dX4_isSize_14 : decode cX4_isSize 14 = .ok (.if_icmp .eq 9, 3) := by decide +kernel
theorem dX4_isSize_17 : decode cX4_isSize 17 = .ok (.iload_n 0, 1) := by decide +kernel
theorem dX4_isSize_18 : decode cX4_isSize 18 = .ok (.bipush 32, 2) := by decide +kernel
theorem dX4_isSize_20 : decode cX4_isSize 20 = .ok (.if_icmp .ne 7, 3) := by decide +kernel
theorem dX4_isSize_23 : decode cX4_isSize 23 = .ok (.iconst 1, 1) := by decide +kernel
theorem dX4_isSize_24 : decode cX4_isSize 24 = .ok (.goto 4, 3) := by decide +kernel
theorem dX4_isSize_27 : decode cX4_isSize 27 = .ok (.iconst 0, 1) := by decide +kernel
theorem dX4_isSize_28 : decode cX4_isSize 28 = .ok (.ireturn, 1) := by decide +kernel
theorem dX4_placeOf_0 : decode cX4_placeOf 0 = .ok (.iconst 0, 1) := by decide +kernel
theorem dX4_placeOf_1 : decode cX4_placeOf 1 = .ok (.istore_n 2, 1) := by decide +kernel
theorem dX4_placeOf_2 : decode cX4_placeOf 2 = .ok (.iload_n 2, 1) := by decide +kernel
theorem dX4_placeOf_3 : decode cX4_placeOf 3 = .ok (.sipush 320, 3) := by decide +kernel
theorem dX4_placeOf_6 : decode cX4_placeOf 6 = .ok (.if_icmp .ge 54, 3) := by decide +kernel
theorem dX4_placeOf_9 : decode cX4_placeOf 9 = .ok (.iconst 0, 1) := by decide +kernel
theorem dX4_placeOf_10 : decode cX4_placeOf 10 = .ok (.istore_n 3, 1) := by decide +kernel
theorem dX4_placeOf_11 : decode cX4_placeOf 11 = .ok (.iload_n 2, 1) := by decide +kernel
theorem dX4_placeOf_12 : decode cX4_placeOf 12 = .ok (.istore 4, 2) := by decide +kernel
theorem dX4_placeOf_14 : decode cX4_placeOf 14 = .ok (.iload 4, 2) := by decide +kernel
theorem dX4_placeOf_16 : decode cX4_placeOf 16 = .ok (.iload_n 2, 1) := by decide +kernel
theorem dX4_placeOf_17 : decode cX4_placeOf 17 = .ok (.iload_n 1, 1) := by decide +kernel
theorem dX4_placeOf_18 : decode cX4_placeOf 18 = .ok (.iadd, 1) := by decide +kernel
theorem dX4_placeOf_19 : decode cX4_placeOf 19 = .ok (.if_icmp .ge 27, 3) := by decide +kernel
theorem dX4_placeOf_22 : decode cX4_placeOf 22 = .ok (.iload_n 3, 1) := by decide +kernel
theorem dX4_placeOf_23 : decode cX4_placeOf 23 = .ok (.aload_n 0, 1) := by decide +kernel
theorem dX4_placeOf_24 : decode cX4_placeOf 24 = .ok (.getfield 7, 3) := by decide +kernel
theorem dX4_placeOf_27 : decode cX4_placeOf 27 = .ok (.iload 4, 2) := by decide +kernel
theorem dX4_placeOf_29 : decode cX4_placeOf 29 = .ok (.iaload, 1) := by decide +kernel
theorem dX4_placeOf_30 : decode cX4_placeOf 30 = .ok (.ifCond .ne 7, 3) := by decide +kernel
theorem dX4_placeOf_33 : decode cX4_placeOf 33 = .ok (.iconst 1, 1) := by decide +kernel
theorem dX4_placeOf_34 : decode cX4_placeOf 34 = .ok (.goto 4, 3) := by decide +kernel
theorem dX4_placeOf_37 : decode cX4_placeOf 37 = .ok (.iconst 0, 1) := by decide +kernel
theorem dX4_placeOf_38 : decode cX4_placeOf 38 = .ok (.iadd, 1) := by decide +kernel
theorem dX4_placeOf_39 : decode cX4_placeOf 39 = .ok (.istore_n 3, 1) := by decide +kernel
theorem dX4_placeOf_40 : decode cX4_placeOf 40 = .ok (.iinc 4 1, 3) := by decide +kernel
theorem dX4_placeOf_43 : decode cX4_placeOf 43 = .ok (.goto (-29), 3) := by decide +kernel
theorem dX4_placeOf_46 : decode cX4_placeOf 46 = .ok (.iload_n 3, 1) := by decide +kernel
theorem dX4_placeOf_47 : decode cX4_placeOf 47 = .ok (.iload_n 1, 1) := by decide +kernel
theorem dX4_placeOf_48 : decode cX4_placeOf 48 = .ok (.if_icmp .ne 5, 3) := by decide +kernel
theorem dX4_placeOf_51 : decode cX4_placeOf 51 = .ok (.iload_n 2, 1) := by decide +kernel
theorem dX4_placeOf_52 : decode cX4_placeOf 52 = .ok (.ireturn, 1) := by decide +kernel
theorem dX4_placeOf_53 : decode cX4_placeOf 53 = .ok (.iload_n 2, 1) := by decide +kernel
theorem dX4_placeOf_54 : decode cX4_placeOf 54 = .ok (.iload_n 1, 1) := by decide +kernel
theorem dX4_placeOf_55 : decode cX4_placeOf 55 = .ok (.iadd, 1) := by decide +kernel
theorem dX4_placeOf_56 : decode cX4_placeOf 56 = .ok (.istore_n 2, 1) := by decide +kernel
theorem dX4_placeOf_57 : decode cX4_placeOf 57 = .ok (.goto (-55), 3) := by decide +kernel
theorem dX4_placeOf_60 : decode cX4_placeOf 60 = .ok (.bipush (-9), 2) := by decide +kernel
theorem dX4_placeOf_62 : decode cX4_placeOf 62 = .ok (.ireturn, 1) := by decide +kernel
set_option maxRecDepth 20000 in
theorem ggX4_reserves_X4_isSize : GoodIn wsX4_reserves wsX4_isSize := goodIn_r _ [5] (by decide +kernel) (by decide +kernel)
set_option maxRecDepth 20000 in
theorem gX4_reserves_X4_isSize : GoodIn wsX4_reserves (va_wsS RX4 77 yX4_isSize wsX4_isSize) := goodIn_app (goodIn_of _ (by decide +kernel)) ggX4_reserves_X4_isSize
set_option maxRecDepth 20000 in
theorem ggX4_reserves_X4_isBlock : GoodIn wsX4_reserves wsX4_isBlock := goodIn_r _ [9, 1, 10, 11, 4, 12, 29, 30, 31, 32, 33, 34, 35, 36] (by decide +kernel) (by decide +kernel)
set_option maxRecDepth 20000 in
theorem gX4_reserves_X4_isBlock : GoodIn wsX4_reserves (wsV RX4 81 RX4 yX4_isBlock wsX4_isBlock) := goodIn_app (goodIn_of _ (by decide +kernel)) ggX4_reserves_X4_isBlock
set_option maxRecDepth 20000 in
theorem ggX4_reserves_X4_placeOf : GoodIn wsX4_reserves wsX4_placeOf := goodIn_r _ [16, 1, 29, 30, 31, 32, 33, 34, 35, 36] (by decide +kernel) (by decide +kernel)
set_option maxRecDepth 20000 in
theorem gX4_reserves_X4_placeOf : GoodIn wsX4_reserves (wsV RX4 84 RX4 yX4_placeOf wsX4_placeOf) := goodIn_app (goodIn_of _ (by decide +kernel)) ggX4_reserves_X4_placeOf
set_option maxRecDepth 20000 in
theorem ggX4_reserves_X4_becomes : GoodIn wsX4_reserves wsX4_becomes := goodIn_r _ [20, 1, 21, 22, 23, 4, 24, 25, 26, 27, 28, 29, 30, 31, 32, 33, 34, 35, 36] (by decide +kernel) (by decide +kernel)
set_option maxRecDepth 20000 in
theorem gX4_reserves_X4_becomes : GoodIn wsX4_reserves (wsV RX4 44 RX4 yX4_becomes wsX4_becomes) := goodIn_app (goodIn_of _ (by decide +kernel)) ggX4_reserves_X4_becomes
theorem dX4_reserves_0 : decode cX4_reserves 0 = .ok (.iload_n 1, 1) := by decide +kernel
theorem dX4_reserves_1 : decode cX4_reserves 1 = .ok (.invokestatic 77, 3) := by decide +kernel
theorem dX4_reserves_4 : decode cX4_reserves 4 = .ok (.ifCond .ne 5, 3) := by decide +kernel
theorem dX4_reserves_7 : decode cX4_reserves 7 = .ok (.iconst (-1), 1) := by decide +kernel
theorem dX4_reserves_8 : decode cX4_reserves 8 = .ok (.ireturn, 1) := by decide +kernel
theorem dX4_reserves_9 : decode cX4_reserves 9 = .ok (.iconst 0, 1) := by decide +kernel
theorem dX4_reserves_10 : decode cX4_reserves 10 = .ok (.istore_n 2, 1) := by decide +kernel
theorem dX4_reserves_11 : decode cX4_reserves 11 = .ok (.aload_n 0, 1) := by decide +kernel
theorem dX4_reserves_12 : decode cX4_reserves 12 = .ok (.iload_n 2, 1) := by decide +kernel
theorem dX4_reserves_13 : decode cX4_reserves 13 = .ok (.invokevirtual 81, 3) := by decide +kernel
theorem dX4_reserves_16 : decode cX4_reserves 16 = .ok (.ifCond .eq 9, 3) := by decide +kernel
theorem dX4_reserves_19 : decode cX4_reserves 19 = .ok (.iinc 2 1, 3) := by decide +kernel
theorem dX4_reserves_22 : decode cX4_reserves 22 = .ok (.goto (-11), 3) := by decide +kernel
theorem dX4_reserves_25 : decode cX4_reserves 25 = .ok (.aload_n 0, 1) := by decide +kernel
theorem dX4_reserves_26 : decode cX4_reserves 26 = .ok (.iload_n 1, 1) := by decide +kernel
theorem dX4_reserves_27 : decode cX4_reserves 27 = .ok (.invokevirtual 84, 3) := by decide +kernel
theorem dX4_reserves_30 : decode cX4_reserves 30 = .ok (.istore_n 3, 1) := by decide +kernel
theorem dX4_reserves_31 : decode cX4_reserves 31 = .ok (.iload_n 2, 1) := by decide +kernel
theorem dX4_reserves_32 : decode cX4_reserves 32 = .ok (.bipush 8, 2) := by decide +kernel
theorem dX4_reserves_34 : decode cX4_reserves 34 = .ok (.if_icmp .eq 9, 3) := by decide +kernel
theorem dX4_reserves_37 : decode cX4_reserves 37 = .ok (.iload_n 3, 1) := by decide +kernel
theorem dX4_reserves_38 : decode cX4_reserves 38 = .ok (.bipush (-9), 2) := by decide +kernel
theorem dX4_reserves_40 : decode cX4_reserves 40 = .ok (.if_icmp .ne 6, 3) := by decide +kernel
theorem dX4_reserves_43 : decode cX4_reserves 43 = .ok (.bipush (-3), 2) := by decide +kernel
theorem dX4_reserves_45 : decode cX4_reserves 45 = .ok (.ireturn, 1) := by decide +kernel
theorem dX4_reserves_46 : decode cX4_reserves 46 = .ok (.aload_n 0, 1) := by decide +kernel
theorem dX4_reserves_47 : decode cX4_reserves 47 = .ok (.getfield 7, 3) := by decide +kernel
theorem dX4_reserves_50 : decode cX4_reserves 50 = .ok (.sipush 650, 3) := by decide +kernel
theorem dX4_reserves_53 : decode cX4_reserves 53 = .ok (.iconst 2, 1) := by decide +kernel
theorem dX4_reserves_54 : decode cX4_reserves 54 = .ok (.iload_n 2, 1) := by decide +kernel
theorem dX4_reserves_55 : decode cX4_reserves 55 = .ok (.imul, 1) := by decide +kernel
theorem dX4_reserves_56 : decode cX4_reserves 56 = .ok (.iadd, 1) := by decide +kernel
theorem dX4_reserves_57 : decode cX4_reserves 57 = .ok (.iload_n 3, 1) := by decide +kernel
theorem dX4_reserves_58 : decode cX4_reserves 58 = .ok (.iastore, 1) := by decide +kernel
theorem dX4_reserves_59 : decode cX4_reserves 59 = .ok (.aload_n 0, 1) := by decide +kernel
theorem dX4_reserves_60 : decode cX4_reserves 60 = .ok (.getfield 7, 3) := by decide +kernel
theorem dX4_reserves_63 : decode cX4_reserves 63 = .ok (.sipush 650, 3) := by decide +kernel
theorem dX4_reserves_66 : decode cX4_reserves 66 = .ok (.iconst 2, 1) := by decide +kernel
theorem dX4_reserves_67 : decode cX4_reserves 67 = .ok (.iload_n 2, 1) := by decide +kernel
theorem dX4_reserves_68 : decode cX4_reserves 68 = .ok (.imul, 1) := by decide +kernel
theorem dX4_reserves_69 : decode cX4_reserves 69 = .ok (.iadd, 1) := by decide +kernel
theorem dX4_reserves_70 : decode cX4_reserves 70 = .ok (.iconst 1, 1) := by decide +kernel
theorem dX4_reserves_71 : decode cX4_reserves 71 = .ok (.iadd, 1) := by decide +kernel
theorem dX4_reserves_72 : decode cX4_reserves 72 = .ok (.iload_n 1, 1) := by decide +kernel
theorem dX4_reserves_73 : decode cX4_reserves 73 = .ok (.iastore, 1) := by decide +kernel
theorem dX4_reserves_74 : decode cX4_reserves 74 = .ok (.iload_n 3, 1) := by decide +kernel
theorem dX4_reserves_75 : decode cX4_reserves 75 = .ok (.istore 4, 2) := by decide +kernel
theorem dX4_reserves_77 : decode cX4_reserves 77 = .ok (.iload 4, 2) := by decide +kernel
theorem dX4_reserves_79 : decode cX4_reserves 79 = .ok (.iload_n 3, 1) := by decide +kernel
theorem dX4_reserves_80 : decode cX4_reserves 80 = .ok (.iload_n 1, 1) := by decide +kernel
theorem dX4_reserves_81 : decode cX4_reserves 81 = .ok (.iadd, 1) := by decide +kernel
theorem dX4_reserves_82 : decode cX4_reserves 82 = .ok (.if_icmp .ge 30, 3) := by decide +kernel
theorem dX4_reserves_85 : decode cX4_reserves 85 = .ok (.aload_n 0, 1) := by decide +kernel
theorem dX4_reserves_86 : decode cX4_reserves 86 = .ok (.getfield 7, 3) := by decide +kernel
theorem dX4_reserves_89 : decode cX4_reserves 89 = .ok (.sipush 320, 3) := by decide +kernel
theorem dX4_reserves_92 : decode cX4_reserves 92 = .ok (.iload 4, 2) := by decide +kernel
theorem dX4_reserves_94 : decode cX4_reserves 94 = .ok (.iadd, 1) := by decide +kernel
theorem dX4_reserves_95 : decode cX4_reserves 95 = .ok (.iload_n 2, 1) := by decide +kernel
theorem dX4_reserves_96 : decode cX4_reserves 96 = .ok (.iconst 1, 1) := by decide +kernel
theorem dX4_reserves_97 : decode cX4_reserves 97 = .ok (.iadd, 1) := by decide +kernel
theorem dX4_reserves_98 : decode cX4_reserves 98 = .ok (.iastore, 1) := by decide +kernel
theorem dX4_reserves_99 : decode cX4_reserves 99 = .ok (.aload_n 0, 1) := by decide +kernel
theorem dX4_reserves_100 : decode cX4_reserves 100 = .ok (.iload 4, 2) := by decide +kernel
theorem dX4_reserves_102 : decode cX4_reserves 102 = .ok (.iconst 3, 1) := by decide +kernel
theorem dX4_reserves_103 : decode cX4_reserves 103 = .ok (.invokevirtual 44, 3) := by decide +kernel
theorem dX4_reserves_106 : decode cX4_reserves 106 = .ok (.iinc 4 1, 3) := by decide +kernel
theorem dX4_reserves_109 : decode cX4_reserves 109 = .ok (.goto (-32), 3) := by decide +kernel
theorem dX4_reserves_112 : decode cX4_reserves 112 = .ok (.iload_n 2, 1) := by decide +kernel
theorem dX4_reserves_113 : decode cX4_reserves 113 = .ok (.ireturn, 1) := by decide +kernel
set_option maxRecDepth 20000 in
theorem ggX4_reserve_X4_notes : GoodIn wsX4_reserve wsX4_notes := goodIn_r _ [5, 6, 7, 8, 9, 4, 10, 47, 48, 49, 50, 51, 52, 53, 54] (by decide +kernel) (by decide +kernel)
set_option maxRecDepth 20000 in
theorem gX4_reserve_X4_notes : GoodIn wsX4_reserve (wsV RX4 55 RX4 yX4_notes wsX4_notes) := goodIn_app (goodIn_of _ (by decide +kernel)) ggX4_reserve_X4_notes
set_option maxRecDepth 20000 in
theorem ggX4_reserve_X4_reserves : GoodIn wsX4_reserve wsX4_reserves := goodIn_r _ [14, 6, 15, 16, 4, 17, 18, 19, 20, 21, 22, 23, 24, 25, 26, 27, 28, 29, 30, 31, 32, 33, 34, 35, 36, 37, 38, 39, 40, 47, 48, 49, 50, 51, 52, 53, 54] (by decide +kernel) (by decide +kernel)
set_option maxRecDepth 20000 in
theorem gX4_reserve_X4_reserves : GoodIn wsX4_reserve (wsV RX4 87 RX4 yX4_reserves wsX4_reserves) := goodIn_app (goodIn_of _ (by decide +kernel)) ggX4_reserve_X4_reserves
set_option maxRecDepth 20000 in
theorem ggX4_reserve_X4_ends : GoodIn wsX4_reserve wsX4_ends := goodIn_r _ [44, 7, 6, 45, 46, 8, 9, 4, 10, 47, 48, 49, 50, 51, 52, 53, 54] (by decide +kernel) (by decide +kernel)
set_option maxRecDepth 20000 in
theorem gX4_reserve_X4_ends : GoodIn wsX4_reserve (wsV RX4 61 RX4 yX4_ends wsX4_ends) := goodIn_app (goodIn_of _ (by decide +kernel)) ggX4_reserve_X4_ends
theorem dX4_reserve_0 : decode cX4_reserve 0 = .ok (.aload_n 0, 1) := by decide +kernel
theorem dX4_reserve_1 : decode cX4_reserve 1 = .ok (.invokevirtual 55, 3) := by decide +kernel
theorem dX4_reserve_4 : decode cX4_reserve 4 = .ok (.aload_n 0, 1) := by decide +kernel
theorem dX4_reserve_5 : decode cX4_reserve 5 = .ok (.aload_n 0, 1) := by decide +kernel
theorem dX4_reserve_6 : decode cX4_reserve 6 = .ok (.iload_n 1, 1) := by decide +kernel
theorem dX4_reserve_7 : decode cX4_reserve 7 = .ok (.invokevirtual 87, 3) := by decide +kernel
theorem dX4_reserve_10 : decode cX4_reserve 10 = .ok (.invokevirtual 61, 3) := by decide +kernel
theorem dX4_reserve_13 : decode cX4_reserve 13 = .ok (.ireturn, 1) := by decide +kernel
set_option maxRecDepth 20000 in
theorem ggX4_takesIn_X4_isBlock : GoodIn wsX4_takesIn wsX4_isBlock := goodIn_r _ [6, 1, 7, 8, 5, 9, 22, 23, 24, 25, 26, 27, 28, 29] (by decide +kernel) (by decide +kernel)
set_option maxRecDepth 20000 in
theorem gX4_takesIn_X4_isBlock : GoodIn wsX4_takesIn (wsV RX4 81 RX4 yX4_isBlock wsX4_isBlock) := goodIn_app (goodIn_of _ (by decide +kernel)) ggX4_takesIn_X4_isBlock
set_option maxRecDepth 20000 in
theorem ggX4_takesIn_X4_becomes : GoodIn wsX4_takesIn wsX4_becomes := goodIn_r _ [13, 1, 14, 15, 16, 5, 17, 18, 19, 20, 21, 22, 23, 24, 25, 26, 27, 28, 29] (by decide +kernel) (by decide +kernel)
set_option maxRecDepth 20000 in
theorem gX4_takesIn_X4_becomes : GoodIn wsX4_takesIn (wsV RX4 44 RX4 yX4_becomes wsX4_becomes) := goodIn_app (goodIn_of _ (by decide +kernel)) ggX4_takesIn_X4_becomes
theorem dX4_takesIn_0 : decode cX4_takesIn 0 = .ok (.aload_n 0, 1) := by decide +kernel
theorem dX4_takesIn_1 : decode cX4_takesIn 1 = .ok (.iload_n 1, 1) := by decide +kernel
theorem dX4_takesIn_2 : decode cX4_takesIn 2 = .ok (.invokevirtual 81, 3) := by decide +kernel
theorem dX4_takesIn_5 : decode cX4_takesIn 5 = .ok (.ifCond .ne 5, 3) := by decide +kernel
theorem dX4_takesIn_8 : decode cX4_takesIn 8 = .ok (.iconst (-1), 1) := by decide +kernel
theorem dX4_takesIn_9 : decode cX4_takesIn 9 = .ok (.ireturn, 1) := by decide +kernel
theorem dX4_takesIn_10 : decode cX4_takesIn 10 = .ok (.aload_n 0, 1) := by decide +kernel
theorem dX4_takesIn_11 : decode cX4_takesIn 11 = .ok (.getfield 7, 3) := by decide +kernel
theorem dX4_takesIn_14 : decode cX4_takesIn 14 = .ok (.sipush 650, 3) := by decide +kernel
theorem dX4_takesIn_17 : decode cX4_takesIn 17 = .ok (.iconst 2, 1) := by decide +kernel
theorem dX4_takesIn_18 : decode cX4_takesIn 18 = .ok (.iload_n 1, 1) := by decide +kernel
theorem dX4_takesIn_19 : decode cX4_takesIn 19 = .ok (.imul, 1) := by decide +kernel
theorem dX4_takesIn_20 : decode cX4_takesIn 20 = .ok (.iadd, 1) := by decide +kernel
theorem dX4_takesIn_21 : decode cX4_takesIn 21 = .ok (.iaload, 1) := by decide +kernel
theorem dX4_takesIn_22 : decode cX4_takesIn 22 = .ok (.istore_n 2, 1) := by decide +kernel
theorem dX4_takesIn_23 : decode cX4_takesIn 23 = .ok (.iload_n 2, 1) := by decide +kernel
theorem dX4_takesIn_24 : decode cX4_takesIn 24 = .ok (.istore_n 3, 1) := by decide +kernel
theorem dX4_takesIn_25 : decode cX4_takesIn 25 = .ok (.iload_n 3, 1) := by decide +kernel
theorem dX4_takesIn_26 : decode cX4_takesIn 26 = .ok (.iload_n 2, 1) := by decide +kernel
theorem dX4_takesIn_27 : decode cX4_takesIn 27 = .ok (.aload_n 0, 1) := by decide +kernel
theorem dX4_takesIn_28 : decode cX4_takesIn 28 = .ok (.getfield 7, 3) := by decide +kernel
theorem dX4_takesIn_31 : decode cX4_takesIn 31 = .ok (.sipush 650, 3) := by decide +kernel
theorem dX4_takesIn_34 : decode cX4_takesIn 34 = .ok (.iconst 2, 1) := by decide +kernel
theorem dX4_takesIn_35 : decode cX4_takesIn 35 = .ok (.iload_n 1, 1) := by decide +kernel
theorem dX4_takesIn_36 : decode cX4_takesIn 36 = .ok (.imul, 1) := by decide +kernel
theorem dX4_takesIn_37 : decode cX4_takesIn 37 = .ok (.iadd, 1) := by decide +kernel
theorem dX4_takesIn_38 : decode cX4_takesIn 38 = .ok (.iconst 1, 1) := by decide +kernel
theorem dX4_takesIn_39 : decode cX4_takesIn 39 = .ok (.iadd, 1) := by decide +kernel
theorem dX4_takesIn_40 : decode cX4_takesIn 40 = .ok (.iaload, 1) := by decide +kernel
theorem dX4_takesIn_41 : decode cX4_takesIn 41 = .ok (.iadd, 1) := by decide +kernel
theorem dX4_takesIn_42 : decode cX4_takesIn 42 = .ok (.if_icmp .ge 27, 3) := by decide +kernel
theorem dX4_takesIn_45 : decode cX4_takesIn 45 = .ok (.aload_n 0, 1) := by decide +kernel
theorem dX4_takesIn_46 : decode cX4_takesIn 46 = .ok (.getfield 7, 3) := by decide +kernel
theorem dX4_takesIn_49 : decode cX4_takesIn 49 = .ok (.iload_n 3, 1) := by decide +kernel
theorem dX4_takesIn_50 : decode cX4_takesIn 50 = .ok (.iaload, 1) := by decide +kernel
theorem dX4_takesIn_51 : decode cX4_takesIn 51 = .ok (.iconst 3, 1) := by decide +kernel
theorem dX4_takesIn_52 : decode cX4_takesIn 52 = .ok (.if_icmp .ne 11, 3) := by decide +kernel
theorem dX4_takesIn_55 : decode cX4_takesIn 55 = .ok (.aload_n 0, 1) := by decide +kernel
theorem dX4_takesIn_56 : decode cX4_takesIn 56 = .ok (.iload_n 3, 1) := by decide +kernel
theorem dX4_takesIn_57 : decode cX4_takesIn 57 = .ok (.iconst 1, 1) := by decide +kernel
theorem dX4_takesIn_58 : decode cX4_takesIn 58 = .ok (.invokevirtual 44, 3) := by decide +kernel
theorem dX4_takesIn_61 : decode cX4_takesIn 61 = .ok (.iload_n 3, 1) := by decide +kernel
theorem dX4_takesIn_62 : decode cX4_takesIn 62 = .ok (.ireturn, 1) := by decide +kernel
theorem dX4_takesIn_63 : decode cX4_takesIn 63 = .ok (.iinc 3 1, 3) := by decide +kernel
theorem dX4_takesIn_66 : decode cX4_takesIn 66 = .ok (.goto (-41), 3) := by decide +kernel
theorem dX4_takesIn_69 : decode cX4_takesIn 69 = .ok (.bipush (-3), 2) := by decide +kernel
theorem dX4_takesIn_71 : decode cX4_takesIn 71 = .ok (.ireturn, 1) := by decide +kernel
set_option maxRecDepth 20000 in
theorem ggX4_takeIn_X4_notes : GoodIn wsX4_takeIn wsX4_notes := goodIn_r _ [5, 6, 7, 8, 9, 4, 10, 40, 41, 42, 43, 44, 45, 46, 47] (by decide +kernel) (by decide +kernel)
set_option maxRecDepth 20000 in
theorem gX4_takeIn_X4_notes : GoodIn wsX4_takeIn (wsV RX4 55 RX4 yX4_notes wsX4_notes) := goodIn_app (goodIn_of _ (by decide +kernel)) ggX4_takeIn_X4_notes
set_option maxRecDepth 20000 in
theorem ggX4_takeIn_X4_takesIn : GoodIn wsX4_takeIn wsX4_takesIn := goodIn_r _ [14, 6, 15, 16, 17, 4, 18, 19, 20, 21, 22, 23, 24, 25, 26, 27, 28, 29, 30, 31, 32, 33, 40, 41, 42, 43, 44, 45, 46, 47] (by decide +kernel) (by decide +kernel)
set_option maxRecDepth 20000 in
theorem gX4_takeIn_X4_takesIn : GoodIn wsX4_takeIn (wsV RX4 90 RX4 yX4_takesIn wsX4_takesIn) := goodIn_app (goodIn_of _ (by decide +kernel)) ggX4_takeIn_X4_takesIn
set_option maxRecDepth 20000 in
theorem ggX4_takeIn_X4_ends : GoodIn wsX4_takeIn wsX4_ends := goodIn_r _ [37, 7, 6, 38, 39, 8, 9, 4, 10, 40, 41, 42, 43, 44, 45, 46, 47] (by decide +kernel) (by decide +kernel)
set_option maxRecDepth 20000 in
theorem gX4_takeIn_X4_ends : GoodIn wsX4_takeIn (wsV RX4 61 RX4 yX4_ends wsX4_ends) := goodIn_app (goodIn_of _ (by decide +kernel)) ggX4_takeIn_X4_ends
theorem dX4_takeIn_0 : decode cX4_takeIn 0 = .ok (.aload_n 0, 1) := by decide +kernel
theorem dX4_takeIn_1 : decode cX4_takeIn 1 = .ok (.invokevirtual 55, 3) := by decide +kernel
theorem dX4_takeIn_4 : decode cX4_takeIn 4 = .ok (.aload_n 0, 1) := by decide +kernel
theorem dX4_takeIn_5 : decode cX4_takeIn 5 = .ok (.aload_n 0, 1) := by decide +kernel
theorem dX4_takeIn_6 : decode cX4_takeIn 6 = .ok (.iload_n 1, 1) := by decide +kernel
theorem dX4_takeIn_7 : decode cX4_takeIn 7 = .ok (.invokevirtual 90, 3) := by decide +kernel
theorem dX4_takeIn_10 : decode cX4_takeIn 10 = .ok (.invokevirtual 61, 3) := by decide +kernel
theorem dX4_takeIn_13 : decode cX4_takeIn 13 = .ok (.ireturn, 1) := by decide +kernel
set_option maxRecDepth 20000 in
theorem ggX4_giveUp_X4_isBlock : GoodIn wsX4_giveUp wsX4_isBlock := goodIn_r _ [6, 1, 7, 8, 5, 9, 36, 37, 38, 39, 40, 41, 42, 43] (by decide +kernel) (by decide +kernel)
set_option maxRecDepth 20000 in
theorem gX4_giveUp_X4_isBlock : GoodIn wsX4_giveUp (wsV RX4 81 RX4 yX4_isBlock wsX4_isBlock) := goodIn_app (goodIn_of _ (by decide +kernel)) ggX4_giveUp_X4_isBlock
set_option maxRecDepth 20000 in
theorem ggX4_giveUp_X4_notes : GoodIn wsX4_giveUp wsX4_notes := goodIn_r _ [13, 1, 14, 15, 16, 5, 17, 36, 37, 38, 39, 40, 41, 42, 43] (by decide +kernel) (by decide +kernel)
set_option maxRecDepth 20000 in
theorem gX4_giveUp_X4_notes : GoodIn wsX4_giveUp (wsV RX4 55 RX4 yX4_notes wsX4_notes) := goodIn_app (goodIn_of _ (by decide +kernel)) ggX4_giveUp_X4_notes
set_option maxRecDepth 20000 in
theorem ggX4_giveUp_X4_becomes : GoodIn wsX4_giveUp wsX4_becomes := goodIn_r _ [21, 1, 22, 23, 24, 5, 25, 26, 27, 28, 29, 36, 37, 38, 39, 40, 41, 42, 43] (by decide +kernel) (by decide +kernel)
set_option maxRecDepth 20000 in
theorem gX4_giveUp_X4_becomes : GoodIn wsX4_giveUp (wsV RX4 44 RX4 yX4_becomes wsX4_becomes) := goodIn_app (goodIn_of _ (by decide +kernel)) ggX4_giveUp_X4_becomes
set_option maxRecDepth 20000 in
theorem ggX4_giveUp_X4_ends : GoodIn wsX4_giveUp wsX4_ends := goodIn_r _ [33, 14, 1, 34, 35, 15, 16, 5, 17, 36, 37, 38, 39, 40, 41, 42, 43] (by decide +kernel) (by decide +kernel)
set_option maxRecDepth 20000 in
theorem gX4_giveUp_X4_ends : GoodIn wsX4_giveUp (wsV RX4 61 RX4 yX4_ends wsX4_ends) := goodIn_app (goodIn_of _ (by decide +kernel)) ggX4_giveUp_X4_ends
theorem dX4_giveUp_0 : decode cX4_giveUp 0 = .ok (.aload_n 0, 1) := by decide +kernel
theorem dX4_giveUp_1 : decode cX4_giveUp 1 = .ok (.iload_n 1, 1) := by decide +kernel
theorem dX4_giveUp_2 : decode cX4_giveUp 2 = .ok (.invokevirtual 81, 3) := by decide +kernel
theorem dX4_giveUp_5 : decode cX4_giveUp 5 = .ok (.ifCond .ne 5, 3) := by decide +kernel
theorem dX4_giveUp_8 : decode cX4_giveUp 8 = .ok (.iconst (-1), 1) := by decide +kernel
theorem dX4_giveUp_9 : decode cX4_giveUp 9 = .ok (.ireturn, 1) := by decide +kernel
theorem dX4_giveUp_10 : decode cX4_giveUp 10 = .ok (.aload_n 0, 1) := by decide +kernel
theorem dX4_giveUp_11 : decode cX4_giveUp 11 = .ok (.invokevirtual 55, 3) := by decide +kernel
theorem dX4_giveUp_14 : decode cX4_giveUp 14 = .ok (.iconst 0, 1) := by decide +kernel
theorem dX4_giveUp_15 : decode cX4_giveUp 15 = .ok (.istore_n 2, 1) := by decide +kernel
theorem dX4_giveUp_16 : decode cX4_giveUp 16 = .ok (.aload_n 0, 1) := by decide +kernel
theorem dX4_giveUp_17 : decode cX4_giveUp 17 = .ok (.getfield 7, 3) := by decide +kernel
theorem dX4_giveUp_20 : decode cX4_giveUp 20 = .ok (.sipush 650, 3) := by decide +kernel
theorem dX4_giveUp_23 : decode cX4_giveUp 23 = .ok (.iconst 2, 1) := by decide +kernel
theorem dX4_giveUp_24 : decode cX4_giveUp 24 = .ok (.iload_n 1, 1) := by decide +kernel
theorem dX4_giveUp_25 : decode cX4_giveUp 25 = .ok (.imul, 1) := by decide +kernel
theorem dX4_giveUp_26 : decode cX4_giveUp 26 = .ok (.iadd, 1) := by decide +kernel
theorem dX4_giveUp_27 : decode cX4_giveUp 27 = .ok (.iaload, 1) := by decide +kernel
theorem dX4_giveUp_28 : decode cX4_giveUp 28 = .ok (.istore_n 3, 1) := by decide +kernel
theorem dX4_giveUp_29 : decode cX4_giveUp 29 = .ok (.iload_n 3, 1) := by decide +kernel
theorem dX4_giveUp_30 : decode cX4_giveUp 30 = .ok (.istore 4, 2) := by decide +kernel
theorem dX4_giveUp_32 : decode cX4_giveUp 32 = .ok (.iload 4, 2) := by decide +kernel
theorem dX4_giveUp_34 : decode cX4_giveUp 34 = .ok (.iload_n 3, 1) := by decide +kernel
theorem dX4_giveUp_35 : decode cX4_giveUp 35 = .ok (.aload_n 0, 1) := by decide +kernel
theorem dX4_giveUp_36 : decode cX4_giveUp 36 = .ok (.getfield 7, 3) := by decide +kernel
theorem dX4_giveUp_39 : decode cX4_giveUp 39 = .ok (.sipush 650, 3) := by decide +kernel
theorem dX4_giveUp_42 : decode cX4_giveUp 42 = .ok (.iconst 2, 1) := by decide +kernel
theorem dX4_giveUp_43 : decode cX4_giveUp 43 = .ok (.iload_n 1, 1) := by decide +kernel
theorem dX4_giveUp_44 : decode cX4_giveUp 44 = .ok (.imul, 1) := by decide +kernel
theorem dX4_giveUp_45 : decode cX4_giveUp 45 = .ok (.iadd, 1) := by decide +kernel
theorem dX4_giveUp_46 : decode cX4_giveUp 46 = .ok (.iconst 1, 1) := by decide +kernel
theorem dX4_giveUp_47 : decode cX4_giveUp 47 = .ok (.iadd, 1) := by decide +kernel
theorem dX4_giveUp_48 : decode cX4_giveUp 48 = .ok (.iaload, 1) := by decide +kernel
theorem dX4_giveUp_49 : decode cX4_giveUp 49 = .ok (.iadd, 1) := by decide +kernel
theorem dX4_giveUp_50 : decode cX4_giveUp 50 = .ok (.if_icmp .ge 42, 3) := by decide +kernel
theorem dX4_giveUp_53 : decode cX4_giveUp 53 = .ok (.aload_n 0, 1) := by decide +kernel
theorem dX4_giveUp_54 : decode cX4_giveUp 54 = .ok (.getfield 7, 3) := by decide +kernel
theorem dX4_giveUp_57 : decode cX4_giveUp 57 = .ok (.sipush 320, 3) := by decide +kernel
theorem dX4_giveUp_60 : decode cX4_giveUp 60 = .ok (.iload 4, 2) := by decide +kernel
theorem dX4_giveUp_62 : decode cX4_giveUp 62 = .ok (.iadd, 1) := by decide +kernel
theorem dX4_giveUp_63 : decode cX4_giveUp 63 = .ok (.iconst 0, 1) := by decide +kernel
theorem dX4_giveUp_64 : decode cX4_giveUp 64 = .ok (.iastore, 1) := by decide +kernel
theorem dX4_giveUp_65 : decode cX4_giveUp 65 = .ok (.aload_n 0, 1) := by decide +kernel
theorem dX4_giveUp_66 : decode cX4_giveUp 66 = .ok (.getfield 7, 3) := by decide +kernel
theorem dX4_giveUp_69 : decode cX4_giveUp 69 = .ok (.iload 4, 2) := by decide +kernel
theorem dX4_giveUp_71 : decode cX4_giveUp 71 = .ok (.iaload, 1) := by decide +kernel
theorem dX4_giveUp_72 : decode cX4_giveUp 72 = .ok (.iconst 3, 1) := by decide +kernel
theorem dX4_giveUp_73 : decode cX4_giveUp 73 = .ok (.if_icmp .ne 13, 3) := by decide +kernel
theorem dX4_giveUp_76 : decode cX4_giveUp 76 = .ok (.aload_n 0, 1) := by decide +kernel
theorem dX4_giveUp_77 : decode cX4_giveUp 77 = .ok (.iload 4, 2) := by decide +kernel
theorem dX4_giveUp_79 : decode cX4_giveUp 79 = .ok (.iconst 0, 1) := by decide +kernel
theorem dX4_giveUp_80 : decode cX4_giveUp 80 = .ok (.invokevirtual 44, 3) := by decide +kernel
theorem dX4_giveUp_83 : decode cX4_giveUp 83 = .ok (.iinc 2 1, 3) := by decide +kernel
theorem dX4_giveUp_86 : decode cX4_giveUp 86 = .ok (.iinc 4 1, 3) := by decide +kernel
theorem dX4_giveUp_89 : decode cX4_giveUp 89 = .ok (.goto (-57), 3) := by decide +kernel
theorem dX4_giveUp_92 : decode cX4_giveUp 92 = .ok (.aload_n 0, 1) := by decide +kernel
theorem dX4_giveUp_93 : decode cX4_giveUp 93 = .ok (.getfield 7, 3) := by decide +kernel
theorem dX4_giveUp_96 : decode cX4_giveUp 96 = .ok (.sipush 650, 3) := by decide +kernel
theorem dX4_giveUp_99 : decode cX4_giveUp 99 = .ok (.iconst 2, 1) := by decide +kernel
theorem dX4_giveUp_100 : decode cX4_giveUp 100 = .ok (.iload_n 1, 1) := by decide +kernel
theorem dX4_giveUp_101 : decode cX4_giveUp 101 = .ok (.imul, 1) := by decide +kernel
theorem dX4_giveUp_102 : decode cX4_giveUp 102 = .ok (.iadd, 1) := by decide +kernel
theorem dX4_giveUp_103 : decode cX4_giveUp 103 = .ok (.iconst 0, 1) := by decide +kernel
theorem dX4_giveUp_104 : decode cX4_giveUp 104 = .ok (.iastore, 1) := by decide +kernel
theorem dX4_giveUp_105 : decode cX4_giveUp 105 = .ok (.aload_n 0, 1) := by decide +kernel
theorem dX4_giveUp_106 : decode cX4_giveUp 106 = .ok (.getfield 7, 3) := by decide +kernel
theorem dX4_giveUp_109 : decode cX4_giveUp 109 = .ok (.sipush 650, 3) := by decide +kernel
theorem dX4_giveUp_112 : decode cX4_giveUp 112 = .ok (.iconst 2, 1) := by decide +kernel
theorem dX4_giveUp_113 : decode cX4_giveUp 113 = .ok (.iload_n 1, 1) := by decide +kernel
theorem dX4_giveUp_114 : decode cX4_giveUp 114 = .ok (.imul, 1) := by decide +kernel
theorem dX4_giveUp_115 : decode cX4_giveUp 115 = .ok (.iadd, 1) := by decide +kernel
theorem dX4_giveUp_116 : decode cX4_giveUp 116 = .ok (.iconst 1, 1) := by decide +kernel
theorem dX4_giveUp_117 : decode cX4_giveUp 117 = .ok (.iadd, 1) := by decide +kernel
theorem dX4_giveUp_118 : decode cX4_giveUp 118 = .ok (.iconst 0, 1) := by decide +kernel
theorem dX4_giveUp_119 : decode cX4_giveUp 119 = .ok (.iastore, 1) := by decide +kernel
theorem dX4_giveUp_120 : decode cX4_giveUp 120 = .ok (.aload_n 0, 1) := by decide +kernel
theorem dX4_giveUp_121 : decode cX4_giveUp 121 = .ok (.iload_n 2, 1) := by decide +kernel
theorem dX4_giveUp_122 : decode cX4_giveUp 122 = .ok (.invokevirtual 61, 3) := by decide +kernel
theorem dX4_giveUp_125 : decode cX4_giveUp 125 = .ok (.ireturn, 1) := by decide +kernel
set_option maxRecDepth 20000 in
theorem ggX4_isWord_X4_in : GoodIn wsX4_isWord wsX4_in := goodIn_r _ [4] (by decide +kernel) (by decide +kernel)
set_option maxRecDepth 20000 in
theorem gX4_isWord_X4_in : GoodIn wsX4_isWord (va_wsS RX4 64 yX4_in wsX4_in) := goodIn_app (goodIn_of _ (by decide +kernel)) ggX4_isWord_X4_in
theorem dX4_isWord_0 : decode cX4_isWord 0 = .ok (.iload_n 0, 1) := by decide +kernel
theorem dX4_isWord_1 : decode cX4_isWord 1 = .ok (.iconst 0, 1) := by decide +kernel
theorem dX4_isWord_2 : decode cX4_isWord 2 = .ok (.bipush 9, 2) := by decide +kernel
theorem dX4_isWord_4 : decode cX4_isWord 4 = .ok (.invokestatic 64, 3) := by decide +kernel
theorem dX4_isWord_7 : decode cX4_isWord 7 = .ok (.ireturn, 1) := by decide +kernel
set_option maxRecDepth 20000 in
theorem ggX4_damages_X4_isWord : GoodIn wsX4_damages wsX4_isWord := goodIn_r _ [5, 6, 7, 4, 8] (by decide +kernel) (by decide +kernel)
set_option maxRecDepth 20000 in
theorem gX4_damages_X4_isWord : GoodIn wsX4_damages (va_wsS RX4 93 yX4_isWord wsX4_isWord) := goodIn_app (goodIn_of _ (by decide +kernel)) ggX4_damages_X4_isWord
theorem dX4_damages_0 : decode cX4_damages 0 = .ok (.iload_n 1, 1) := by decide +kernel
theorem dX4_damages_1 : decode cX4_damages 1 = .ok (.invokestatic 93, 3) := by decide +kernel
theorem dX4_damages_4 : decode cX4_damages 4 = .ok (.ifCond .ne 5, 3) := by decide +kernel
theorem dX4_damages_7 : decode cX4_damages 7 = .ok (.iconst (-1), 1) := by decide +kernel
theorem dX4_damages_8 : decode cX4_damages 8 = .ok (.ireturn, 1) := by decide +kernel
theorem dX4_damages_9 : decode cX4_damages 9 = .ok (.aload_n 0, 1) := by decide +kernel
theorem dX4_damages_10 : decode cX4_damages 10 = .ok (.getfield 7, 3) := by decide +kernel
theorem dX4_damages_13 : decode cX4_damages 13 = .ok (.sipush 640, 3) := by decide +kernel
theorem dX4_damages_16 : decode cX4_damages 16 = .ok (.iload_n 1, 1) := by decide +kernel
theorem dX4_damages_17 : decode cX4_damages 17 = .ok (.iadd, 1) := by decide +kernel
theorem dX4_damages_18 : decode cX4_damages 18 = .ok (.iconst 1, 1) := by decide +kernel
theorem dX4_damages_19 : decode cX4_damages 19 = .ok (.aload_n 0, 1) := by decide +kernel
theorem dX4_damages_20 : decode cX4_damages 20 = .ok (.getfield 7, 3) := by decide +kernel
theorem dX4_damages_23 : decode cX4_damages 23 = .ok (.sipush 640, 3) := by decide +kernel
theorem dX4_damages_26 : decode cX4_damages 26 = .ok (.iload_n 1, 1) := by decide +kernel
theorem dX4_damages_27 : decode cX4_damages 27 = .ok (.iadd, 1) := by decide +kernel
theorem dX4_damages_28 : decode cX4_damages 28 = .ok (.iaload, 1) := by decide +kernel
theorem dX4_damages_29 : decode cX4_damages 29 = .ok (.isub, 1) := by decide +kernel
theorem dX4_damages_30 : decode cX4_damages 30 = .ok (.iastore, 1) := by decide +kernel
theorem dX4_damages_31 : decode cX4_damages 31 = .ok (.aload_n 0, 1) := by decide +kernel
theorem dX4_damages_32 : decode cX4_damages 32 = .ok (.getfield 7, 3) := by decide +kernel
theorem dX4_damages_35 : decode cX4_damages 35 = .ok (.sipush 640, 3) := by decide +kernel
theorem dX4_damages_38 : decode cX4_damages 38 = .ok (.iload_n 1, 1) := by decide +kernel
theorem dX4_damages_39 : decode cX4_damages 39 = .ok (.iadd, 1) := by decide +kernel
theorem dX4_damages_40 : decode cX4_damages 40 = .ok (.iaload, 1) := by decide +kernel
theorem dX4_damages_41 : decode cX4_damages 41 = .ok (.ireturn, 1) := by decide +kernel
set_option maxRecDepth 20000 in
theorem ggX4_damage_X4_notes : GoodIn wsX4_damage wsX4_notes := goodIn_r _ [5, 6, 7, 8, 9, 4, 10, 27, 28, 29, 30, 31, 32, 33, 34] (by decide +kernel) (by decide +kernel)
set_option maxRecDepth 20000 in
theorem gX4_damage_X4_notes : GoodIn wsX4_damage (wsV RX4 55 RX4 yX4_notes wsX4_notes) := goodIn_app (goodIn_of _ (by decide +kernel)) ggX4_damage_X4_notes
set_option maxRecDepth 20000 in
theorem ggX4_damage_X4_damages : GoodIn wsX4_damage wsX4_damages := goodIn_r _ [14, 6, 15, 16, 4, 17, 18, 19, 20, 27, 28, 29, 30, 31, 32, 33, 34] (by decide +kernel) (by decide +kernel)
set_option maxRecDepth 20000 in
theorem gX4_damage_X4_damages : GoodIn wsX4_damage (wsV RX4 96 RX4 yX4_damages wsX4_damages) := goodIn_app (goodIn_of _ (by decide +kernel)) ggX4_damage_X4_damages
set_option maxRecDepth 20000 in
theorem ggX4_damage_X4_ends : GoodIn wsX4_damage wsX4_ends := goodIn_r _ [24, 7, 6, 25, 26, 8, 9, 4, 10, 27, 28, 29, 30, 31, 32, 33, 34] (by decide +kernel) (by decide +kernel)
set_option maxRecDepth 20000 in
theorem gX4_damage_X4_ends : GoodIn wsX4_damage (wsV RX4 61 RX4 yX4_ends wsX4_ends) := goodIn_app (goodIn_of _ (by decide +kernel)) ggX4_damage_X4_ends
theorem dX4_damage_0 : decode cX4_damage 0 = .ok (.aload_n 0, 1) := by decide +kernel
theorem dX4_damage_1 : decode cX4_damage 1 = .ok (.invokevirtual 55, 3) := by decide +kernel
theorem dX4_damage_4 : decode cX4_damage 4 = .ok (.aload_n 0, 1) := by decide +kernel
theorem dX4_damage_5 : decode cX4_damage 5 = .ok (.aload_n 0, 1) := by decide +kernel
theorem dX4_damage_6 : decode cX4_damage 6 = .ok (.iload_n 1, 1) := by decide +kernel
theorem dX4_damage_7 : decode cX4_damage 7 = .ok (.invokevirtual 96, 3) := by decide +kernel
theorem dX4_damage_10 : decode cX4_damage 10 = .ok (.invokevirtual 61, 3) := by decide +kernel
theorem dX4_damage_13 : decode cX4_damage 13 = .ok (.ireturn, 1) := by decide +kernel
set_option maxRecDepth 20000 in
theorem ggX4_repairs_X4_right : GoodIn wsX4_repairs wsX4_right := goodIn_r _ [6, 7, 8, 9, 5, 10, 1, 11, 12, 13, 14, 15, 16, 17, 18] (by decide +kernel) (by decide +kernel)
set_option maxRecDepth 20000 in
theorem gX4_repairs_X4_right : GoodIn wsX4_repairs (wsV RX4 37 RX4 yX4_right wsX4_right) := goodIn_app (goodIn_of _ (by decide +kernel)) ggX4_repairs_X4_right
theorem dX4_repairs_0 : decode cX4_repairs 0 = .ok (.iconst 0, 1) := by decide +kernel
theorem dX4_repairs_1 : decode cX4_repairs 1 = .ok (.istore_n 1, 1) := by decide +kernel
theorem dX4_repairs_2 : decode cX4_repairs 2 = .ok (.iconst 0, 1) := by decide +kernel
theorem dX4_repairs_3 : decode cX4_repairs 3 = .ok (.istore_n 2, 1) := by decide +kernel
theorem dX4_repairs_4 : decode cX4_repairs 4 = .ok (.iload_n 2, 1) := by decide +kernel
theorem dX4_repairs_5 : decode cX4_repairs 5 = .ok (.bipush 10, 2) := by decide +kernel
theorem dX4_repairs_7 : decode cX4_repairs 7 = .ok (.if_icmp .ge 50, 3) := by decide +kernel
theorem dX4_repairs_10 : decode cX4_repairs 10 = .ok (.iload_n 1, 1) := by decide +kernel
theorem dX4_repairs_11 : decode cX4_repairs 11 = .ok (.aload_n 0, 1) := by decide +kernel
theorem dX4_repairs_12 : decode cX4_repairs 12 = .ok (.getfield 7, 3) := by decide +kernel
theorem dX4_repairs_15 : decode cX4_repairs 15 = .ok (.sipush 640, 3) := by decide +kernel
theorem dX4_repairs_18 : decode cX4_repairs 18 = .ok (.iload_n 2, 1) := by decide +kernel
theorem dX4_repairs_19 : decode cX4_repairs 19 = .ok (.iadd, 1) := by decide +kernel
theorem dX4_repairs_20 : decode cX4_repairs 20 = .ok (.iaload, 1) := by decide +kernel
theorem dX4_repairs_21 : decode cX4_repairs 21 = .ok (.aload_n 0, 1) := by decide +kernel
theorem dX4_repairs_22 : decode cX4_repairs 22 = .ok (.iload_n 2, 1) := by decide +kernel
theorem dX4_repairs_23 : decode cX4_repairs 23 = .ok (.invokevirtual 37, 3) := by decide +kernel
theorem dX4_repairs_26 : decode cX4_repairs 26 = .ok (.if_icmp .eq 7, 3) := by decide +kernel
theorem dX4_repairs_29 : decode cX4_repairs 29 = .ok (.iconst 1, 1) := by decide +kernel
theorem dX4_repairs_30 : decode cX4_repairs 30 = .ok (.goto 4, 3) := by decide +kernel
theorem dX4_repairs_33 : decode cX4_repairs 33 = .ok (.iconst 0, 1) := by decide +kernel
theorem dX4_repairs_34 : decode cX4_repairs 34 = .ok (.iadd, 1) := by decide +kernel
theorem dX4_repairs_35 : decode cX4_repairs 35 = .ok (.istore_n 1, 1) := by decide +kernel
theorem dX4_repairs_36 : decode cX4_repairs 36 = .ok (.aload_n 0, 1) := by decide +kernel
theorem dX4_repairs_37 : decode cX4_repairs 37 = .ok (.getfield 7, 3) := by decide +kernel
theorem dX4_repairs_40 : decode cX4_repairs 40 = .ok (.sipush 640, 3) := by decide +kernel
theorem dX4_repairs_43 : decode cX4_repairs 43 = .ok (.iload_n 2, 1) := by decide +kernel
theorem dX4_repairs_44 : decode cX4_repairs 44 = .ok (.iadd, 1) := by decide +kernel
theorem dX4_repairs_45 : decode cX4_repairs 45 = .ok (.aload_n 0, 1) := by decide +kernel
theorem dX4_repairs_46 : decode cX4_repairs 46 = .ok (.iload_n 2, 1) := by decide +kernel
theorem dX4_repairs_47 : decode cX4_repairs 47 = .ok (.invokevirtual 37, 3) := by decide +kernel
theorem dX4_repairs_50 : decode cX4_repairs 50 = .ok (.iastore, 1) := by decide +kernel
theorem dX4_repairs_51 : decode cX4_repairs 51 = .ok (.iinc 2 1, 3) := by decide +kernel
theorem dX4_repairs_54 : decode cX4_repairs 54 = .ok (.goto (-50), 3) := by decide +kernel
theorem dX4_repairs_57 : decode cX4_repairs 57 = .ok (.iload_n 1, 1) := by decide +kernel
theorem dX4_repairs_58 : decode cX4_repairs 58 = .ok (.ireturn, 1) := by decide +kernel
set_option maxRecDepth 20000 in
theorem ggX4_repair_X4_notes : GoodIn wsX4_repair wsX4_notes := goodIn_r _ [5, 6, 7, 8, 9, 4, 10, 29, 30, 31, 32, 33, 34, 35, 36] (by decide +kernel) (by decide +kernel)
set_option maxRecDepth 20000 in
theorem gX4_repair_X4_notes : GoodIn wsX4_repair (wsV RX4 55 RX4 yX4_notes wsX4_notes) := goodIn_app (goodIn_of _ (by decide +kernel)) ggX4_repair_X4_notes
set_option maxRecDepth 20000 in
theorem ggX4_repair_X4_repairs : GoodIn wsX4_repair wsX4_repairs := goodIn_r _ [14, 6, 15, 16, 17, 4, 18, 19, 20, 21, 22, 29, 30, 31, 32, 33, 34, 35, 36] (by decide +kernel) (by decide +kernel)
set_option maxRecDepth 20000 in
theorem gX4_repair_X4_repairs : GoodIn wsX4_repair (wsV RX4 99 RX4 yX4_repairs wsX4_repairs) := goodIn_app (goodIn_of _ (by decide +kernel)) ggX4_repair_X4_repairs
set_option maxRecDepth 20000 in
theorem ggX4_repair_X4_ends : GoodIn wsX4_repair wsX4_ends := goodIn_r _ [26, 7, 6, 27, 28, 8, 9, 4, 10, 29, 30, 31, 32, 33, 34, 35, 36] (by decide +kernel) (by decide +kernel)
set_option maxRecDepth 20000 in
theorem gX4_repair_X4_ends : GoodIn wsX4_repair (wsV RX4 61 RX4 yX4_ends wsX4_ends) := goodIn_app (goodIn_of _ (by decide +kernel)) ggX4_repair_X4_ends
theorem dX4_repair_0 : decode cX4_repair 0 = .ok (.aload_n 0, 1) := by decide +kernel
theorem dX4_repair_1 : decode cX4_repair 1 = .ok (.invokevirtual 55, 3) := by decide +kernel
theorem dX4_repair_4 : decode cX4_repair 4 = .ok (.aload_n 0, 1) := by decide +kernel
theorem dX4_repair_5 : decode cX4_repair 5 = .ok (.aload_n 0, 1) := by decide +kernel
theorem dX4_repair_6 : decode cX4_repair 6 = .ok (.invokevirtual 99, 3) := by decide +kernel
theorem dX4_repair_9 : decode cX4_repair 9 = .ok (.invokevirtual 61, 3) := by decide +kernel
theorem dX4_repair_12 : decode cX4_repair 12 = .ok (.ireturn, 1) := by decide +kernel
set_option maxRecDepth 20000 in
theorem ggX4_undo_X4_copies : GoodIn wsX4_undo wsX4_copies := goodIn_r _ [7] (by decide +kernel) (by decide +kernel)
set_option maxRecDepth 20000 in
theorem gX4_undo_X4_copies : GoodIn wsX4_undo (va_wsS RX4 25 yX4_copies wsX4_copies) := goodIn_app (goodIn_of _ (by decide +kernel)) ggX4_undo_X4_copies
theorem dX4_undo_0 : decode cX4_undo 0 = .ok (.aload_n 0, 1) := by decide +kernel
theorem dX4_undo_1 : decode cX4_undo 1 = .ok (.getfield 29, 3) := by decide +kernel
theorem dX4_undo_4 : decode cX4_undo 4 = .ok (.ifCond .ne 6, 3) := by decide +kernel
theorem dX4_undo_7 : decode cX4_undo 7 = .ok (.bipush (-2), 2) := by decide +kernel
theorem dX4_undo_9 : decode cX4_undo 9 = .ok (.ireturn, 1) := by decide +kernel
theorem dX4_undo_10 : decode cX4_undo 10 = .ok (.aload_n 0, 1) := by decide +kernel
theorem dX4_undo_11 : decode cX4_undo 11 = .ok (.dup, 1) := by decide +kernel
theorem dX4_undo_12 : decode cX4_undo 12 = .ok (.getfield 29, 3) := by decide +kernel
theorem dX4_undo_15 : decode cX4_undo 15 = .ok (.iconst 1, 1) := by decide +kernel
theorem dX4_undo_16 : decode cX4_undo 16 = .ok (.isub, 1) := by decide +kernel
theorem dX4_undo_17 : decode cX4_undo 17 = .ok (.putfield 29, 3) := by decide +kernel
theorem dX4_undo_20 : decode cX4_undo 20 = .ok (.aload_n 0, 1) := by decide +kernel
theorem dX4_undo_21 : decode cX4_undo 21 = .ok (.getfield 13, 3) := by decide +kernel
theorem dX4_undo_24 : decode cX4_undo 24 = .ok (.aload_n 0, 1) := by decide +kernel
theorem dX4_undo_25 : decode cX4_undo 25 = .ok (.getfield 29, 3) := by decide +kernel
theorem dX4_undo_28 : decode cX4_undo 28 = .ok (.sipush 667, 3) := by decide +kernel
theorem dX4_undo_31 : decode cX4_undo 31 = .ok (.imul, 1) := by decide +kernel
theorem dX4_undo_32 : decode cX4_undo 32 = .ok (.aload_n 0, 1) := by decide +kernel
theorem dX4_undo_33 : decode cX4_undo 33 = .ok (.getfield 7, 3) := by decide +kernel
theorem dX4_undo_36 : decode cX4_undo 36 = .ok (.iconst 0, 1) := by decide +kernel
theorem dX4_undo_37 : decode cX4_undo 37 = .ok (.invokestatic 25, 3) := by decide +kernel
theorem dX4_undo_40 : decode cX4_undo 40 = .ok (.aload_n 0, 1) := by decide +kernel
theorem dX4_undo_41 : decode cX4_undo 41 = .ok (.getfield 29, 3) := by decide +kernel
theorem dX4_undo_44 : decode cX4_undo 44 = .ok (.ireturn, 1) := by decide +kernel
set_option maxRecDepth 20000 in
theorem ggX4_append_X4_in : GoodIn wsX4_append wsX4_in := goodIn_r _ [6] (by decide +kernel) (by decide +kernel)
set_option maxRecDepth 20000 in
theorem gX4_append_X4_in : GoodIn wsX4_append (va_wsS RX4 64 yX4_in wsX4_in) := goodIn_app (goodIn_of _ (by decide +kernel)) ggX4_append_X4_in
theorem dX4_append_0 : decode cX4_append 0 = .ok (.iload_n 1, 1) := by decide +kernel
theorem dX4_append_1 : decode cX4_append 1 = .ok (.iconst 1, 1) := by decide +kernel
theorem dX4_append_2 : decode cX4_append 2 = .ok (.sipush 255, 3) := by decide +kernel
theorem dX4_append_5 : decode cX4_append 5 = .ok (.invokestatic 64, 3) := by decide +kernel
theorem dX4_append_8 : decode cX4_append 8 = .ok (.ifCond .ne 5, 3) := by decide +kernel
theorem dX4_append_11 : decode cX4_append 11 = .ok (.iconst (-1), 1) := by decide +kernel
theorem dX4_append_12 : decode cX4_append 12 = .ok (.ireturn, 1) := by decide +kernel
theorem dX4_append_13 : decode cX4_append 13 = .ok (.aload_n 0, 1) := by decide +kernel
theorem dX4_append_14 : decode cX4_append 14 = .ok (.getfield 102, 3) := by decide +kernel
theorem dX4_append_17 : decode cX4_append 17 = .ok (.bipush 80, 2) := by decide +kernel
theorem dX4_append_19 : decode cX4_append 19 = .ok (.if_icmp .ne 6, 3) := by decide +kernel
theorem dX4_append_22 : decode cX4_append 22 = .ok (.bipush (-3), 2) := by decide +kernel
theorem dX4_append_24 : decode cX4_append 24 = .ok (.ireturn, 1) := by decide +kernel
theorem dX4_append_25 : decode cX4_append 25 = .ok (.aload_n 0, 1) := by decide +kernel
theorem dX4_append_26 : decode cX4_append 26 = .ok (.getfield 22, 3) := by decide +kernel
theorem dX4_append_29 : decode cX4_append 29 = .ok (.aload_n 0, 1) := by decide +kernel
theorem dX4_append_30 : decode cX4_append 30 = .ok (.getfield 102, 3) := by decide +kernel
theorem dX4_append_33 : decode cX4_append 33 = .ok (.iload_n 1, 1) := by decide +kernel
theorem dX4_append_34 : decode cX4_append 34 = .ok (.iastore, 1) := by decide +kernel
theorem dX4_append_35 : decode cX4_append 35 = .ok (.aload_n 0, 1) := by decide +kernel
theorem dX4_append_36 : decode cX4_append 36 = .ok (.dup, 1) := by decide +kernel
theorem dX4_append_37 : decode cX4_append 37 = .ok (.getfield 102, 3) := by decide +kernel
theorem dX4_append_40 : decode cX4_append 40 = .ok (.iconst 1, 1) := by decide +kernel
theorem dX4_append_41 : decode cX4_append 41 = .ok (.iadd, 1) := by decide +kernel
theorem dX4_append_42 : decode cX4_append 42 = .ok (.putfield 102, 3) := by decide +kernel
theorem dX4_append_45 : decode cX4_append 45 = .ok (.aload_n 0, 1) := by decide +kernel
theorem dX4_append_46 : decode cX4_append 46 = .ok (.getfield 102, 3) := by decide +kernel
theorem dX4_append_49 : decode cX4_append 49 = .ok (.ireturn, 1) := by decide +kernel
theorem dX4_clearText_0 : decode cX4_clearText 0 = .ok (.aload_n 0, 1) := by decide +kernel
theorem dX4_clearText_1 : decode cX4_clearText 1 = .ok (.getfield 102, 3) := by decide +kernel
theorem dX4_clearText_4 : decode cX4_clearText 4 = .ok (.istore_n 1, 1) := by decide +kernel
theorem dX4_clearText_5 : decode cX4_clearText 5 = .ok (.aload_n 0, 1) := by decide +kernel
theorem dX4_clearText_6 : decode cX4_clearText 6 = .ok (.iconst 0, 1) := by decide +kernel
theorem dX4_clearText_7 : decode cX4_clearText 7 = .ok (.putfield 102, 3) := by decide +kernel
theorem dX4_clearText_10 : decode cX4_clearText 10 = .ok (.iload_n 1, 1) := by decide +kernel
theorem dX4_clearText_11 : decode cX4_clearText 11 = .ok (.ireturn, 1) := by decide +kernel
theorem dX4_signAt_0 : decode cX4_signAt 0 = .ok (.iload_n 1, 1) := by decide +kernel
theorem dX4_signAt_1 : decode cX4_signAt 1 = .ok (.aload_n 0, 1) := by decide +kernel
theorem dX4_signAt_2 : decode cX4_signAt 2 = .ok (.getfield 102, 3) := by decide +kernel
theorem dX4_signAt_5 : decode cX4_signAt 5 = .ok (.if_icmp .ge 12, 3) := by decide +kernel
theorem dX4_signAt_8 : decode cX4_signAt 8 = .ok (.aload_n 0, 1) := by decide +kernel
theorem dX4_signAt_9 : decode cX4_signAt 9 = .ok (.getfield 22, 3) := by decide +kernel
theorem dX4_signAt_12 : decode cX4_signAt 12 = .ok (.iload_n 1, 1) := by decide +kernel
theorem dX4_signAt_13 : decode cX4_signAt 13 = .ok (.iaload, 1) := by decide +kernel
theorem dX4_signAt_14 : decode cX4_signAt 14 = .ok (.goto 4, 3) := by decide +kernel
theorem dX4_signAt_17 : decode cX4_signAt 17 = .ok (.iconst 0, 1) := by decide +kernel
theorem dX4_signAt_18 : decode cX4_signAt 18 = .ok (.ireturn, 1) := by decide +kernel
set_option maxRecDepth 20000 in
theorem ggX4_isDigit_X4_signAt : GoodIn wsX4_isDigit wsX4_signAt := goodIn_r _ [6, 7, 8, 12, 13, 14, 15, 16, 17, 18, 19] (by decide +kernel) (by decide +kernel)
set_option maxRecDepth 20000 in
theorem gX4_isDigit_X4_signAt : GoodIn wsX4_isDigit (wsV RX4 108 RX4 yX4_signAt wsX4_signAt) := goodIn_app (goodIn_of _ (by decide +kernel)) ggX4_isDigit_X4_signAt
set_option maxRecDepth 20000 in
theorem ggX4_isDigit_X4_in : GoodIn wsX4_isDigit wsX4_in := goodIn_r _ [11] (by decide +kernel) (by decide +kernel)
set_option maxRecDepth 20000 in
theorem gX4_isDigit_X4_in : GoodIn wsX4_isDigit (va_wsS RX4 64 yX4_in wsX4_in) := goodIn_app (goodIn_of _ (by decide +kernel)) ggX4_isDigit_X4_in
theorem dX4_isDigit_0 : decode cX4_isDigit 0 = .ok (.aload_n 0, 1) := by decide +kernel
theorem dX4_isDigit_1 : decode cX4_isDigit 1 = .ok (.aload_n 0, 1) := by decide +kernel
theorem dX4_isDigit_2 : decode cX4_isDigit 2 = .ok (.getfield 105, 3) := by decide +kernel
theorem dX4_isDigit_5 : decode cX4_isDigit 5 = .ok (.invokevirtual 108, 3) := by decide +kernel
theorem dX4_isDigit_8 : decode cX4_isDigit 8 = .ok (.bipush 48, 2) := by decide +kernel
theorem dX4_isDigit_10 : decode cX4_isDigit 10 = .ok (.bipush 57, 2) := by decide +kernel
theorem dX4_isDigit_12 : decode cX4_isDigit 12 = .ok (.invokestatic 64, 3) := by decide +kernel
theorem dX4_isDigit_15 : decode cX4_isDigit 15 = .ok (.ireturn, 1) := by decide +kernel
set_option maxRecDepth 20000 in
theorem ggX4_number_X4_signAt : GoodIn wsX4_number wsX4_signAt := goodIn_r _ [6, 7, 8, 16, 17, 18, 19, 20, 21, 22, 23] (by decide +kernel) (by decide +kernel)
set_option maxRecDepth 20000 in
theorem gX4_number_X4_signAt : GoodIn wsX4_number (wsV RX4 108 RX4 yX4_signAt wsX4_signAt) := goodIn_app (goodIn_of _ (by decide +kernel)) ggX4_number_X4_signAt
set_option maxRecDepth 20000 in
theorem ggX4_number_X4_isDigit : GoodIn wsX4_number wsX4_isDigit := goodIn_r _ [12, 1, 2, 3, 4, 5, 6, 7, 8, 13, 14, 15, 16, 17, 18, 19, 20, 21, 22, 23] (by decide +kernel) (by decide +kernel)
set_option maxRecDepth 20000 in
theorem gX4_number_X4_isDigit : GoodIn wsX4_number (wsV RX4 111 RX4 yX4_isDigit wsX4_isDigit) := goodIn_app (goodIn_of _ (by decide +kernel)) ggX4_number_X4_isDigit
theorem dX4_number_0 : decode cX4_number 0 = .ok (.aload_n 0, 1) := by decide +kernel
theorem dX4_number_1 : decode cX4_number 1 = .ok (.aload_n 0, 1) := by decide +kernel
theorem dX4_number_2 : decode cX4_number 2 = .ok (.getfield 105, 3) := by decide +kernel
theorem dX4_number_5 : decode cX4_number 5 = .ok (.invokevirtual 108, 3) := by decide +kernel
theorem dX4_number_8 : decode cX4_number 8 = .ok (.bipush 48, 2) := by decide +kernel
theorem dX4_number_10 : decode cX4_number 10 = .ok (.isub, 1) := by decide +kernel
theorem dX4_number_11 : decode cX4_number 11 = .ok (.istore_n 1, 1) := by decide +kernel
theorem dX4_number_12 : decode cX4_number 12 = .ok (.aload_n 0, 1) := by decide +kernel
theorem dX4_number_13 : decode cX4_number 13 = .ok (.dup, 1) := by decide +kernel
theorem dX4_number_14 : decode cX4_number 14 = .ok (.getfield 105, 3) := by decide +kernel
theorem dX4_number_17 : decode cX4_number 17 = .ok (.iconst 1, 1) := by decide +kernel
theorem dX4_number_18 : decode cX4_number 18 = .ok (.iadd, 1) := by decide +kernel
theorem dX4_number_19 : decode cX4_number 19 = .ok (.putfield 105, 3) := by decide +kernel
theorem dX4_number_22 : decode cX4_number 22 = .ok (.iconst 0, 1) := by decide +kernel
theorem dX4_number_23 : decode cX4_number 23 = .ok (.istore_n 2, 1) := by decide +kernel
theorem dX4_number_24 : decode cX4_number 24 = .ok (.iload_n 2, 1) := by decide +kernel
theorem dX4_number_25 : decode cX4_number 25 = .ok (.iconst 2, 1) := by decide +kernel
theorem dX4_number_26 : decode cX4_number 26 = .ok (.if_icmp .ge 47, 3) := by decide +kernel
theorem dX4_number_29 : decode cX4_number 29 = .ok (.iload_n 1, 1) := by decide +kernel
theorem dX4_number_30 : decode cX4_number 30 = .ok (.ifCond .le 43, 3) := by decide +kernel
theorem dX4_number_33 : decode cX4_number 33 = .ok (.aload_n 0, 1) := by decide +kernel
theorem dX4_number_34 : decode cX4_number 34 = .ok (.invokevirtual 111, 3) := by decide +kernel
theorem dX4_number_37 : decode cX4_number 37 = .ok (.ifCond .eq 36, 3) := by decide +kernel
theorem dX4_number_40 : decode cX4_number 40 = .ok (.bipush 10, 2) := by decide +kernel
theorem dX4_number_42 : decode cX4_number 42 = .ok (.iload_n 1, 1) := by decide +kernel
theorem dX4_number_43 : decode cX4_number 43 = .ok (.imul, 1) := by decide +kernel
theorem dX4_number_44 : decode cX4_number 44 = .ok (.aload_n 0, 1) := by decide +kernel
theorem dX4_number_45 : decode cX4_number 45 = .ok (.aload_n 0, 1) := by decide +kernel
theorem dX4_number_46 : decode cX4_number 46 = .ok (.getfield 105, 3) := by decide +kernel
theorem dX4_number_49 : decode cX4_number 49 = .ok (.invokevirtual 108, 3) := by decide +kernel
theorem dX4_number_52 : decode cX4_number 52 = .ok (.iadd, 1) := by decide +kernel
theorem dX4_number_53 : decode cX4_number 53 = .ok (.bipush 48, 2) := by decide +kernel
theorem dX4_number_55 : decode cX4_number 55 = .ok (.isub, 1) := by decide +kernel
theorem dX4_number_56 : decode cX4_number 56 = .ok (.istore_n 1, 1) := by decide +kernel
theorem dX4_number_57 : decode cX4_number 57 = .ok (.aload_n 0, 1) := by decide +kernel
theorem dX4_number_58 : decode cX4_number 58 = .ok (.dup, 1) := by decide +kernel
theorem dX4_number_59 : decode cX4_number 59 = .ok (.getfield 105, 3) := by decide +kernel
theorem dX4_number_62 : decode cX4_number 62 = .ok (.iconst 1, 1) := by decide +kernel
theorem dX4_number_63 : decode cX4_number 63 = .ok (.iadd, 1) := by decide +kernel
theorem dX4_number_64 : decode cX4_number 64 = .ok (.putfield 105, 3) := by decide +kernel
theorem dX4_number_67 : decode cX4_number 67 = .ok (.iinc 2 1, 3) := by decide +kernel
theorem dX4_number_70 : decode cX4_number 70 = .ok (.goto (-46), 3) := by decide +kernel
theorem dX4_number_73 : decode cX4_number 73 = .ok (.iload_n 1, 1) := by decide +kernel
theorem dX4_number_74 : decode cX4_number 74 = .ok (.ireturn, 1) := by decide +kernel
set_option maxRecDepth 20000 in
theorem ggX4_takesMany_X4_in : GoodIn wsX4_takesMany wsX4_in := goodIn_r _ [4] (by decide +kernel) (by decide +kernel)
set_option maxRecDepth 20000 in
theorem gX4_takesMany_X4_in : GoodIn wsX4_takesMany (va_wsS RX4 64 yX4_in wsX4_in) := goodIn_app (goodIn_of _ (by decide +kernel)) ggX4_takesMany_X4_in
set_option maxRecDepth 20000 in
theorem ggX4_takesMany_X4_takes1 : GoodIn wsX4_takesMany wsX4_takes1 := goodIn_r _ [8, 9, 10, 11, 3, 12, 13, 14, 15, 16, 17, 18, 19, 20, 21, 22, 23, 24, 25, 26, 27, 28, 29, 30, 31, 32, 33, 34, 35, 36, 37, 38, 39, 40, 41] (by decide +kernel) (by decide +kernel)
set_option maxRecDepth 20000 in
theorem gX4_takesMany_X4_takes1 : GoodIn wsX4_takesMany (wsV RX4 58 RX4 yX4_takes1 wsX4_takes1) := goodIn_app (goodIn_of _ (by decide +kernel)) ggX4_takesMany_X4_takes1
theorem dX4_takesMany_0 : decode cX4_takesMany 0 = .ok (.iload_n 1, 1) := by decide +kernel
theorem dX4_takesMany_1 : decode cX4_takesMany 1 = .ok (.iconst 1, 1) := by decide +kernel
theorem dX4_takesMany_2 : decode cX4_takesMany 2 = .ok (.sipush 320, 3) := by decide +kernel
theorem dX4_takesMany_5 : decode cX4_takesMany 5 = .ok (.invokestatic 64, 3) := by decide +kernel
theorem dX4_takesMany_8 : decode cX4_takesMany 8 = .ok (.ifCond .ne 5, 3) := by decide +kernel
theorem dX4_takesMany_11 : decode cX4_takesMany 11 = .ok (.iconst (-1), 1) := by decide +kernel
theorem dX4_takesMany_12 : decode cX4_takesMany 12 = .ok (.ireturn, 1) := by decide +kernel
theorem dX4_takesMany_13 : decode cX4_takesMany 13 = .ok (.iconst 0, 1) := by decide +kernel
theorem dX4_takesMany_14 : decode cX4_takesMany 14 = .ok (.istore_n 2, 1) := by decide +kernel
theorem dX4_takesMany_15 : decode cX4_takesMany 15 = .ok (.iconst 0, 1) := by decide +kernel
theorem dX4_takesMany_16 : decode cX4_takesMany 16 = .ok (.istore_n 3, 1) := by decide +kernel
theorem dX4_takesMany_17 : decode cX4_takesMany 17 = .ok (.iload_n 3, 1) := by decide +kernel
theorem dX4_takesMany_18 : decode cX4_takesMany 18 = .ok (.iload_n 1, 1) := by decide +kernel
theorem dX4_takesMany_19 : decode cX4_takesMany 19 = .ok (.if_icmp .ge 18, 3) := by decide +kernel
theorem dX4_takesMany_22 : decode cX4_takesMany 22 = .ok (.iload_n 2, 1) := by decide +kernel
theorem dX4_takesMany_23 : decode cX4_takesMany 23 = .ok (.ifCond .lt 14, 3) := by decide +kernel
theorem dX4_takesMany_26 : decode cX4_takesMany 26 = .ok (.aload_n 0, 1) := by decide +kernel
theorem dX4_takesMany_27 : decode cX4_takesMany 27 = .ok (.invokevirtual 58, 3) := by decide +kernel
theorem dX4_takesMany_30 : decode cX4_takesMany 30 = .ok (.istore_n 2, 1) := by decide +kernel
theorem dX4_takesMany_31 : decode cX4_takesMany 31 = .ok (.iinc 3 1, 3) := by decide +kernel
theorem dX4_takesMany_34 : decode cX4_takesMany 34 = .ok (.goto (-17), 3) := by decide +kernel
theorem dX4_takesMany_37 : decode cX4_takesMany 37 = .ok (.iload_n 2, 1) := by decide +kernel
theorem dX4_takesMany_38 : decode cX4_takesMany 38 = .ok (.ireturn, 1) := by decide +kernel
set_option maxRecDepth 20000 in
theorem ggX4_does_X4_takesMany : GoodIn wsX4_does wsX4_takesMany := goodIn_r _ [5, 6, 7, 4, 8, 9, 10, 11, 12, 13, 14, 15, 16, 17, 18, 19, 20, 21, 22, 23, 24, 25, 26, 27, 28, 29, 30, 31, 32, 33, 34, 35, 36, 37, 76, 77, 78, 79, 80, 81, 82, 83] (by decide +kernel) (by decide +kernel)
set_option maxRecDepth 20000 in
theorem gX4_does_X4_takesMany : GoodIn wsX4_does (wsV RX4 115 RX4 yX4_takesMany wsX4_takesMany) := goodIn_app (goodIn_of _ (by decide +kernel)) ggX4_does_X4_takesMany
set_option maxRecDepth 20000 in
theorem ggX4_does_X4_givesBack : GoodIn wsX4_does wsX4_givesBack := goodIn_r _ [41, 17, 6, 7, 4, 8, 22, 23, 24, 25, 26, 27, 28, 29, 30, 31, 32, 33, 76, 77, 78, 79, 80, 81, 82, 83] (by decide +kernel) (by decide +kernel)
set_option maxRecDepth 20000 in
theorem gX4_does_X4_givesBack : GoodIn wsX4_does (wsV RX4 71 RX4 yX4_givesBack wsX4_givesBack) := goodIn_app (goodIn_of _ (by decide +kernel)) ggX4_does_X4_givesBack
set_option maxRecDepth 20000 in
theorem ggX4_does_X4_clearsSome : GoodIn wsX4_does wsX4_clearsSome := goodIn_r _ [45, 6, 7, 4, 8, 34, 35, 36, 37, 17, 30, 31, 32, 33, 22, 23, 24, 25, 26, 27, 28, 29, 76, 77, 78, 79, 80, 81, 82, 83] (by decide +kernel) (by decide +kernel)
set_option maxRecDepth 20000 in
theorem gX4_does_X4_clearsSome : GoodIn wsX4_does (wsV RX4 74 RX4 yX4_clearsSome wsX4_clearsSome) := goodIn_app (goodIn_of _ (by decide +kernel)) ggX4_does_X4_clearsSome
set_option maxRecDepth 20000 in
theorem ggX4_does_X4_reserves : GoodIn wsX4_does wsX4_reserves := goodIn_r _ [49, 17, 50, 51, 4, 52, 53, 54, 55, 56, 6, 7, 8, 57, 58, 59, 60, 22, 23, 24, 25, 26, 27, 28, 29, 30, 31, 32, 33, 76, 77, 78, 79, 80, 81, 82, 83] (by decide +kernel) (by decide +kernel)
set_option maxRecDepth 20000 in
theorem gX4_does_X4_reserves : GoodIn wsX4_does (wsV RX4 87 RX4 yX4_reserves wsX4_reserves) := goodIn_app (goodIn_of _ (by decide +kernel)) ggX4_does_X4_reserves
set_option maxRecDepth 20000 in
theorem ggX4_does_X4_takesIn : GoodIn wsX4_does wsX4_takesIn := goodIn_r _ [64, 17, 53, 54, 55, 4, 56, 6, 7, 8, 22, 23, 24, 25, 26, 27, 28, 29, 30, 31, 32, 33, 76, 77, 78, 79, 80, 81, 82, 83] (by decide +kernel) (by decide +kernel)
set_option maxRecDepth 20000 in
theorem gX4_does_X4_takesIn : GoodIn wsX4_does (wsV RX4 90 RX4 yX4_takesIn wsX4_takesIn) := goodIn_app (goodIn_of _ (by decide +kernel)) ggX4_does_X4_takesIn
set_option maxRecDepth 20000 in
theorem ggX4_does_X4_damages : GoodIn wsX4_does wsX4_damages := goodIn_r _ [68, 17, 69, 70, 4, 71, 6, 7, 8, 76, 77, 78, 79, 80, 81, 82, 83] (by decide +kernel) (by decide +kernel)
set_option maxRecDepth 20000 in
theorem gX4_does_X4_damages : GoodIn wsX4_does (wsV RX4 96 RX4 yX4_damages wsX4_damages) := goodIn_app (goodIn_of _ (by decide +kernel)) ggX4_does_X4_damages
set_option maxRecDepth 20000 in
theorem ggX4_does_X4_repairs : GoodIn wsX4_does wsX4_repairs := goodIn_r _ [75, 17, 26, 27, 28, 4, 29, 30, 31, 32, 33, 76, 77, 78, 79, 80, 81, 82, 83] (by decide +kernel) (by decide +kernel)
set_option maxRecDepth 20000 in
theorem gX4_does_X4_repairs : GoodIn wsX4_does (wsV RX4 99 RX4 yX4_repairs wsX4_repairs) := goodIn_app (goodIn_of _ (by decide +kernel)) ggX4_does_X4_repairs
theorem dX4_does_0 : decode cX4_does 0 = .ok (.iload_n 1, 1) := by decide +kernel
theorem dX4_does_1 : decode cX4_does 1 = .ok (.tableswitch 128 98 116 #[116, 104, 122, 128, 97, 128, 128, 128, 128, 128, 128, 128, 128, 128, 128, 128, 110, 128, 91], 91) := by decide +kernel
theorem dX4_does_92 : decode cX4_does 92 = .ok (.aload_n 0, 1) := by decide +kernel
theorem dX4_does_93 : decode cX4_does 93 = .ok (.iload_n 2, 1) := by decide +kernel
theorem dX4_does_94 : decode cX4_does 94 = .ok (.invokevirtual 115, 3) := by decide +kernel
theorem dX4_does_97 : decode cX4_does 97 = .ok (.ireturn, 1) := by decide +kernel
theorem dX4_does_98 : decode cX4_does 98 = .ok (.aload_n 0, 1) := by decide +kernel
theorem dX4_does_99 : decode cX4_does 99 = .ok (.iload_n 2, 1) := by decide +kernel
theorem dX4_does_100 : decode cX4_does 100 = .ok (.iload_n 3, 1) := by decide +kernel
theorem dX4_does_101 : decode cX4_does 101 = .ok (.invokevirtual 71, 3) := by decide +kernel
theorem dX4_does_104 : decode cX4_does 104 = .ok (.ireturn, 1) := by decide +kernel
theorem dX4_does_105 : decode cX4_does 105 = .ok (.aload_n 0, 1) := by decide +kernel
theorem dX4_does_106 : decode cX4_does 106 = .ok (.iload_n 2, 1) := by decide +kernel
theorem dX4_does_107 : decode cX4_does 107 = .ok (.invokevirtual 74, 3) := by decide +kernel
theorem dX4_does_110 : decode cX4_does 110 = .ok (.ireturn, 1) := by decide +kernel
theorem dX4_does_111 : decode cX4_does 111 = .ok (.aload_n 0, 1) := by decide +kernel
theorem dX4_does_112 : decode cX4_does 112 = .ok (.iload_n 2, 1) := by decide +kernel
theorem dX4_does_113 : decode cX4_does 113 = .ok (.invokevirtual 87, 3) := by decide +kernel
theorem dX4_does_116 : decode cX4_does 116 = .ok (.ireturn, 1) := by decide +kernel
theorem dX4_does_117 : decode cX4_does 117 = .ok (.aload_n 0, 1) := by decide +kernel
theorem dX4_does_118 : decode cX4_does 118 = .ok (.iload_n 2, 1) := by decide +kernel
theorem dX4_does_119 : decode cX4_does 119 = .ok (.invokevirtual 90, 3) := by decide +kernel
theorem dX4_does_122 : decode cX4_does 122 = .ok (.ireturn, 1) := by decide +kernel
theorem dX4_does_123 : decode cX4_does 123 = .ok (.aload_n 0, 1) := by decide +kernel
theorem dX4_does_124 : decode cX4_does 124 = .ok (.iload_n 2, 1) := by decide +kernel
theorem dX4_does_125 : decode cX4_does 125 = .ok (.invokevirtual 96, 3) := by decide +kernel
theorem dX4_does_128 : decode cX4_does 128 = .ok (.ireturn, 1) := by decide +kernel
theorem dX4_does_129 : decode cX4_does 129 = .ok (.aload_n 0, 1) := by decide +kernel
theorem dX4_does_130 : decode cX4_does 130 = .ok (.invokevirtual 99, 3) := by decide +kernel
theorem dX4_does_133 : decode cX4_does 133 = .ok (.ireturn, 1) := by decide +kernel
theorem dX4_isLetter_0 : decode cX4_isLetter 0 = .ok (.iload_n 0, 1) := by decide +kernel
theorem dX4_isLetter_1 : decode cX4_isLetter 1 = .ok (.bipush 116, 2) := by decide +kernel
theorem dX4_isLetter_3 : decode cX4_isLetter 3 = .ok (.if_icmp .eq 39, 3) := by decide +kernel
theorem dX4_isLetter_6 : decode cX4_isLetter 6 = .ok (.iload_n 0, 1) := by decide +kernel
theorem dX4_isLetter_7 : decode cX4_isLetter 7 = .ok (.bipush 102, 2) := by decide +kernel
theorem dX4_isLetter_9 : decode cX4_isLetter 9 = .ok (.if_icmp .eq 33, 3) := by decide +kernel
theorem dX4_isLetter_12 : decode cX4_isLetter 12 = .ok (.iload_n 0, 1) := by decide +kernel
theorem dX4_isLetter_13 : decode cX4_isLetter 13 = .ok (.bipush 99, 2) := by decide +kernel
theorem dX4_isLetter_15 : decode cX4_isLetter 15 = .ok (.if_icmp .eq 27, 3) := by decide +kernel
theorem dX4_isLetter_18 : decode cX4_isLetter 18 = .ok (.iload_n 0, 1) := by decide +kernel
theorem dX4_isLetter_19 : decode cX4_isLetter 19 = .ok (.bipush 114, 2) := by decide +kernel
theorem dX4_isLetter_21 : decode cX4_isLetter 21 = .ok (.if_icmp .eq 21, 3) := by decide +kernel
theorem dX4_isLetter_24 : decode cX4_isLetter 24 = .ok (.iload_n 0, 1) := by decide +kernel
theorem dX4_isLetter_25 : decode cX4_isLetter 25 = .ok (.bipush 98, 2) := by decide +kernel
theorem dX4_isLetter_27 : decode cX4_isLetter 27 = .ok (.if_icmp .eq 15, 3) := by decide +kernel
theorem dX4_isLetter_30 : decode cX4_isLetter 30 = .ok (.iload_n 0, 1) := by decide +kernel
theorem dX4_isLetter_31 : decode cX4_isLetter 31 = .ok (.bipush 100, 2) := by decide +kernel
theorem dX4_isLetter_33 : decode cX4_isLetter 33 = .ok (.if_icmp .eq 9, 3) := by decide +kernel
theorem dX4_isLetter_36 : decode cX4_isLetter 36 = .ok (.iload_n 0, 1) := by decide +kernel
theorem dX4_isLetter_37 : decode cX4_isLetter 37 = .ok (.bipush 97, 2) := by decide +kernel
theorem dX4_isLetter_39 : decode cX4_isLetter 39 = .ok (.if_icmp .ne 7, 3) := by decide +kernel
theorem dX4_isLetter_42 : decode cX4_isLetter 42 = .ok (.iconst 1, 1) := by decide +kernel
theorem dX4_isLetter_43 : decode cX4_isLetter 43 = .ok (.goto 4, 3) := by decide +kernel
theorem dX4_isLetter_46 : decode cX4_isLetter 46 = .ok (.iconst 0, 1) := by decide +kernel
theorem dX4_isLetter_47 : decode cX4_isLetter 47 = .ok (.ireturn, 1) := by decide +kernel
set_option maxRecDepth 20000 in
theorem ggX4_runsOne_X4_signAt : GoodIn wsX4_runsOne wsX4_signAt := goodIn_r _ [6, 7, 8, 98, 99, 100, 101, 102, 103, 104, 105] (by decide +kernel) (by decide +kernel)
set_option maxRecDepth 20000 in
theorem gX4_runsOne_X4_signAt : GoodIn wsX4_runsOne (wsV RX4 108 RX4 yX4_signAt wsX4_signAt) := goodIn_app (goodIn_of _ (by decide +kernel)) ggX4_runsOne_X4_signAt
set_option maxRecDepth 20000 in
theorem ggX4_runsOne_X4_isLetter : GoodIn wsX4_runsOne wsX4_isLetter := goodIn_r _ [11] (by decide +kernel) (by decide +kernel)
set_option maxRecDepth 20000 in
theorem gX4_runsOne_X4_isLetter : GoodIn wsX4_runsOne (va_wsS RX4 118 yX4_isLetter wsX4_isLetter) := goodIn_app (goodIn_of _ (by decide +kernel)) ggX4_runsOne_X4_isLetter
set_option maxRecDepth 20000 in
theorem ggX4_runsOne_X4_isDigit : GoodIn wsX4_runsOne wsX4_isDigit := goodIn_r _ [15, 1, 2, 3, 4, 5, 6, 7, 8, 16, 17, 18, 98, 99, 100, 101, 102, 103, 104, 105] (by decide +kernel) (by decide +kernel)
set_option maxRecDepth 20000 in
theorem gX4_runsOne_X4_isDigit : GoodIn wsX4_runsOne (wsV RX4 111 RX4 yX4_isDigit wsX4_isDigit) := goodIn_app (goodIn_of _ (by decide +kernel)) ggX4_runsOne_X4_isDigit
set_option maxRecDepth 20000 in
theorem ggX4_runsOne_X4_number : GoodIn wsX4_runsOne wsX4_number := goodIn_r _ [22, 1, 2, 3, 4, 5, 6, 7, 8, 12, 13, 14, 15, 16, 17, 18, 98, 99, 100, 101, 102, 103, 104, 105] (by decide +kernel) (by decide +kernel)
set_option maxRecDepth 20000 in
theorem gX4_runsOne_X4_number : GoodIn wsX4_runsOne (wsV RX4 121 RX4 yX4_number wsX4_number) := goodIn_app (goodIn_of _ (by decide +kernel)) ggX4_runsOne_X4_number
set_option maxRecDepth 20000 in
theorem ggX4_runsOne_X4_does : GoodIn wsX4_runsOne wsX4_does := goodIn_r _ [26, 27, 28, 29, 5, 30, 16, 17, 18, 31, 32, 33, 34, 35, 36, 37, 38, 39, 40, 41, 42, 43, 44, 45, 46, 47, 48, 49, 50, 51, 52, 53, 54, 55, 56, 57, 58, 59, 60, 61, 62, 63, 64, 65, 66, 67, 68, 69, 70, 71, 72, 73, 74, 75, 76, 77, 78, 79, 80, 81, 82, 83, 84, 85, 86, 87, 88, 89, 90, 91, 92, 93, 94, 95, 96, 97, 98, 99, 100, 101, 102, 103, 104, 105] (by decide +kernel) (by decide +kernel)
set_option maxRecDepth 20000 in
theorem gX4_runsOne_X4_does : GoodIn wsX4_runsOne (wsV RX4 124 RX4 yX4_does wsX4_does) := goodIn_app (goodIn_of _ (by decide +kernel)) ggX4_runsOne_X4_does
theorem dX4_runsOne_0 : decode cX4_runsOne 0 = .ok (.aload_n 0, 1) := by decide +kernel
theorem dX4_runsOne_1 : decode cX4_runsOne 1 = .ok (.aload_n 0, 1) := by decide +kernel
theorem dX4_runsOne_2 : decode cX4_runsOne 2 = .ok (.getfield 105, 3) := by decide +kernel
theorem dX4_runsOne_5 : decode cX4_runsOne 5 = .ok (.invokevirtual 108, 3) := by decide +kernel
theorem dX4_runsOne_8 : decode cX4_runsOne 8 = .ok (.istore_n 1, 1) := by decide +kernel
theorem dX4_runsOne_9 : decode cX4_runsOne 9 = .ok (.aload_n 0, 1) := by decide +kernel
theorem dX4_runsOne_10 : decode cX4_runsOne 10 = .ok (.getfield 105, 3) := by decide +kernel
theorem dX4_runsOne_13 : decode cX4_runsOne 13 = .ok (.istore_n 2, 1) := by decide +kernel
theorem dX4_runsOne_14 : decode cX4_runsOne 14 = .ok (.iload_n 1, 1) := by decide +kernel
theorem dX4_runsOne_15 : decode cX4_runsOne 15 = .ok (.invokestatic 118, 3) := by decide +kernel
theorem dX4_runsOne_18 : decode cX4_runsOne 18 = .ok (.ifCond .ne 5, 3) := by decide +kernel
theorem dX4_runsOne_21 : decode cX4_runsOne 21 = .ok (.iconst 0, 1) := by decide +kernel
theorem dX4_runsOne_22 : decode cX4_runsOne 22 = .ok (.ireturn, 1) := by decide +kernel
theorem dX4_runsOne_23 : decode cX4_runsOne 23 = .ok (.aload_n 0, 1) := by decide +kernel
theorem dX4_runsOne_24 : decode cX4_runsOne 24 = .ok (.dup, 1) := by decide +kernel
theorem dX4_runsOne_25 : decode cX4_runsOne 25 = .ok (.getfield 105, 3) := by decide +kernel
theorem dX4_runsOne_28 : decode cX4_runsOne 28 = .ok (.iconst 1, 1) := by decide +kernel
theorem dX4_runsOne_29 : decode cX4_runsOne 29 = .ok (.iadd, 1) := by decide +kernel
theorem dX4_runsOne_30 : decode cX4_runsOne 30 = .ok (.putfield 105, 3) := by decide +kernel
theorem dX4_runsOne_33 : decode cX4_runsOne 33 = .ok (.iconst 1, 1) := by decide +kernel
theorem dX4_runsOne_34 : decode cX4_runsOne 34 = .ok (.istore_n 3, 1) := by decide +kernel
theorem dX4_runsOne_35 : decode cX4_runsOne 35 = .ok (.iload_n 1, 1) := by decide +kernel
theorem dX4_runsOne_36 : decode cX4_runsOne 36 = .ok (.bipush 97, 2) := by decide +kernel
theorem dX4_runsOne_38 : decode cX4_runsOne 38 = .ok (.if_icmp .eq 30, 3) := by decide +kernel
theorem dX4_runsOne_41 : decode cX4_runsOne 41 = .ok (.iload_n 1, 1) := by decide +kernel
theorem dX4_runsOne_42 : decode cX4_runsOne 42 = .ok (.bipush 116, 2) := by decide +kernel
theorem dX4_runsOne_44 : decode cX4_runsOne 44 = .ok (.if_icmp .ne 10, 3) := by decide +kernel
theorem dX4_runsOne_47 : decode cX4_runsOne 47 = .ok (.aload_n 0, 1) := by decide +kernel
theorem dX4_runsOne_48 : decode cX4_runsOne 48 = .ok (.invokevirtual 111, 3) := by decide +kernel
theorem dX4_runsOne_51 : decode cX4_runsOne 51 = .ok (.ifCond .eq 17, 3) := by decide +kernel
theorem dX4_runsOne_54 : decode cX4_runsOne 54 = .ok (.aload_n 0, 1) := by decide +kernel
theorem dX4_runsOne_55 : decode cX4_runsOne 55 = .ok (.invokevirtual 111, 3) := by decide +kernel
theorem dX4_runsOne_58 : decode cX4_runsOne 58 = .ok (.ifCond .ne 5, 3) := by decide +kernel
theorem dX4_runsOne_61 : decode cX4_runsOne 61 = .ok (.iconst 0, 1) := by decide +kernel
theorem dX4_runsOne_62 : decode cX4_runsOne 62 = .ok (.ireturn, 1) := by decide +kernel
theorem dX4_runsOne_63 : decode cX4_runsOne 63 = .ok (.aload_n 0, 1) := by decide +kernel
theorem dX4_runsOne_64 : decode cX4_runsOne 64 = .ok (.invokevirtual 121, 3) := by decide +kernel
theorem dX4_runsOne_67 : decode cX4_runsOne 67 = .ok (.istore_n 3, 1) := by decide +kernel
theorem dX4_runsOne_68 : decode cX4_runsOne 68 = .ok (.iload_n 3, 1) := by decide +kernel
theorem dX4_runsOne_69 : decode cX4_runsOne 69 = .ok (.istore 4, 2) := by decide +kernel
theorem dX4_runsOne_71 : decode cX4_runsOne 71 = .ok (.iload_n 1, 1) := by decide +kernel
theorem dX4_runsOne_72 : decode cX4_runsOne 72 = .ok (.bipush 102, 2) := by decide +kernel
theorem dX4_runsOne_74 : decode cX4_runsOne 74 = .ok (.if_icmp .ne 41, 3) := by decide +kernel
theorem dX4_runsOne_77 : decode cX4_runsOne 77 = .ok (.aload_n 0, 1) := by decide +kernel
theorem dX4_runsOne_78 : decode cX4_runsOne 78 = .ok (.aload_n 0, 1) := by decide +kernel
theorem dX4_runsOne_79 : decode cX4_runsOne 79 = .ok (.getfield 105, 3) := by decide +kernel
theorem dX4_runsOne_82 : decode cX4_runsOne 82 = .ok (.invokevirtual 108, 3) := by decide +kernel
theorem dX4_runsOne_85 : decode cX4_runsOne 85 = .ok (.bipush 45, 2) := by decide +kernel
theorem dX4_runsOne_87 : decode cX4_runsOne 87 = .ok (.if_icmp .ne 28, 3) := by decide +kernel
theorem dX4_runsOne_90 : decode cX4_runsOne 90 = .ok (.aload_n 0, 1) := by decide +kernel
theorem dX4_runsOne_91 : decode cX4_runsOne 91 = .ok (.dup, 1) := by decide +kernel
theorem dX4_runsOne_92 : decode cX4_runsOne 92 = .ok (.getfield 105, 3) := by decide +kernel
theorem dX4_runsOne_95 : decode cX4_runsOne 95 = .ok (.iconst 1, 1) := by decide +kernel
theorem dX4_runsOne_96 : decode cX4_runsOne 96 = .ok (.iadd, 1) := by decide +kernel
theorem dX4_runsOne_97 : decode cX4_runsOne 97 = .ok (.putfield 105, 3) := by decide +kernel
theorem dX4_runsOne_100 : decode cX4_runsOne 100 = .ok (.aload_n 0, 1) := by decide +kernel
theorem dX4_runsOne_101 : decode cX4_runsOne 101 = .ok (.invokevirtual 111, 3) := by decide +kernel
theorem dX4_runsOne_104 : decode cX4_runsOne 104 = .ok (.ifCond .ne 5, 3) := by decide +kernel
theorem dX4_runsOne_107 : decode cX4_runsOne 107 = .ok (.iconst 0, 1) := by decide +kernel
theorem dX4_runsOne_108 : decode cX4_runsOne 108 = .ok (.ireturn, 1) := by decide +kernel
theorem dX4_runsOne_109 : decode cX4_runsOne 109 = .ok (.aload_n 0, 1) := by decide +kernel
theorem dX4_runsOne_110 : decode cX4_runsOne 110 = .ok (.invokevirtual 121, 3) := by decide +kernel
theorem dX4_runsOne_113 : decode cX4_runsOne 113 = .ok (.istore 4, 2) := by decide +kernel
theorem dX4_runsOne_115 : decode cX4_runsOne 115 = .ok (.aload_n 0, 1) := by decide +kernel
theorem dX4_runsOne_116 : decode cX4_runsOne 116 = .ok (.aload_n 0, 1) := by decide +kernel
theorem dX4_runsOne_117 : decode cX4_runsOne 117 = .ok (.getfield 105, 3) := by decide +kernel
theorem dX4_runsOne_120 : decode cX4_runsOne 120 = .ok (.invokevirtual 108, 3) := by decide +kernel
theorem dX4_runsOne_123 : decode cX4_runsOne 123 = .ok (.bipush 59, 2) := by decide +kernel
theorem dX4_runsOne_125 : decode cX4_runsOne 125 = .ok (.if_icmp .eq 5, 3) := by decide +kernel
theorem dX4_runsOne_128 : decode cX4_runsOne 128 = .ok (.iconst 0, 1) := by decide +kernel
theorem dX4_runsOne_129 : decode cX4_runsOne 129 = .ok (.ireturn, 1) := by decide +kernel
theorem dX4_runsOne_130 : decode cX4_runsOne 130 = .ok (.aload_n 0, 1) := by decide +kernel
theorem dX4_runsOne_131 : decode cX4_runsOne 131 = .ok (.iload_n 1, 1) := by decide +kernel
theorem dX4_runsOne_132 : decode cX4_runsOne 132 = .ok (.iload_n 3, 1) := by decide +kernel
theorem dX4_runsOne_133 : decode cX4_runsOne 133 = .ok (.iload 4, 2) := by decide +kernel
theorem dX4_runsOne_135 : decode cX4_runsOne 135 = .ok (.invokevirtual 124, 3) := by decide +kernel
theorem dX4_runsOne_138 : decode cX4_runsOne 138 = .ok (.ifCond .lt 7, 3) := by decide +kernel
theorem dX4_runsOne_141 : decode cX4_runsOne 141 = .ok (.iconst 1, 1) := by decide +kernel
theorem dX4_runsOne_142 : decode cX4_runsOne 142 = .ok (.goto 4, 3) := by decide +kernel
theorem dX4_runsOne_145 : decode cX4_runsOne 145 = .ok (.iconst 0, 1) := by decide +kernel
theorem dX4_runsOne_146 : decode cX4_runsOne 146 = .ok (.istore 5, 2) := by decide +kernel
theorem dX4_runsOne_148 : decode cX4_runsOne 148 = .ok (.aload_n 0, 1) := by decide +kernel
theorem dX4_runsOne_149 : decode cX4_runsOne 149 = .ok (.iload 5, 2) := by decide +kernel
theorem dX4_runsOne_151 : decode cX4_runsOne 151 = .ok (.ifCond .eq 12, 3) := by decide +kernel
theorem dX4_runsOne_154 : decode cX4_runsOne 154 = .ok (.aload_n 0, 1) := by decide +kernel
theorem dX4_runsOne_155 : decode cX4_runsOne 155 = .ok (.getfield 105, 3) := by decide +kernel
theorem dX4_runsOne_158 : decode cX4_runsOne 158 = .ok (.iconst 1, 1) := by decide +kernel
theorem dX4_runsOne_159 : decode cX4_runsOne 159 = .ok (.iadd, 1) := by decide +kernel
theorem dX4_runsOne_160 : decode cX4_runsOne 160 = .ok (.goto 4, 3) := by decide +kernel
theorem dX4_runsOne_163 : decode cX4_runsOne 163 = .ok (.iload_n 2, 1) := by decide +kernel
theorem dX4_runsOne_164 : decode cX4_runsOne 164 = .ok (.putfield 105, 3) := by decide +kernel
theorem dX4_runsOne_167 : decode cX4_runsOne 167 = .ok (.iload 5, 2) := by decide +kernel
theorem dX4_runsOne_169 : decode cX4_runsOne 169 = .ok (.ireturn, 1) := by decide +kernel
set_option maxRecDepth 20000 in
theorem ggX4_run_X4_notes : GoodIn wsX4_run wsX4_notes := goodIn_r _ [7, 8, 9, 10, 11, 6, 12, 116, 117, 118, 119, 120, 121, 122, 123] (by decide +kernel) (by decide +kernel)
set_option maxRecDepth 20000 in
theorem gX4_run_X4_notes : GoodIn wsX4_run (wsV RX4 55 RX4 yX4_notes wsX4_notes) := goodIn_app (goodIn_of _ (by decide +kernel)) ggX4_run_X4_notes
set_option maxRecDepth 20000 in
theorem ggX4_run_X4_runsOne : GoodIn wsX4_run wsX4_runsOne := goodIn_r _ [16, 1, 17, 18, 19, 6, 20, 2, 21, 22, 23, 24, 25, 26, 27, 28, 29, 30, 31, 32, 33, 34, 35, 36, 37, 38, 39, 40, 41, 42, 43, 44, 45, 46, 47, 48, 49, 50, 51, 8, 52, 53, 54, 55, 56, 57, 58, 59, 60, 61, 62, 63, 64, 65, 66, 67, 68, 69, 70, 71, 72, 73, 74, 75, 76, 77, 78, 79, 80, 81, 82, 83, 84, 85, 86, 87, 88, 89, 90, 91, 92, 93, 94, 95, 96, 97, 98, 99, 100, 101, 102, 103, 104, 105, 106, 107, 108, 109, 116, 117, 118, 119, 120, 121, 122, 123] (by decide +kernel) (by decide +kernel)
set_option maxRecDepth 20000 in
theorem gX4_run_X4_runsOne : GoodIn wsX4_run (wsV RX4 128 RX4 yX4_runsOne wsX4_runsOne) := goodIn_app (goodIn_of _ (by decide +kernel)) ggX4_run_X4_runsOne
set_option maxRecDepth 20000 in
theorem ggX4_run_X4_ends : GoodIn wsX4_run wsX4_ends := goodIn_r _ [113, 9, 8, 114, 115, 10, 11, 6, 12, 116, 117, 118, 119, 120, 121, 122, 123] (by decide +kernel) (by decide +kernel)
set_option maxRecDepth 20000 in
theorem gX4_run_X4_ends : GoodIn wsX4_run (wsV RX4 61 RX4 yX4_ends wsX4_ends) := goodIn_app (goodIn_of _ (by decide +kernel)) ggX4_run_X4_ends
theorem dX4_run_0 : decode cX4_run 0 = .ok (.aload_n 0, 1) := by decide +kernel
theorem dX4_run_1 : decode cX4_run 1 = .ok (.invokevirtual 55, 3) := by decide +kernel
theorem dX4_run_4 : decode cX4_run 4 = .ok (.aload_n 0, 1) := by decide +kernel
theorem dX4_run_5 : decode cX4_run 5 = .ok (.iconst 0, 1) := by decide +kernel
theorem dX4_run_6 : decode cX4_run 6 = .ok (.putfield 105, 3) := by decide +kernel
theorem dX4_run_9 : decode cX4_run 9 = .ok (.iconst 0, 1) := by decide +kernel
theorem dX4_run_10 : decode cX4_run 10 = .ok (.istore_n 1, 1) := by decide +kernel
theorem dX4_run_11 : decode cX4_run 11 = .ok (.aload_n 0, 1) := by decide +kernel
theorem dX4_run_12 : decode cX4_run 12 = .ok (.getfield 105, 3) := by decide +kernel
theorem dX4_run_15 : decode cX4_run 15 = .ok (.aload_n 0, 1) := by decide +kernel
theorem dX4_run_16 : decode cX4_run 16 = .ok (.getfield 102, 3) := by decide +kernel
theorem dX4_run_19 : decode cX4_run 19 = .ok (.if_icmp .ge 29, 3) := by decide +kernel
theorem dX4_run_22 : decode cX4_run 22 = .ok (.aload_n 0, 1) := by decide +kernel
theorem dX4_run_23 : decode cX4_run 23 = .ok (.invokevirtual 128, 3) := by decide +kernel
theorem dX4_run_26 : decode cX4_run 26 = .ok (.ifCond .ne 16, 3) := by decide +kernel
theorem dX4_run_29 : decode cX4_run 29 = .ok (.aload_n 0, 1) := by decide +kernel
theorem dX4_run_30 : decode cX4_run 30 = .ok (.sipush (-1000), 3) := by decide +kernel
theorem dX4_run_33 : decode cX4_run 33 = .ok (.aload_n 0, 1) := by decide +kernel
theorem dX4_run_34 : decode cX4_run 34 = .ok (.getfield 105, 3) := by decide +kernel
theorem dX4_run_37 : decode cX4_run 37 = .ok (.isub, 1) := by decide +kernel
theorem dX4_run_38 : decode cX4_run 38 = .ok (.invokevirtual 61, 3) := by decide +kernel
theorem dX4_run_41 : decode cX4_run 41 = .ok (.ireturn, 1) := by decide +kernel
theorem dX4_run_42 : decode cX4_run 42 = .ok (.iinc 1 1, 3) := by decide +kernel
theorem dX4_run_45 : decode cX4_run 45 = .ok (.goto (-34), 3) := by decide +kernel
theorem dX4_run_48 : decode cX4_run 48 = .ok (.aload_n 0, 1) := by decide +kernel
theorem dX4_run_49 : decode cX4_run 49 = .ok (.iload_n 1, 1) := by decide +kernel
theorem dX4_run_50 : decode cX4_run 50 = .ok (.invokevirtual 61, 3) := by decide +kernel
theorem dX4_run_53 : decode cX4_run 53 = .ok (.ireturn, 1) := by decide +kernel
theorem dX4_bits_0 : decode cX4_bits 0 = .ok (.iconst 0, 1) := by decide +kernel
theorem dX4_bits_1 : decode cX4_bits 1 = .ok (.istore_n 1, 1) := by decide +kernel
theorem dX4_bits_2 : decode cX4_bits 2 = .ok (.iconst 0, 1) := by decide +kernel
theorem dX4_bits_3 : decode cX4_bits 3 = .ok (.istore_n 2, 1) := by decide +kernel
theorem dX4_bits_4 : decode cX4_bits 4 = .ok (.iload_n 2, 1) := by decide +kernel
theorem dX4_bits_5 : decode cX4_bits 5 = .ok (.bipush 10, 2) := by decide +kernel
theorem dX4_bits_7 : decode cX4_bits 7 = .ok (.if_icmp .ge 22, 3) := by decide +kernel
theorem dX4_bits_10 : decode cX4_bits 10 = .ok (.iload_n 1, 1) := by decide +kernel
theorem dX4_bits_11 : decode cX4_bits 11 = .ok (.aload_n 0, 1) := by decide +kernel
theorem dX4_bits_12 : decode cX4_bits 12 = .ok (.getfield 7, 3) := by decide +kernel
theorem dX4_bits_15 : decode cX4_bits 15 = .ok (.sipush 640, 3) := by decide +kernel
theorem dX4_bits_18 : decode cX4_bits 18 = .ok (.iload_n 2, 1) := by decide +kernel
theorem dX4_bits_19 : decode cX4_bits 19 = .ok (.iadd, 1) := by decide +kernel
theorem dX4_bits_20 : decode cX4_bits 20 = .ok (.iaload, 1) := by decide +kernel
theorem dX4_bits_21 : decode cX4_bits 21 = .ok (.iadd, 1) := by decide +kernel
theorem dX4_bits_22 : decode cX4_bits 22 = .ok (.istore_n 1, 1) := by decide +kernel
theorem dX4_bits_23 : decode cX4_bits 23 = .ok (.iinc 2 1, 3) := by decide +kernel
theorem dX4_bits_26 : decode cX4_bits 26 = .ok (.goto (-22), 3) := by decide +kernel
theorem dX4_bits_29 : decode cX4_bits 29 = .ok (.iload_n 1, 1) := by decide +kernel
theorem dX4_bits_30 : decode cX4_bits 30 = .ok (.ireturn, 1) := by decide +kernel
set_option maxRecDepth 20000 in
theorem ggX4_full_X4_right : GoodIn wsX4_full wsX4_right := goodIn_r _ [5, 6, 7, 8, 4, 9, 10, 11, 12, 13, 14, 15, 16, 17, 18] (by decide +kernel) (by decide +kernel)
set_option maxRecDepth 20000 in
theorem gX4_full_X4_right : GoodIn wsX4_full (wsV RX4 37 RX4 yX4_right wsX4_right) := goodIn_app (goodIn_of _ (by decide +kernel)) ggX4_full_X4_right
theorem dX4_full_0 : decode cX4_full 0 = .ok (.iconst 0, 1) := by decide +kernel
theorem dX4_full_1 : decode cX4_full 1 = .ok (.istore_n 1, 1) := by decide +kernel
theorem dX4_full_2 : decode cX4_full 2 = .ok (.iconst 0, 1) := by decide +kernel
theorem dX4_full_3 : decode cX4_full 3 = .ok (.istore_n 2, 1) := by decide +kernel
theorem dX4_full_4 : decode cX4_full 4 = .ok (.iload_n 2, 1) := by decide +kernel
theorem dX4_full_5 : decode cX4_full 5 = .ok (.bipush 10, 2) := by decide +kernel
theorem dX4_full_7 : decode cX4_full 7 = .ok (.if_icmp .ge 17, 3) := by decide +kernel
theorem dX4_full_10 : decode cX4_full 10 = .ok (.iload_n 1, 1) := by decide +kernel
theorem dX4_full_11 : decode cX4_full 11 = .ok (.aload_n 0, 1) := by decide +kernel
theorem dX4_full_12 : decode cX4_full 12 = .ok (.iload_n 2, 1) := by decide +kernel
theorem dX4_full_13 : decode cX4_full 13 = .ok (.invokevirtual 37, 3) := by decide +kernel
theorem dX4_full_16 : decode cX4_full 16 = .ok (.iadd, 1) := by decide +kernel
theorem dX4_full_17 : decode cX4_full 17 = .ok (.istore_n 1, 1) := by decide +kernel
theorem dX4_full_18 : decode cX4_full 18 = .ok (.iinc 2 1, 3) := by decide +kernel
theorem dX4_full_21 : decode cX4_full 21 = .ok (.goto (-17), 3) := by decide +kernel
theorem dX4_full_24 : decode cX4_full 24 = .ok (.iload_n 1, 1) := by decide +kernel
theorem dX4_full_25 : decode cX4_full 25 = .ok (.ireturn, 1) := by decide +kernel
theorem dX4_runs_0 : decode cX4_runs 0 = .ok (.iconst 0, 1) := by decide +kernel
theorem dX4_runs_1 : decode cX4_runs 1 = .ok (.istore_n 2, 1) := by decide +kernel
theorem dX4_runs_2 : decode cX4_runs 2 = .ok (.iconst 0, 1) := by decide +kernel
theorem dX4_runs_3 : decode cX4_runs 3 = .ok (.istore_n 3, 1) := by decide +kernel
theorem dX4_runs_4 : decode cX4_runs 4 = .ok (.iconst 0, 1) := by decide +kernel
theorem dX4_runs_5 : decode cX4_runs 5 = .ok (.istore 4, 2) := by decide +kernel
theorem dX4_runs_7 : decode cX4_runs 7 = .ok (.iconst 0, 1) := by decide +kernel
theorem dX4_runs_8 : decode cX4_runs 8 = .ok (.istore 5, 2) := by decide +kernel
theorem dX4_runs_10 : decode cX4_runs 10 = .ok (.iload 5, 2) := by decide +kernel
theorem dX4_runs_12 : decode cX4_runs 12 = .ok (.sipush 320, 3) := by decide +kernel
theorem dX4_runs_15 : decode cX4_runs 15 = .ok (.if_icmp .ge 56, 3) := by decide +kernel
theorem dX4_runs_18 : decode cX4_runs 18 = .ok (.aload_n 0, 1) := by decide +kernel
theorem dX4_runs_19 : decode cX4_runs 19 = .ok (.getfield 7, 3) := by decide +kernel
theorem dX4_runs_22 : decode cX4_runs 22 = .ok (.iload 5, 2) := by decide +kernel
theorem dX4_runs_24 : decode cX4_runs 24 = .ok (.iaload, 1) := by decide +kernel
theorem dX4_runs_25 : decode cX4_runs 25 = .ok (.ifCond .ne 10, 3) := by decide +kernel
theorem dX4_runs_28 : decode cX4_runs 28 = .ok (.iload 4, 2) := by decide +kernel
theorem dX4_runs_30 : decode cX4_runs 30 = .ok (.iconst 1, 1) := by decide +kernel
theorem dX4_runs_31 : decode cX4_runs 31 = .ok (.iadd, 1) := by decide +kernel
theorem dX4_runs_32 : decode cX4_runs 32 = .ok (.goto 4, 3) := by decide +kernel
theorem dX4_runs_35 : decode cX4_runs 35 = .ok (.iconst 0, 1) := by decide +kernel
theorem dX4_runs_36 : decode cX4_runs 36 = .ok (.istore 4, 2) := by decide +kernel
theorem dX4_runs_38 : decode cX4_runs 38 = .ok (.iload_n 2, 1) := by decide +kernel
theorem dX4_runs_39 : decode cX4_runs 39 = .ok (.iload 4, 2) := by decide +kernel
theorem dX4_runs_41 : decode cX4_runs 41 = .ok (.iconst 1, 1) := by decide +kernel
theorem dX4_runs_42 : decode cX4_runs 42 = .ok (.if_icmp .ne 7, 3) := by decide +kernel
theorem dX4_runs_45 : decode cX4_runs 45 = .ok (.iconst 1, 1) := by decide +kernel
theorem dX4_runs_46 : decode cX4_runs 46 = .ok (.goto 4, 3) := by decide +kernel
theorem dX4_runs_49 : decode cX4_runs 49 = .ok (.iconst 0, 1) := by decide +kernel
theorem dX4_runs_50 : decode cX4_runs 50 = .ok (.iadd, 1) := by decide +kernel
theorem dX4_runs_51 : decode cX4_runs 51 = .ok (.istore_n 2, 1) := by decide +kernel
theorem dX4_runs_52 : decode cX4_runs 52 = .ok (.iload 4, 2) := by decide +kernel
theorem dX4_runs_54 : decode cX4_runs 54 = .ok (.iload_n 3, 1) := by decide +kernel
theorem dX4_runs_55 : decode cX4_runs 55 = .ok (.if_icmp .le 8, 3) := by decide +kernel
theorem dX4_runs_58 : decode cX4_runs 58 = .ok (.iload 4, 2) := by decide +kernel
theorem dX4_runs_60 : decode cX4_runs 60 = .ok (.goto 4, 3) := by decide +kernel
theorem dX4_runs_63 : decode cX4_runs 63 = .ok (.iload_n 3, 1) := by decide +kernel
theorem dX4_runs_64 : decode cX4_runs 64 = .ok (.istore_n 3, 1) := by decide +kernel
theorem dX4_runs_65 : decode cX4_runs 65 = .ok (.iinc 5 1, 3) := by decide +kernel
theorem dX4_runs_68 : decode cX4_runs 68 = .ok (.goto (-58), 3) := by decide +kernel
theorem dX4_runs_71 : decode cX4_runs 71 = .ok (.iload_n 1, 1) := by decide +kernel
theorem dX4_runs_72 : decode cX4_runs 72 = .ok (.ifCond .eq 7, 3) := by decide +kernel
theorem dX4_runs_75 : decode cX4_runs 75 = .ok (.iload_n 3, 1) := by decide +kernel
theorem dX4_runs_76 : decode cX4_runs 76 = .ok (.goto 4, 3) := by decide +kernel
theorem dX4_runs_79 : decode cX4_runs 79 = .ok (.iload_n 2, 1) := by decide +kernel
theorem dX4_runs_80 : decode cX4_runs 80 = .ok (.ireturn, 1) := by decide +kernel
set_option maxRecDepth 20000 in
theorem ggX4_blocks_X4_isBlock : GoodIn wsX4_blocks wsX4_isBlock := goodIn_r _ [5, 6, 7, 8, 4, 9, 10, 11, 12, 13, 14, 15, 16, 17] (by decide +kernel) (by decide +kernel)
set_option maxRecDepth 20000 in
theorem gX4_blocks_X4_isBlock : GoodIn wsX4_blocks (wsV RX4 81 RX4 yX4_isBlock wsX4_isBlock) := goodIn_app (goodIn_of _ (by decide +kernel)) ggX4_blocks_X4_isBlock
theorem dX4_blocks_0 : decode cX4_blocks 0 = .ok (.iconst 0, 1) := by decide +kernel
theorem dX4_blocks_1 : decode cX4_blocks 1 = .ok (.istore_n 1, 1) := by decide +kernel
theorem dX4_blocks_2 : decode cX4_blocks 2 = .ok (.iconst 0, 1) := by decide +kernel
theorem dX4_blocks_3 : decode cX4_blocks 3 = .ok (.istore_n 2, 1) := by decide +kernel
theorem dX4_blocks_4 : decode cX4_blocks 4 = .ok (.iload_n 2, 1) := by decide +kernel
theorem dX4_blocks_5 : decode cX4_blocks 5 = .ok (.bipush 8, 2) := by decide +kernel
theorem dX4_blocks_7 : decode cX4_blocks 7 = .ok (.if_icmp .ge 25, 3) := by decide +kernel
theorem dX4_blocks_10 : decode cX4_blocks 10 = .ok (.iload_n 1, 1) := by decide +kernel
theorem dX4_blocks_11 : decode cX4_blocks 11 = .ok (.aload_n 0, 1) := by decide +kernel
theorem dX4_blocks_12 : decode cX4_blocks 12 = .ok (.iload_n 2, 1) := by decide +kernel
theorem dX4_blocks_13 : decode cX4_blocks 13 = .ok (.invokevirtual 81, 3) := by decide +kernel
theorem dX4_blocks_16 : decode cX4_blocks 16 = .ok (.ifCond .eq 7, 3) := by decide +kernel
theorem dX4_blocks_19 : decode cX4_blocks 19 = .ok (.iconst 1, 1) := by decide +kernel
theorem dX4_blocks_20 : decode cX4_blocks 20 = .ok (.goto 4, 3) := by decide +kernel
theorem dX4_blocks_23 : decode cX4_blocks 23 = .ok (.iconst 0, 1) := by decide +kernel
theorem dX4_blocks_24 : decode cX4_blocks 24 = .ok (.iadd, 1) := by decide +kernel
theorem dX4_blocks_25 : decode cX4_blocks 25 = .ok (.istore_n 1, 1) := by decide +kernel
theorem dX4_blocks_26 : decode cX4_blocks 26 = .ok (.iinc 2 1, 3) := by decide +kernel
theorem dX4_blocks_29 : decode cX4_blocks 29 = .ok (.goto (-25), 3) := by decide +kernel
theorem dX4_blocks_32 : decode cX4_blocks 32 = .ok (.iload_n 1, 1) := by decide +kernel
theorem dX4_blocks_33 : decode cX4_blocks 33 = .ok (.ireturn, 1) := by decide +kernel
set_option maxRecDepth 20000 in
theorem ggX4_count_X4_inAll : GoodIn wsX4_count wsX4_inAll := goodIn_r _ [8, 9, 10, 11, 7, 12, 1, 40, 41, 42, 43, 44, 45, 46, 47] (by decide +kernel) (by decide +kernel)
set_option maxRecDepth 20000 in
theorem gX4_count_X4_inAll : GoodIn wsX4_count (wsV RX4 131 RX4 yX4_inAll wsX4_inAll) := goodIn_app (goodIn_of _ (by decide +kernel)) ggX4_count_X4_inAll
set_option maxRecDepth 20000 in
theorem ggX4_count_X4_blocks : GoodIn wsX4_count wsX4_blocks := goodIn_r _ [16, 17, 18, 19, 7, 20, 1, 21, 22, 23, 40, 41, 42, 43, 44, 45, 46, 47] (by decide +kernel) (by decide +kernel)
set_option maxRecDepth 20000 in
theorem gX4_count_X4_blocks : GoodIn wsX4_count (wsV RX4 134 RX4 yX4_blocks wsX4_blocks) := goodIn_app (goodIn_of _ (by decide +kernel)) ggX4_count_X4_blocks
set_option maxRecDepth 20000 in
theorem ggX4_count_X4_bits : GoodIn wsX4_count wsX4_bits := goodIn_r _ [27, 1, 40, 41, 42, 43, 44, 45, 46, 47] (by decide +kernel) (by decide +kernel)
set_option maxRecDepth 20000 in
theorem gX4_count_X4_bits : GoodIn wsX4_count (wsV RX4 137 RX4 yX4_bits wsX4_bits) := goodIn_app (goodIn_of _ (by decide +kernel)) ggX4_count_X4_bits
set_option maxRecDepth 20000 in
theorem ggX4_count_X4_full : GoodIn wsX4_count wsX4_full := goodIn_r _ [31, 32, 33, 34, 7, 35, 9, 10, 11, 12, 1, 40, 41, 42, 43, 44, 45, 46, 47] (by decide +kernel) (by decide +kernel)
set_option maxRecDepth 20000 in
theorem gX4_count_X4_full : GoodIn wsX4_count (wsV RX4 140 RX4 yX4_full wsX4_full) := goodIn_app (goodIn_of _ (by decide +kernel)) ggX4_count_X4_full
set_option maxRecDepth 20000 in
theorem ggX4_count_X4_runs : GoodIn wsX4_count wsX4_runs := goodIn_r _ [39, 1, 40, 41, 42, 43, 44, 45, 46, 47] (by decide +kernel) (by decide +kernel)
set_option maxRecDepth 20000 in
theorem gX4_count_X4_runs : GoodIn wsX4_count (wsV RX4 143 RX4 yX4_runs wsX4_runs) := goodIn_app (goodIn_of _ (by decide +kernel)) ggX4_count_X4_runs
theorem dX4_count_0 : decode cX4_count 0 = .ok (.iload_n 1, 1) := by decide +kernel
theorem dX4_count_1 : decode cX4_count 1 = .ok (.tableswitch 119 0 11 #[63, 63, 63, 63, 69, 74, 83, 88, 93, 93, 109, 114], 63) := by decide +kernel
theorem dX4_count_64 : decode cX4_count 64 = .ok (.aload_n 0, 1) := by decide +kernel
theorem dX4_count_65 : decode cX4_count 65 = .ok (.iload_n 1, 1) := by decide +kernel
theorem dX4_count_66 : decode cX4_count 66 = .ok (.invokevirtual 131, 3) := by decide +kernel
theorem dX4_count_69 : decode cX4_count 69 = .ok (.ireturn, 1) := by decide +kernel
theorem dX4_count_70 : decode cX4_count 70 = .ok (.aload_n 0, 1) := by decide +kernel
theorem dX4_count_71 : decode cX4_count 71 = .ok (.invokevirtual 134, 3) := by decide +kernel
theorem dX4_count_74 : decode cX4_count 74 = .ok (.ireturn, 1) := by decide +kernel
theorem dX4_count_75 : decode cX4_count 75 = .ok (.aload_n 0, 1) := by decide +kernel
theorem dX4_count_76 : decode cX4_count 76 = .ok (.getfield 7, 3) := by decide +kernel
theorem dX4_count_79 : decode cX4_count 79 = .ok (.sipush 666, 3) := by decide +kernel
theorem dX4_count_82 : decode cX4_count 82 = .ok (.iaload, 1) := by decide +kernel
theorem dX4_count_83 : decode cX4_count 83 = .ok (.ireturn, 1) := by decide +kernel
theorem dX4_count_84 : decode cX4_count 84 = .ok (.aload_n 0, 1) := by decide +kernel
theorem dX4_count_85 : decode cX4_count 85 = .ok (.invokevirtual 137, 3) := by decide +kernel
theorem dX4_count_88 : decode cX4_count 88 = .ok (.ireturn, 1) := by decide +kernel
theorem dX4_count_89 : decode cX4_count 89 = .ok (.aload_n 0, 1) := by decide +kernel
theorem dX4_count_90 : decode cX4_count 90 = .ok (.invokevirtual 140, 3) := by decide +kernel
theorem dX4_count_93 : decode cX4_count 93 = .ok (.ireturn, 1) := by decide +kernel
theorem dX4_count_94 : decode cX4_count 94 = .ok (.aload_n 0, 1) := by decide +kernel
theorem dX4_count_95 : decode cX4_count 95 = .ok (.iload_n 1, 1) := by decide +kernel
theorem dX4_count_96 : decode cX4_count 96 = .ok (.bipush 9, 2) := by decide +kernel
theorem dX4_count_98 : decode cX4_count 98 = .ok (.if_icmp .ne 7, 3) := by decide +kernel
theorem dX4_count_101 : decode cX4_count 101 = .ok (.iconst 1, 1) := by decide +kernel
theorem dX4_count_102 : decode cX4_count 102 = .ok (.goto 4, 3) := by decide +kernel
theorem dX4_count_105 : decode cX4_count 105 = .ok (.iconst 0, 1) := by decide +kernel
theorem dX4_count_106 : decode cX4_count 106 = .ok (.invokevirtual 143, 3) := by decide +kernel
theorem dX4_count_109 : decode cX4_count 109 = .ok (.ireturn, 1) := by decide +kernel
theorem dX4_count_110 : decode cX4_count 110 = .ok (.aload_n 0, 1) := by decide +kernel
theorem dX4_count_111 : decode cX4_count 111 = .ok (.getfield 29, 3) := by decide +kernel
theorem dX4_count_114 : decode cX4_count 114 = .ok (.ireturn, 1) := by decide +kernel
theorem dX4_count_115 : decode cX4_count 115 = .ok (.aload_n 0, 1) := by decide +kernel
theorem dX4_count_116 : decode cX4_count 116 = .ok (.getfield 102, 3) := by decide +kernel
theorem dX4_count_119 : decode cX4_count 119 = .ok (.ireturn, 1) := by decide +kernel
theorem dX4_count_120 : decode cX4_count 120 = .ok (.iconst (-1), 1) := by decide +kernel
theorem dX4_count_121 : decode cX4_count 121 = .ok (.ireturn, 1) := by decide +kernel
set_option maxRecDepth 20000 in
theorem ggX4_slot_X4_in : GoodIn wsX4_slot wsX4_in := goodIn_r _ [5] (by decide +kernel) (by decide +kernel)
set_option maxRecDepth 20000 in
theorem gX4_slot_X4_in : GoodIn wsX4_slot (va_wsS RX4 64 yX4_in wsX4_in) := goodIn_app (goodIn_of _ (by decide +kernel)) ggX4_slot_X4_in
theorem dX4_slot_0 : decode cX4_slot 0 = .ok (.iload_n 1, 1) := by decide +kernel
theorem dX4_slot_1 : decode cX4_slot 1 = .ok (.iconst 0, 1) := by decide +kernel
theorem dX4_slot_2 : decode cX4_slot 2 = .ok (.sipush 319, 3) := by decide +kernel
theorem dX4_slot_5 : decode cX4_slot 5 = .ok (.invokestatic 64, 3) := by decide +kernel
theorem dX4_slot_8 : decode cX4_slot 8 = .ok (.ifCond .eq 12, 3) := by decide +kernel
theorem dX4_slot_11 : decode cX4_slot 11 = .ok (.iload_n 2, 1) := by decide +kernel
theorem dX4_slot_12 : decode cX4_slot 12 = .ok (.iconst 0, 1) := by decide +kernel
theorem dX4_slot_13 : decode cX4_slot 13 = .ok (.iconst 1, 1) := by decide +kernel
theorem dX4_slot_14 : decode cX4_slot 14 = .ok (.invokestatic 64, 3) := by decide +kernel
theorem dX4_slot_17 : decode cX4_slot 17 = .ok (.ifCond .ne 5, 3) := by decide +kernel
theorem dX4_slot_20 : decode cX4_slot 20 = .ok (.iconst (-1), 1) := by decide +kernel
theorem dX4_slot_21 : decode cX4_slot 21 = .ok (.ireturn, 1) := by decide +kernel
theorem dX4_slot_22 : decode cX4_slot 22 = .ok (.iload_n 2, 1) := by decide +kernel
theorem dX4_slot_23 : decode cX4_slot 23 = .ok (.ifCond .ne 12, 3) := by decide +kernel
theorem dX4_slot_26 : decode cX4_slot 26 = .ok (.aload_n 0, 1) := by decide +kernel
theorem dX4_slot_27 : decode cX4_slot 27 = .ok (.getfield 7, 3) := by decide +kernel
theorem dX4_slot_30 : decode cX4_slot 30 = .ok (.iload_n 1, 1) := by decide +kernel
theorem dX4_slot_31 : decode cX4_slot 31 = .ok (.iaload, 1) := by decide +kernel
theorem dX4_slot_32 : decode cX4_slot 32 = .ok (.goto 33, 3) := by decide +kernel
theorem dX4_slot_35 : decode cX4_slot 35 = .ok (.aload_n 0, 1) := by decide +kernel
theorem dX4_slot_36 : decode cX4_slot 36 = .ok (.getfield 7, 3) := by decide +kernel
theorem dX4_slot_39 : decode cX4_slot 39 = .ok (.sipush 320, 3) := by decide +kernel
theorem dX4_slot_42 : decode cX4_slot 42 = .ok (.iload_n 1, 1) := by decide +kernel
theorem dX4_slot_43 : decode cX4_slot 43 = .ok (.iadd, 1) := by decide +kernel
theorem dX4_slot_44 : decode cX4_slot 44 = .ok (.iaload, 1) := by decide +kernel
theorem dX4_slot_45 : decode cX4_slot 45 = .ok (.ifCond .ne 8, 3) := by decide +kernel
theorem dX4_slot_48 : decode cX4_slot 48 = .ok (.bipush (-9), 2) := by decide +kernel
theorem dX4_slot_50 : decode cX4_slot 50 = .ok (.goto 15, 3) := by decide +kernel
theorem dX4_slot_53 : decode cX4_slot 53 = .ok (.aload_n 0, 1) := by decide +kernel
theorem dX4_slot_54 : decode cX4_slot 54 = .ok (.getfield 7, 3) := by decide +kernel
theorem dX4_slot_57 : decode cX4_slot 57 = .ok (.sipush 320, 3) := by decide +kernel
theorem dX4_slot_60 : decode cX4_slot 60 = .ok (.iload_n 1, 1) := by decide +kernel
theorem dX4_slot_61 : decode cX4_slot 61 = .ok (.iadd, 1) := by decide +kernel
theorem dX4_slot_62 : decode cX4_slot 62 = .ok (.iaload, 1) := by decide +kernel
theorem dX4_slot_63 : decode cX4_slot 63 = .ok (.iconst 1, 1) := by decide +kernel
theorem dX4_slot_64 : decode cX4_slot 64 = .ok (.isub, 1) := by decide +kernel
theorem dX4_slot_65 : decode cX4_slot 65 = .ok (.ireturn, 1) := by decide +kernel
set_option maxRecDepth 20000 in
theorem ggX4_word_X4_isWord : GoodIn wsX4_word wsX4_isWord := goodIn_r _ [5, 6, 7, 4, 8] (by decide +kernel) (by decide +kernel)
set_option maxRecDepth 20000 in
theorem gX4_word_X4_isWord : GoodIn wsX4_word (va_wsS RX4 93 yX4_isWord wsX4_isWord) := goodIn_app (goodIn_of _ (by decide +kernel)) ggX4_word_X4_isWord
set_option maxRecDepth 20000 in
theorem ggX4_word_X4_in : GoodIn wsX4_word wsX4_in := goodIn_r _ [8] (by decide +kernel) (by decide +kernel)
set_option maxRecDepth 20000 in
theorem gX4_word_X4_in : GoodIn wsX4_word (va_wsS RX4 64 yX4_in wsX4_in) := goodIn_app (goodIn_of _ (by decide +kernel)) ggX4_word_X4_in
set_option maxRecDepth 20000 in
theorem ggX4_word_X4_inWord : GoodIn wsX4_word wsX4_inWord := goodIn_r _ [12, 1, 21, 22, 23, 24, 25, 26, 27, 28] (by decide +kernel) (by decide +kernel)
set_option maxRecDepth 20000 in
theorem gX4_word_X4_inWord : GoodIn wsX4_word (wsV RX4 33 RX4 yX4_inWord wsX4_inWord) := goodIn_app (goodIn_of _ (by decide +kernel)) ggX4_word_X4_inWord
set_option maxRecDepth 20000 in
theorem ggX4_word_X4_right : GoodIn wsX4_word wsX4_right := goodIn_r _ [16, 9, 10, 11, 4, 12, 1, 21, 22, 23, 24, 25, 26, 27, 28] (by decide +kernel) (by decide +kernel)
set_option maxRecDepth 20000 in
theorem gX4_word_X4_right : GoodIn wsX4_word (wsV RX4 37 RX4 yX4_right wsX4_right) := goodIn_app (goodIn_of _ (by decide +kernel)) ggX4_word_X4_right
set_option maxRecDepth 20000 in
theorem ggX4_word_X4_firstIn : GoodIn wsX4_word wsX4_firstIn := goodIn_r _ [20, 1, 21, 22, 23, 24, 25, 26, 27, 28] (by decide +kernel) (by decide +kernel)
set_option maxRecDepth 20000 in
theorem gX4_word_X4_firstIn : GoodIn wsX4_word (wsV RX4 41 RX4 yX4_firstIn wsX4_firstIn) := goodIn_app (goodIn_of _ (by decide +kernel)) ggX4_word_X4_firstIn
theorem dX4_word_0 : decode cX4_word 0 = .ok (.iload_n 1, 1) := by decide +kernel
theorem dX4_word_1 : decode cX4_word 1 = .ok (.invokestatic 93, 3) := by decide +kernel
theorem dX4_word_4 : decode cX4_word 4 = .ok (.ifCond .eq 13, 3) := by decide +kernel
theorem dX4_word_7 : decode cX4_word 7 = .ok (.iload_n 2, 1) := by decide +kernel
theorem dX4_word_8 : decode cX4_word 8 = .ok (.iconst 0, 1) := by decide +kernel
theorem dX4_word_9 : decode cX4_word 9 = .ok (.bipush 6, 2) := by decide +kernel
theorem dX4_word_11 : decode cX4_word 11 = .ok (.invokestatic 64, 3) := by decide +kernel
theorem dX4_word_14 : decode cX4_word 14 = .ok (.ifCond .ne 5, 3) := by decide +kernel
theorem dX4_word_17 : decode cX4_word 17 = .ok (.iconst (-1), 1) := by decide +kernel
theorem dX4_word_18 : decode cX4_word 18 = .ok (.ireturn, 1) := by decide +kernel
theorem dX4_word_19 : decode cX4_word 19 = .ok (.iload_n 2, 1) := by decide +kernel
theorem dX4_word_20 : decode cX4_word 20 = .ok (.iconst 4, 1) := by decide +kernel
theorem dX4_word_21 : decode cX4_word 21 = .ok (.if_icmp .ge 12, 3) := by decide +kernel
theorem dX4_word_24 : decode cX4_word 24 = .ok (.aload_n 0, 1) := by decide +kernel
theorem dX4_word_25 : decode cX4_word 25 = .ok (.iload_n 1, 1) := by decide +kernel
theorem dX4_word_26 : decode cX4_word 26 = .ok (.iload_n 2, 1) := by decide +kernel
theorem dX4_word_27 : decode cX4_word 27 = .ok (.invokevirtual 33, 3) := by decide +kernel
theorem dX4_word_30 : decode cX4_word 30 = .ok (.goto 39, 3) := by decide +kernel
theorem dX4_word_33 : decode cX4_word 33 = .ok (.iload_n 2, 1) := by decide +kernel
theorem dX4_word_34 : decode cX4_word 34 = .ok (.iconst 4, 1) := by decide +kernel
theorem dX4_word_35 : decode cX4_word 35 = .ok (.if_icmp .ne 16, 3) := by decide +kernel
theorem dX4_word_38 : decode cX4_word 38 = .ok (.aload_n 0, 1) := by decide +kernel
theorem dX4_word_39 : decode cX4_word 39 = .ok (.getfield 7, 3) := by decide +kernel
theorem dX4_word_42 : decode cX4_word 42 = .ok (.sipush 640, 3) := by decide +kernel
theorem dX4_word_45 : decode cX4_word 45 = .ok (.iload_n 1, 1) := by decide +kernel
theorem dX4_word_46 : decode cX4_word 46 = .ok (.iadd, 1) := by decide +kernel
theorem dX4_word_47 : decode cX4_word 47 = .ok (.iaload, 1) := by decide +kernel
theorem dX4_word_48 : decode cX4_word 48 = .ok (.goto 21, 3) := by decide +kernel
theorem dX4_word_51 : decode cX4_word 51 = .ok (.iload_n 2, 1) := by decide +kernel
theorem dX4_word_52 : decode cX4_word 52 = .ok (.iconst 5, 1) := by decide +kernel
theorem dX4_word_53 : decode cX4_word 53 = .ok (.if_icmp .ne 11, 3) := by decide +kernel
theorem dX4_word_56 : decode cX4_word 56 = .ok (.aload_n 0, 1) := by decide +kernel
theorem dX4_word_57 : decode cX4_word 57 = .ok (.iload_n 1, 1) := by decide +kernel
theorem dX4_word_58 : decode cX4_word 58 = .ok (.invokevirtual 37, 3) := by decide +kernel
theorem dX4_word_61 : decode cX4_word 61 = .ok (.goto 8, 3) := by decide +kernel
theorem dX4_word_64 : decode cX4_word 64 = .ok (.aload_n 0, 1) := by decide +kernel
theorem dX4_word_65 : decode cX4_word 65 = .ok (.iload_n 1, 1) := by decide +kernel
theorem dX4_word_66 : decode cX4_word 66 = .ok (.invokevirtual 41, 3) := by decide +kernel
theorem dX4_word_69 : decode cX4_word 69 = .ok (.ireturn, 1) := by decide +kernel
set_option maxRecDepth 20000 in
theorem ggX4_block_X4_in : GoodIn wsX4_block wsX4_in := goodIn_r _ [5] (by decide +kernel) (by decide +kernel)
set_option maxRecDepth 20000 in
theorem gX4_block_X4_in : GoodIn wsX4_block (va_wsS RX4 64 yX4_in wsX4_in) := goodIn_app (goodIn_of _ (by decide +kernel)) ggX4_block_X4_in
set_option maxRecDepth 20000 in
theorem ggX4_block_X4_isBlock : GoodIn wsX4_block wsX4_isBlock := goodIn_r _ [9, 1, 2, 3, 4, 5, 10, 11, 12, 13, 14, 15, 16, 17] (by decide +kernel) (by decide +kernel)
set_option maxRecDepth 20000 in
theorem gX4_block_X4_isBlock : GoodIn wsX4_block (wsV RX4 81 RX4 yX4_isBlock wsX4_isBlock) := goodIn_app (goodIn_of _ (by decide +kernel)) ggX4_block_X4_isBlock
theorem dX4_block_0 : decode cX4_block 0 = .ok (.iload_n 1, 1) := by decide +kernel
theorem dX4_block_1 : decode cX4_block 1 = .ok (.iconst 0, 1) := by decide +kernel
theorem dX4_block_2 : decode cX4_block 2 = .ok (.bipush 7, 2) := by decide +kernel
theorem dX4_block_4 : decode cX4_block 4 = .ok (.invokestatic 64, 3) := by decide +kernel
theorem dX4_block_7 : decode cX4_block 7 = .ok (.ifCond .eq 12, 3) := by decide +kernel
theorem dX4_block_10 : decode cX4_block 10 = .ok (.iload_n 2, 1) := by decide +kernel
theorem dX4_block_11 : decode cX4_block 11 = .ok (.iconst 0, 1) := by decide +kernel
theorem dX4_block_12 : decode cX4_block 12 = .ok (.iconst 3, 1) := by decide +kernel
theorem dX4_block_13 : decode cX4_block 13 = .ok (.invokestatic 64, 3) := by decide +kernel
theorem dX4_block_16 : decode cX4_block 16 = .ok (.ifCond .ne 5, 3) := by decide +kernel
theorem dX4_block_19 : decode cX4_block 19 = .ok (.iconst (-1), 1) := by decide +kernel
theorem dX4_block_20 : decode cX4_block 20 = .ok (.ireturn, 1) := by decide +kernel
theorem dX4_block_21 : decode cX4_block 21 = .ok (.aload_n 0, 1) := by decide +kernel
theorem dX4_block_22 : decode cX4_block 22 = .ok (.iload_n 1, 1) := by decide +kernel
theorem dX4_block_23 : decode cX4_block 23 = .ok (.invokevirtual 81, 3) := by decide +kernel
theorem dX4_block_26 : decode cX4_block 26 = .ok (.ifCond .ne 6, 3) := by decide +kernel
theorem dX4_block_29 : decode cX4_block 29 = .ok (.bipush (-9), 2) := by decide +kernel
theorem dX4_block_31 : decode cX4_block 31 = .ok (.ireturn, 1) := by decide +kernel
theorem dX4_block_32 : decode cX4_block 32 = .ok (.aload_n 0, 1) := by decide +kernel
theorem dX4_block_33 : decode cX4_block 33 = .ok (.getfield 7, 3) := by decide +kernel
theorem dX4_block_36 : decode cX4_block 36 = .ok (.sipush 650, 3) := by decide +kernel
theorem dX4_block_39 : decode cX4_block 39 = .ok (.iconst 2, 1) := by decide +kernel
theorem dX4_block_40 : decode cX4_block 40 = .ok (.iload_n 1, 1) := by decide +kernel
theorem dX4_block_41 : decode cX4_block 41 = .ok (.imul, 1) := by decide +kernel
theorem dX4_block_42 : decode cX4_block 42 = .ok (.iadd, 1) := by decide +kernel
theorem dX4_block_43 : decode cX4_block 43 = .ok (.iaload, 1) := by decide +kernel
theorem dX4_block_44 : decode cX4_block 44 = .ok (.istore_n 3, 1) := by decide +kernel
theorem dX4_block_45 : decode cX4_block 45 = .ok (.aload_n 0, 1) := by decide +kernel
theorem dX4_block_46 : decode cX4_block 46 = .ok (.getfield 7, 3) := by decide +kernel
theorem dX4_block_49 : decode cX4_block 49 = .ok (.sipush 650, 3) := by decide +kernel
theorem dX4_block_52 : decode cX4_block 52 = .ok (.iconst 2, 1) := by decide +kernel
theorem dX4_block_53 : decode cX4_block 53 = .ok (.iload_n 1, 1) := by decide +kernel
theorem dX4_block_54 : decode cX4_block 54 = .ok (.imul, 1) := by decide +kernel
theorem dX4_block_55 : decode cX4_block 55 = .ok (.iadd, 1) := by decide +kernel
theorem dX4_block_56 : decode cX4_block 56 = .ok (.iconst 1, 1) := by decide +kernel
theorem dX4_block_57 : decode cX4_block 57 = .ok (.iadd, 1) := by decide +kernel
theorem dX4_block_58 : decode cX4_block 58 = .ok (.iaload, 1) := by decide +kernel
theorem dX4_block_59 : decode cX4_block 59 = .ok (.istore 4, 2) := by decide +kernel
theorem dX4_block_61 : decode cX4_block 61 = .ok (.iconst 0, 1) := by decide +kernel
theorem dX4_block_62 : decode cX4_block 62 = .ok (.istore 5, 2) := by decide +kernel
theorem dX4_block_64 : decode cX4_block 64 = .ok (.iload_n 3, 1) := by decide +kernel
theorem dX4_block_65 : decode cX4_block 65 = .ok (.istore 6, 2) := by decide +kernel
theorem dX4_block_67 : decode cX4_block 67 = .ok (.iload 6, 2) := by decide +kernel
theorem dX4_block_69 : decode cX4_block 69 = .ok (.iload_n 3, 1) := by decide +kernel
theorem dX4_block_70 : decode cX4_block 70 = .ok (.iload 4, 2) := by decide +kernel
theorem dX4_block_72 : decode cX4_block 72 = .ok (.iadd, 1) := by decide +kernel
theorem dX4_block_73 : decode cX4_block 73 = .ok (.if_icmp .ge 39, 3) := by decide +kernel
theorem dX4_block_76 : decode cX4_block 76 = .ok (.iload 5, 2) := by decide +kernel
theorem dX4_block_78 : decode cX4_block 78 = .ok (.aload_n 0, 1) := by decide +kernel
theorem dX4_block_79 : decode cX4_block 79 = .ok (.getfield 7, 3) := by decide +kernel
theorem dX4_block_82 : decode cX4_block 82 = .ok (.iload 6, 2) := by decide +kernel
theorem dX4_block_84 : decode cX4_block 84 = .ok (.iaload, 1) := by decide +kernel
theorem dX4_block_85 : decode cX4_block 85 = .ok (.iload_n 2, 1) := by decide +kernel
theorem dX4_block_86 : decode cX4_block 86 = .ok (.iconst 2, 1) := by decide +kernel
theorem dX4_block_87 : decode cX4_block 87 = .ok (.if_icmp .ne 7, 3) := by decide +kernel
theorem dX4_block_90 : decode cX4_block 90 = .ok (.iconst 1, 1) := by decide +kernel
theorem dX4_block_91 : decode cX4_block 91 = .ok (.goto 4, 3) := by decide +kernel
theorem dX4_block_94 : decode cX4_block 94 = .ok (.iconst 3, 1) := by decide +kernel
theorem dX4_block_95 : decode cX4_block 95 = .ok (.if_icmp .ne 7, 3) := by decide +kernel
theorem dX4_block_98 : decode cX4_block 98 = .ok (.iconst 1, 1) := by decide +kernel
theorem dX4_block_99 : decode cX4_block 99 = .ok (.goto 4, 3) := by decide +kernel
theorem dX4_block_102 : decode cX4_block 102 = .ok (.iconst 0, 1) := by decide +kernel
theorem dX4_block_103 : decode cX4_block 103 = .ok (.iadd, 1) := by decide +kernel
theorem dX4_block_104 : decode cX4_block 104 = .ok (.istore 5, 2) := by decide +kernel
theorem dX4_block_106 : decode cX4_block 106 = .ok (.iinc 6 1, 3) := by decide +kernel
theorem dX4_block_109 : decode cX4_block 109 = .ok (.goto (-42), 3) := by decide +kernel
theorem dX4_block_112 : decode cX4_block 112 = .ok (.iload_n 2, 1) := by decide +kernel
theorem dX4_block_113 : decode cX4_block 113 = .ok (.ifCond .ne 7, 3) := by decide +kernel
theorem dX4_block_116 : decode cX4_block 116 = .ok (.iload_n 3, 1) := by decide +kernel
theorem dX4_block_117 : decode cX4_block 117 = .ok (.goto 15, 3) := by decide +kernel
theorem dX4_block_120 : decode cX4_block 120 = .ok (.iload_n 2, 1) := by decide +kernel
theorem dX4_block_121 : decode cX4_block 121 = .ok (.iconst 1, 1) := by decide +kernel
theorem dX4_block_122 : decode cX4_block 122 = .ok (.if_icmp .ne 8, 3) := by decide +kernel
theorem dX4_block_125 : decode cX4_block 125 = .ok (.iload 4, 2) := by decide +kernel
theorem dX4_block_127 : decode cX4_block 127 = .ok (.goto 5, 3) := by decide +kernel
theorem dX4_block_130 : decode cX4_block 130 = .ok (.iload 5, 2) := by decide +kernel
theorem dX4_block_132 : decode cX4_block 132 = .ok (.ireturn, 1) := by decide +kernel
set_option maxRecDepth 20000 in
theorem ggX4_audit_X4_in : GoodIn wsX4_audit wsX4_in := goodIn_r _ [5] (by decide +kernel) (by decide +kernel)
set_option maxRecDepth 20000 in
theorem gX4_audit_X4_in : GoodIn wsX4_audit (va_wsS RX4 64 yX4_in wsX4_in) := goodIn_app (goodIn_of _ (by decide +kernel)) ggX4_audit_X4_in
set_option maxRecDepth 20000 in
theorem ggX4_audit_X4_right : GoodIn wsX4_audit wsX4_right := goodIn_r _ [9, 10, 11, 12, 4, 13, 1, 14, 15, 16, 17, 18, 19, 20, 21] (by decide +kernel) (by decide +kernel)
set_option maxRecDepth 20000 in
theorem gX4_audit_X4_right : GoodIn wsX4_audit (wsV RX4 37 RX4 yX4_right wsX4_right) := goodIn_app (goodIn_of _ (by decide +kernel)) ggX4_audit_X4_right
theorem dX4_audit_0 : decode cX4_audit 0 = .ok (.iload_n 1, 1) := by decide +kernel
theorem dX4_audit_1 : decode cX4_audit 1 = .ok (.iconst 0, 1) := by decide +kernel
theorem dX4_audit_2 : decode cX4_audit 2 = .ok (.iconst 2, 1) := by decide +kernel
theorem dX4_audit_3 : decode cX4_audit 3 = .ok (.invokestatic 64, 3) := by decide +kernel
theorem dX4_audit_6 : decode cX4_audit 6 = .ok (.ifCond .ne 5, 3) := by decide +kernel
theorem dX4_audit_9 : decode cX4_audit 9 = .ok (.iconst (-1), 1) := by decide +kernel
theorem dX4_audit_10 : decode cX4_audit 10 = .ok (.ireturn, 1) := by decide +kernel
theorem dX4_audit_11 : decode cX4_audit 11 = .ok (.iconst 0, 1) := by decide +kernel
theorem dX4_audit_12 : decode cX4_audit 12 = .ok (.istore_n 2, 1) := by decide +kernel
theorem dX4_audit_13 : decode cX4_audit 13 = .ok (.iconst 0, 1) := by decide +kernel
theorem dX4_audit_14 : decode cX4_audit 14 = .ok (.istore_n 3, 1) := by decide +kernel
theorem dX4_audit_15 : decode cX4_audit 15 = .ok (.bipush (-9), 2) := by decide +kernel
theorem dX4_audit_17 : decode cX4_audit 17 = .ok (.istore 4, 2) := by decide +kernel
theorem dX4_audit_19 : decode cX4_audit 19 = .ok (.bipush 9, 2) := by decide +kernel
theorem dX4_audit_21 : decode cX4_audit 21 = .ok (.istore 5, 2) := by decide +kernel
theorem dX4_audit_23 : decode cX4_audit 23 = .ok (.iload 5, 2) := by decide +kernel
theorem dX4_audit_25 : decode cX4_audit 25 = .ok (.ifCond .lt 86, 3) := by decide +kernel
theorem dX4_audit_28 : decode cX4_audit 28 = .ok (.aload_n 0, 1) := by decide +kernel
theorem dX4_audit_29 : decode cX4_audit 29 = .ok (.getfield 7, 3) := by decide +kernel
theorem dX4_audit_32 : decode cX4_audit 32 = .ok (.sipush 640, 3) := by decide +kernel
theorem dX4_audit_35 : decode cX4_audit 35 = .ok (.iload 5, 2) := by decide +kernel
theorem dX4_audit_37 : decode cX4_audit 37 = .ok (.iadd, 1) := by decide +kernel
theorem dX4_audit_38 : decode cX4_audit 38 = .ok (.iaload, 1) := by decide +kernel
theorem dX4_audit_39 : decode cX4_audit 39 = .ok (.aload_n 0, 1) := by decide +kernel
theorem dX4_audit_40 : decode cX4_audit 40 = .ok (.iload 5, 2) := by decide +kernel
theorem dX4_audit_42 : decode cX4_audit 42 = .ok (.invokevirtual 37, 3) := by decide +kernel
theorem dX4_audit_45 : decode cX4_audit 45 = .ok (.if_icmp .eq 7, 3) := by decide +kernel
theorem dX4_audit_48 : decode cX4_audit 48 = .ok (.iconst 1, 1) := by decide +kernel
theorem dX4_audit_49 : decode cX4_audit 49 = .ok (.goto 4, 3) := by decide +kernel
theorem dX4_audit_52 : decode cX4_audit 52 = .ok (.iconst 0, 1) := by decide +kernel
theorem dX4_audit_53 : decode cX4_audit 53 = .ok (.istore 6, 2) := by decide +kernel
theorem dX4_audit_55 : decode cX4_audit 55 = .ok (.iload_n 2, 1) := by decide +kernel
theorem dX4_audit_56 : decode cX4_audit 56 = .ok (.iload 6, 2) := by decide +kernel
theorem dX4_audit_58 : decode cX4_audit 58 = .ok (.ifCond .eq 7, 3) := by decide +kernel
theorem dX4_audit_61 : decode cX4_audit 61 = .ok (.iconst 1, 1) := by decide +kernel
theorem dX4_audit_62 : decode cX4_audit 62 = .ok (.goto 4, 3) := by decide +kernel
theorem dX4_audit_65 : decode cX4_audit 65 = .ok (.iconst 0, 1) := by decide +kernel
theorem dX4_audit_66 : decode cX4_audit 66 = .ok (.iadd, 1) := by decide +kernel
theorem dX4_audit_67 : decode cX4_audit 67 = .ok (.istore_n 2, 1) := by decide +kernel
theorem dX4_audit_68 : decode cX4_audit 68 = .ok (.iload_n 3, 1) := by decide +kernel
theorem dX4_audit_69 : decode cX4_audit 69 = .ok (.iload 6, 2) := by decide +kernel
theorem dX4_audit_71 : decode cX4_audit 71 = .ok (.ifCond .eq 17, 3) := by decide +kernel
theorem dX4_audit_74 : decode cX4_audit 74 = .ok (.aload_n 0, 1) := by decide +kernel
theorem dX4_audit_75 : decode cX4_audit 75 = .ok (.getfield 7, 3) := by decide +kernel
theorem dX4_audit_78 : decode cX4_audit 78 = .ok (.sipush 640, 3) := by decide +kernel
theorem dX4_audit_81 : decode cX4_audit 81 = .ok (.iload 5, 2) := by decide +kernel
theorem dX4_audit_83 : decode cX4_audit 83 = .ok (.iadd, 1) := by decide +kernel
theorem dX4_audit_84 : decode cX4_audit 84 = .ok (.iaload, 1) := by decide +kernel
theorem dX4_audit_85 : decode cX4_audit 85 = .ok (.goto 4, 3) := by decide +kernel
theorem dX4_audit_88 : decode cX4_audit 88 = .ok (.iconst 0, 1) := by decide +kernel
theorem dX4_audit_89 : decode cX4_audit 89 = .ok (.iadd, 1) := by decide +kernel
theorem dX4_audit_90 : decode cX4_audit 90 = .ok (.istore_n 3, 1) := by decide +kernel
theorem dX4_audit_91 : decode cX4_audit 91 = .ok (.iload 6, 2) := by decide +kernel
theorem dX4_audit_93 : decode cX4_audit 93 = .ok (.ifCond .eq 8, 3) := by decide +kernel
theorem dX4_audit_96 : decode cX4_audit 96 = .ok (.iload 5, 2) := by decide +kernel
theorem dX4_audit_98 : decode cX4_audit 98 = .ok (.goto 5, 3) := by decide +kernel
theorem dX4_audit_101 : decode cX4_audit 101 = .ok (.iload 4, 2) := by decide +kernel
theorem dX4_audit_103 : decode cX4_audit 103 = .ok (.istore 4, 2) := by decide +kernel
theorem dX4_audit_105 : decode cX4_audit 105 = .ok (.iinc 5 (-1), 3) := by decide +kernel
theorem dX4_audit_108 : decode cX4_audit 108 = .ok (.goto (-85), 3) := by decide +kernel
theorem dX4_audit_111 : decode cX4_audit 111 = .ok (.iload_n 1, 1) := by decide +kernel
theorem dX4_audit_112 : decode cX4_audit 112 = .ok (.ifCond .ne 7, 3) := by decide +kernel
theorem dX4_audit_115 : decode cX4_audit 115 = .ok (.iload_n 2, 1) := by decide +kernel
theorem dX4_audit_116 : decode cX4_audit 116 = .ok (.goto 14, 3) := by decide +kernel
theorem dX4_audit_119 : decode cX4_audit 119 = .ok (.iload_n 1, 1) := by decide +kernel
theorem dX4_audit_120 : decode cX4_audit 120 = .ok (.iconst 1, 1) := by decide +kernel
theorem dX4_audit_121 : decode cX4_audit 121 = .ok (.if_icmp .ne 8, 3) := by decide +kernel
theorem dX4_audit_124 : decode cX4_audit 124 = .ok (.iload 4, 2) := by decide +kernel
theorem dX4_audit_126 : decode cX4_audit 126 = .ok (.goto 4, 3) := by decide +kernel
theorem dX4_audit_129 : decode cX4_audit 129 = .ok (.iload_n 3, 1) := by decide +kernel
theorem dX4_audit_130 : decode cX4_audit 130 = .ok (.ireturn, 1) := by decide +kernel
set_option maxRecDepth 20000 in
theorem ggX4_next_X4_in : GoodIn wsX4_next wsX4_in := goodIn_r _ [6] (by decide +kernel) (by decide +kernel)
set_option maxRecDepth 20000 in
theorem gX4_next_X4_in : GoodIn wsX4_next (va_wsS RX4 64 yX4_in wsX4_in) := goodIn_app (goodIn_of _ (by decide +kernel)) ggX4_next_X4_in
set_option maxRecDepth 20000 in
theorem ggX4_next_X4_copies : GoodIn wsX4_next wsX4_copies := goodIn_r _ [9] (by decide +kernel) (by decide +kernel)
set_option maxRecDepth 20000 in
theorem gX4_next_X4_copies : GoodIn wsX4_next (va_wsS RX4 25 yX4_copies wsX4_copies) := goodIn_app (goodIn_of _ (by decide +kernel)) ggX4_next_X4_copies
set_option maxRecDepth 20000 in
theorem ggX4_next_X4_inAll : GoodIn wsX4_next wsX4_inAll := goodIn_r _ [13, 14, 15, 16, 5, 17, 1, 42, 43, 44, 45, 46, 47, 48, 49] (by decide +kernel) (by decide +kernel)
set_option maxRecDepth 20000 in
theorem gX4_next_X4_inAll : GoodIn wsX4_next (wsV RX4 131 RX4 yX4_inAll wsX4_inAll) := goodIn_app (goodIn_of _ (by decide +kernel)) ggX4_next_X4_inAll
set_option maxRecDepth 20000 in
theorem ggX4_next_X4_takes1 : GoodIn wsX4_next wsX4_takes1 := goodIn_r _ [21, 22, 23, 24, 5, 25, 1, 26, 27, 28, 29, 30, 31, 32, 33, 34, 35, 36, 37, 14, 15, 16, 17, 38, 39, 40, 41, 42, 43, 44, 45, 46, 47, 48, 49] (by decide +kernel) (by decide +kernel)
set_option maxRecDepth 20000 in
theorem gX4_next_X4_takes1 : GoodIn wsX4_next (wsV RX4 58 RX4 yX4_takes1 wsX4_takes1) := goodIn_app (goodIn_of _ (by decide +kernel)) ggX4_next_X4_takes1
theorem dX4_next_0 : decode cX4_next 0 = .ok (.iload_n 1, 1) := by decide +kernel
theorem dX4_next_1 : decode cX4_next 1 = .ok (.iconst 0, 1) := by decide +kernel
theorem dX4_next_2 : decode cX4_next 2 = .ok (.iconst 2, 1) := by decide +kernel
theorem dX4_next_3 : decode cX4_next 3 = .ok (.invokestatic 64, 3) := by decide +kernel
theorem dX4_next_6 : decode cX4_next 6 = .ok (.ifCond .ne 5, 3) := by decide +kernel
theorem dX4_next_9 : decode cX4_next 9 = .ok (.iconst (-1), 1) := by decide +kernel
theorem dX4_next_10 : decode cX4_next 10 = .ok (.ireturn, 1) := by decide +kernel
theorem dX4_next_11 : decode cX4_next 11 = .ok (.aload_n 0, 1) := by decide +kernel
theorem dX4_next_12 : decode cX4_next 12 = .ok (.getfield 7, 3) := by decide +kernel
theorem dX4_next_15 : decode cX4_next 15 = .ok (.iconst 0, 1) := by decide +kernel
theorem dX4_next_16 : decode cX4_next 16 = .ok (.aload_n 0, 1) := by decide +kernel
theorem dX4_next_17 : decode cX4_next 17 = .ok (.getfield 19, 3) := by decide +kernel
theorem dX4_next_20 : decode cX4_next 20 = .ok (.iconst 0, 1) := by decide +kernel
theorem dX4_next_21 : decode cX4_next 21 = .ok (.invokestatic 25, 3) := by decide +kernel
theorem dX4_next_24 : decode cX4_next 24 = .ok (.aload_n 0, 1) := by decide +kernel
theorem dX4_next_25 : decode cX4_next 25 = .ok (.iconst 2, 1) := by decide +kernel
theorem dX4_next_26 : decode cX4_next 26 = .ok (.invokevirtual 131, 3) := by decide +kernel
theorem dX4_next_29 : decode cX4_next 29 = .ok (.istore_n 2, 1) := by decide +kernel
theorem dX4_next_30 : decode cX4_next 30 = .ok (.aload_n 0, 1) := by decide +kernel
theorem dX4_next_31 : decode cX4_next 31 = .ok (.invokevirtual 58, 3) := by decide +kernel
theorem dX4_next_34 : decode cX4_next 34 = .ok (.istore_n 3, 1) := by decide +kernel
theorem dX4_next_35 : decode cX4_next 35 = .ok (.aload_n 0, 1) := by decide +kernel
theorem dX4_next_36 : decode cX4_next 36 = .ok (.getfield 7, 3) := by decide +kernel
theorem dX4_next_39 : decode cX4_next 39 = .ok (.sipush 666, 3) := by decide +kernel
theorem dX4_next_42 : decode cX4_next 42 = .ok (.iaload, 1) := by decide +kernel
theorem dX4_next_43 : decode cX4_next 43 = .ok (.aload_n 0, 1) := by decide +kernel
theorem dX4_next_44 : decode cX4_next 44 = .ok (.getfield 19, 3) := by decide +kernel
theorem dX4_next_47 : decode cX4_next 47 = .ok (.sipush 666, 3) := by decide +kernel
theorem dX4_next_50 : decode cX4_next 50 = .ok (.iaload, 1) := by decide +kernel
theorem dX4_next_51 : decode cX4_next 51 = .ok (.isub, 1) := by decide +kernel
theorem dX4_next_52 : decode cX4_next 52 = .ok (.istore 4, 2) := by decide +kernel
theorem dX4_next_54 : decode cX4_next 54 = .ok (.aload_n 0, 1) := by decide +kernel
theorem dX4_next_55 : decode cX4_next 55 = .ok (.iconst 2, 1) := by decide +kernel
theorem dX4_next_56 : decode cX4_next 56 = .ok (.invokevirtual 131, 3) := by decide +kernel
theorem dX4_next_59 : decode cX4_next 59 = .ok (.iload_n 2, 1) := by decide +kernel
theorem dX4_next_60 : decode cX4_next 60 = .ok (.if_icmp .ge 7, 3) := by decide +kernel
theorem dX4_next_63 : decode cX4_next 63 = .ok (.iconst 1, 1) := by decide +kernel
theorem dX4_next_64 : decode cX4_next 64 = .ok (.goto 4, 3) := by decide +kernel
theorem dX4_next_67 : decode cX4_next 67 = .ok (.iconst 0, 1) := by decide +kernel
theorem dX4_next_68 : decode cX4_next 68 = .ok (.istore 5, 2) := by decide +kernel
theorem dX4_next_70 : decode cX4_next 70 = .ok (.aload_n 0, 1) := by decide +kernel
theorem dX4_next_71 : decode cX4_next 71 = .ok (.getfield 19, 3) := by decide +kernel
theorem dX4_next_74 : decode cX4_next 74 = .ok (.iconst 0, 1) := by decide +kernel
theorem dX4_next_75 : decode cX4_next 75 = .ok (.aload_n 0, 1) := by decide +kernel
theorem dX4_next_76 : decode cX4_next 76 = .ok (.getfield 7, 3) := by decide +kernel
theorem dX4_next_79 : decode cX4_next 79 = .ok (.iconst 0, 1) := by decide +kernel
theorem dX4_next_80 : decode cX4_next 80 = .ok (.invokestatic 25, 3) := by decide +kernel
theorem dX4_next_83 : decode cX4_next 83 = .ok (.iload_n 3, 1) := by decide +kernel
theorem dX4_next_84 : decode cX4_next 84 = .ok (.ifCond .ge 8, 3) := by decide +kernel
theorem dX4_next_87 : decode cX4_next 87 = .ok (.bipush (-9), 2) := by decide +kernel
theorem dX4_next_89 : decode cX4_next 89 = .ok (.goto 31, 3) := by decide +kernel
theorem dX4_next_92 : decode cX4_next 92 = .ok (.iload_n 1, 1) := by decide +kernel
theorem dX4_next_93 : decode cX4_next 93 = .ok (.ifCond .ne 7, 3) := by decide +kernel
theorem dX4_next_96 : decode cX4_next 96 = .ok (.iload_n 3, 1) := by decide +kernel
theorem dX4_next_97 : decode cX4_next 97 = .ok (.goto 23, 3) := by decide +kernel
theorem dX4_next_100 : decode cX4_next 100 = .ok (.iload_n 1, 1) := by decide +kernel
theorem dX4_next_101 : decode cX4_next 101 = .ok (.iconst 1, 1) := by decide +kernel
theorem dX4_next_102 : decode cX4_next 102 = .ok (.if_icmp .ne 8, 3) := by decide +kernel
theorem dX4_next_105 : decode cX4_next 105 = .ok (.iload 4, 2) := by decide +kernel
theorem dX4_next_107 : decode cX4_next 107 = .ok (.goto 13, 3) := by decide +kernel
theorem dX4_next_110 : decode cX4_next 110 = .ok (.iload 5, 2) := by decide +kernel
theorem dX4_next_112 : decode cX4_next 112 = .ok (.ifCond .eq 7, 3) := by decide +kernel
theorem dX4_next_115 : decode cX4_next 115 = .ok (.iconst 1, 1) := by decide +kernel
theorem dX4_next_116 : decode cX4_next 116 = .ok (.goto 4, 3) := by decide +kernel
theorem dX4_next_119 : decode cX4_next 119 = .ok (.iconst 0, 1) := by decide +kernel
theorem dX4_next_120 : decode cX4_next 120 = .ok (.ireturn, 1) := by decide +kernel
set_option maxRecDepth 20000 in
theorem ggX4_runAt_X4_in : GoodIn wsX4_runAt wsX4_in := goodIn_r _ [4] (by decide +kernel) (by decide +kernel)
set_option maxRecDepth 20000 in
theorem gX4_runAt_X4_in : GoodIn wsX4_runAt (va_wsS RX4 64 yX4_in wsX4_in) := goodIn_app (goodIn_of _ (by decide +kernel)) ggX4_runAt_X4_in
set_option maxRecDepth 20000 in
theorem ggX4_runAt_X4_runFrom : GoodIn wsX4_runAt wsX4_runFrom := goodIn_r _ [8, 9, 10, 11, 12, 13, 14, 15, 16, 17] (by decide +kernel) (by decide +kernel)
set_option maxRecDepth 20000 in
theorem gX4_runAt_X4_runFrom : GoodIn wsX4_runAt (wsV RX4 68 RX4 yX4_runFrom wsX4_runFrom) := goodIn_app (goodIn_of _ (by decide +kernel)) ggX4_runAt_X4_runFrom
theorem dX4_runAt_0 : decode cX4_runAt 0 = .ok (.iload_n 1, 1) := by decide +kernel
theorem dX4_runAt_1 : decode cX4_runAt 1 = .ok (.iconst 1, 1) := by decide +kernel
theorem dX4_runAt_2 : decode cX4_runAt 2 = .ok (.bipush 64, 2) := by decide +kernel
theorem dX4_runAt_4 : decode cX4_runAt 4 = .ok (.invokestatic 64, 3) := by decide +kernel
theorem dX4_runAt_7 : decode cX4_runAt 7 = .ok (.ifCond .eq 11, 3) := by decide +kernel
theorem dX4_runAt_10 : decode cX4_runAt 10 = .ok (.aload_n 0, 1) := by decide +kernel
theorem dX4_runAt_11 : decode cX4_runAt 11 = .ok (.iload_n 1, 1) := by decide +kernel
theorem dX4_runAt_12 : decode cX4_runAt 12 = .ok (.invokevirtual 68, 3) := by decide +kernel
theorem dX4_runAt_15 : decode cX4_runAt 15 = .ok (.goto 4, 3) := by decide +kernel
theorem dX4_runAt_18 : decode cX4_runAt 18 = .ok (.iconst (-1), 1) := by decide +kernel
theorem dX4_runAt_19 : decode cX4_runAt 19 = .ok (.ireturn, 1) := by decide +kernel
set_option maxRecDepth 20000 in
theorem ggX4_placeFor_X4_isSize : GoodIn wsX4_placeFor wsX4_isSize := goodIn_r _ [4] (by decide +kernel) (by decide +kernel)
set_option maxRecDepth 20000 in
theorem gX4_placeFor_X4_isSize : GoodIn wsX4_placeFor (va_wsS RX4 77 yX4_isSize wsX4_isSize) := goodIn_app (goodIn_of _ (by decide +kernel)) ggX4_placeFor_X4_isSize
set_option maxRecDepth 20000 in
theorem ggX4_placeFor_X4_placeOf : GoodIn wsX4_placeFor wsX4_placeOf := goodIn_r _ [8, 9, 10, 11, 12, 13, 14, 15, 16, 17] (by decide +kernel) (by decide +kernel)
set_option maxRecDepth 20000 in
theorem gX4_placeFor_X4_placeOf : GoodIn wsX4_placeFor (wsV RX4 84 RX4 yX4_placeOf wsX4_placeOf) := goodIn_app (goodIn_of _ (by decide +kernel)) ggX4_placeFor_X4_placeOf
theorem dX4_placeFor_0 : decode cX4_placeFor 0 = .ok (.iload_n 1, 1) := by decide +kernel
theorem dX4_placeFor_1 : decode cX4_placeFor 1 = .ok (.invokestatic 77, 3) := by decide +kernel
theorem dX4_placeFor_4 : decode cX4_placeFor 4 = .ok (.ifCond .eq 11, 3) := by decide +kernel
theorem dX4_placeFor_7 : decode cX4_placeFor 7 = .ok (.aload_n 0, 1) := by decide +kernel
theorem dX4_placeFor_8 : decode cX4_placeFor 8 = .ok (.iload_n 1, 1) := by decide +kernel
theorem dX4_placeFor_9 : decode cX4_placeFor 9 = .ok (.invokevirtual 84, 3) := by decide +kernel
theorem dX4_placeFor_12 : decode cX4_placeFor 12 = .ok (.goto 4, 3) := by decide +kernel
theorem dX4_placeFor_15 : decode cX4_placeFor 15 = .ok (.iconst (-1), 1) := by decide +kernel
theorem dX4_placeFor_16 : decode cX4_placeFor 16 = .ok (.ireturn, 1) := by decide +kernel
set_option maxRecDepth 20000 in
theorem ggX4_takes_X4_copies : GoodIn wsX4_takes wsX4_copies := goodIn_r _ [6] (by decide +kernel) (by decide +kernel)
set_option maxRecDepth 20000 in
theorem gX4_takes_X4_copies : GoodIn wsX4_takes (va_wsS RX4 25 yX4_copies wsX4_copies) := goodIn_app (goodIn_of _ (by decide +kernel)) ggX4_takes_X4_copies
set_option maxRecDepth 20000 in
theorem ggX4_takes_X4_takes1 : GoodIn wsX4_takes wsX4_takes1 := goodIn_r _ [10, 11, 12, 13, 5, 14, 1, 15, 16, 17, 18, 19, 20, 21, 22, 23, 24, 25, 26, 27, 28, 29, 30, 31, 32, 33, 34, 35, 36, 37, 38, 39, 40, 41, 42] (by decide +kernel) (by decide +kernel)
set_option maxRecDepth 20000 in
theorem gX4_takes_X4_takes1 : GoodIn wsX4_takes (wsV RX4 58 RX4 yX4_takes1 wsX4_takes1) := goodIn_app (goodIn_of _ (by decide +kernel)) ggX4_takes_X4_takes1
theorem dX4_takes_0 : decode cX4_takes 0 = .ok (.aload_n 0, 1) := by decide +kernel
theorem dX4_takes_1 : decode cX4_takes 1 = .ok (.getfield 7, 3) := by decide +kernel
theorem dX4_takes_4 : decode cX4_takes 4 = .ok (.iconst 0, 1) := by decide +kernel
theorem dX4_takes_5 : decode cX4_takes 5 = .ok (.aload_n 0, 1) := by decide +kernel
theorem dX4_takes_6 : decode cX4_takes 6 = .ok (.getfield 19, 3) := by decide +kernel
theorem dX4_takes_9 : decode cX4_takes 9 = .ok (.iconst 0, 1) := by decide +kernel
theorem dX4_takes_10 : decode cX4_takes 10 = .ok (.invokestatic 25, 3) := by decide +kernel
theorem dX4_takes_13 : decode cX4_takes 13 = .ok (.iconst 0, 1) := by decide +kernel
theorem dX4_takes_14 : decode cX4_takes 14 = .ok (.istore_n 1, 1) := by decide +kernel
theorem dX4_takes_15 : decode cX4_takes 15 = .ok (.aload_n 0, 1) := by decide +kernel
theorem dX4_takes_16 : decode cX4_takes 16 = .ok (.invokevirtual 58, 3) := by decide +kernel
theorem dX4_takes_19 : decode cX4_takes 19 = .ok (.ifCond .lt 9, 3) := by decide +kernel
theorem dX4_takes_22 : decode cX4_takes 22 = .ok (.iinc 1 1, 3) := by decide +kernel
theorem dX4_takes_25 : decode cX4_takes 25 = .ok (.goto (-10), 3) := by decide +kernel
theorem dX4_takes_28 : decode cX4_takes 28 = .ok (.aload_n 0, 1) := by decide +kernel
theorem dX4_takes_29 : decode cX4_takes 29 = .ok (.getfield 19, 3) := by decide +kernel
theorem dX4_takes_32 : decode cX4_takes 32 = .ok (.iconst 0, 1) := by decide +kernel
theorem dX4_takes_33 : decode cX4_takes 33 = .ok (.aload_n 0, 1) := by decide +kernel
theorem dX4_takes_34 : decode cX4_takes 34 = .ok (.getfield 7, 3) := by decide +kernel
theorem dX4_takes_37 : decode cX4_takes 37 = .ok (.iconst 0, 1) := by decide +kernel
theorem dX4_takes_38 : decode cX4_takes 38 = .ok (.invokestatic 25, 3) := by decide +kernel
theorem dX4_takes_41 : decode cX4_takes 41 = .ok (.iload_n 1, 1) := by decide +kernel
theorem dX4_takes_42 : decode cX4_takes 42 = .ok (.ireturn, 1) := by decide +kernel
end
section
/-! THE REFERENCE'S METHODS, by contract -/
/-- the cells of the reference -/
abbrev MW (h : Nat → Nat) (cI : ClassId) (now past : Nat → Int32) (pasts : Int32) (bef tri tex : Nat → Int32) (typed ati : Int32) : va_W :=
  [(h 0, .inr (4, [.ref (h 1), .ref (h 2), .int pasts, .ref (h 3), .ref (h 4), .ref (h 5), .int typed, .int ati])), (h 1, .inl (cI, 667, .inl now)), (h 2, .inl (cI, 3335, .inl past)), (h 3, .inl (cI, 667, .inl bef)), (h 4, .inl (cI, 667, .inl tri)), (h 5, .inl (cI, 80, .inl tex))]
theorem cpy_step {f g : Nat → Int32} {a b k : Nat} : upd (va_cpy f g a b k) (b + k) (f (a + k)) = va_cpy f g a b (k + 1) := by
  funext j
  unfold upd va_cpy
  by_cases e : j = b + k
  · rw [if_pos e, if_pos (by omega), e, show a + (b + k - b) = a + k by omega]
  · rw [if_neg e]
    by_cases e2 : b ≤ j ∧ j < b + k
    · rw [if_pos e2, if_pos (by omega)]
    · rw [if_neg e2, if_neg (by omega)]
theorem cpy_0 {f g : Nat → Int32} {a b : Nat} : g = va_cpy f g a b 0 := by
  funext j
  unfold va_cpy
  rw [if_neg (by omega)]
/-- the history with one state more -/
def psh (p : Nat → Int32) (k : Nat) (b : Nat → Int32) : Nat → Int32 := if k = 5 then va_cpy b (va_cpy p p 667 0 2668) 0 2668 667 else va_cpy b p 0 (667 * k) 667
def pn (k : Nat) : Nat := if k = 5 then 5 else k + 1
/-- what an action leaves of the slots and of the history: b before it, g behind it -/
def fnN (b g : Nat → Int32) (a : Int32) : Nat → Int32 := if a < 0 then b else g
def fnP (p : Nat → Int32) (k : Nat) (b : Nat → Int32) (a : Int32) : Nat → Int32 := if a < 0 then p else psh p k b
def fnK (k : Nat) (a : Int32) : Nat := if a < 0 then k else pn k
/-- one look more -/
def lkP (f : Nat → Int32) : Nat → Int32 := upd f 666 (f 666 + nI 1)
/-- the words are gone through -/
def gt : Nat → Nat → (Nat → Int32) → Option Nat × (Nat → Int32)
  | 0, _, f => (none, f)
  | n + 1, w, f => if f (640 + w) = nI 0 then (match fi (lkP f) w with
      | none => gt n (w + 1) (upd (lkP f) (640 + w) (nI 1))
      | some s => (some s, bc1 (lkP f) s (nI 1))) else gt n (w + 1) f
theorem gt_end {w : Nat} {g : Nat → Int32} (h : 10 ≤ w) : gt (10 - w) w g = (none, g) := by rw [show 10 - w = 0 by omega]; rfl
theorem gt_hid {w : Nat} {g : Nat → Int32} (h : w < 10) (c : ¬ g (640 + w) = nI 0) : gt (10 - w) w g = gt (10 - (w + 1)) (w + 1) g := by
  rw [show 10 - w = (10 - (w + 1)) + 1 by omega, gt, if_neg c]
theorem gt_full {w : Nat} {g : Nat → Int32} (h : w < 10) (c : g (640 + w) = nI 0) (ho : fi (lkP g) w = none) : gt (10 - w) w g = gt (10 - (w + 1)) (w + 1) (upd (lkP g) (640 + w) (nI 1)) := by
  rw [show 10 - w = (10 - (w + 1)) + 1 by omega, gt, if_pos c, ho]
theorem gt_found {w s : Nat} {g : Nat → Int32} (h : w < 10) (c : g (640 + w) = nI 0) (ho : fi (lkP g) w = some s) : gt (10 - w) w g = (some s, bc1 (lkP g) s (nI 1)) := by
  rw [show 10 - w = (10 - (w + 1)) + 1 by omega, gt, if_pos c, ho]
theorem fi_lt {f : Nat → Int32} {w s : Nat} (h : fi f w = some s) : 32 * w ≤ s ∧ s < 32 * w + 32 ∧ f s = nI 0 := by
  obtain ⟨h1, h2, h3, -⟩ := ls1_some h
  exact ⟨h1, h2, of_decide_eq_true h3⟩
theorem gt_lt : ∀ {n w : Nat} {f : Nat → Int32} {s : Nat}, (gt n w f).1 = some s → s < 32 * (w + n)
  | 0, _, _, _, h => by cases h
  | n + 1, w, f, s, h => by
    rw [gt] at h
    by_cases c : f (640 + w) = nI 0
    · rw [if_pos c] at h
      cases ho : fi (lkP f) w with
      | none =>
        rw [ho] at h
        have := gt_lt h
        omega
      | some s2 =>
        rw [ho] at h
        cases h
        have := fi_lt ho
        omega
    · rw [if_neg c] at h
      have := gt_lt h
      omega
theorem ne9 {s : Nat} (h : s < 1000) : ¬ nI s = -9 := fun e => by
  have := nI_pos (n := s) (by omega)
  rw [e] at this
  exact this (by decide)
theorem ne3 {s : Nat} (h : s < 1000) : ¬ nI s = -3 := fun e => by
  have := nI_pos (n := s) (by omega)
  rw [e] at this
  exact this (by decide)
theorem dor {p q r : Prop} [Decidable p] [Decidable q] [Decidable r] (h : p ↔ (q ∨ r)) : decide p = (decide q || decide r) := by
  rw [Bool.eq_iff_iff, Bool.or_eq_true, decide_eq_true_iff, decide_eq_true_iff, decide_eq_true_iff]
  exact h
theorem deq {p q : Prop} [Decidable p] [Decidable q] (h : p ↔ q) : decide p = decide q := by
  rw [Bool.eq_iff_iff, decide_eq_true_iff, decide_eq_true_iff]
  exact h
/-- how many words below w have lazy slots -/
def lzc (f : Nat → Int32) (w : Nat) : Nat := fb_ct (fun x => decide (0 < cw f x (nI 2))) w
/-- the words that are cleared -/
def selB (f : Nat → Int32) (n w : Nat) : Bool := decide (0 < cw f w (nI 2)) && decide (lzc f w < n)
/-- the slots that become free when n words are cleared, as far as the words below w, and the slots below sl of w -/
def clP (f : Nat → Int32) (n w sl : Nat) : Nat → Bool := fun j => (decide (j / 32 < w) && selB f n (j / 32) && decide (f j = nI 2)) || (decide (j / 32 = w) && decide (j < sl) && decide (f j = nI 2))
def clF (f : Nat → Int32) (n : Nat) : Nat → Int32 := bec f (clP f n 10 0) (fun _ => nI 0)
def clN (f : Nat → Int32) (n : Nat) : Nat := fb_sm (fun x => if selB f n x = true then cw f x (nI 2) else 0) 10
theorem clN_le (f : Nat → Int32) (n : Nat) : clN f n ≤ 320 := by
  refine Nat.le_trans (fb_sm_bound (c := 32) (fun k _ => ?_)) (by decide)
  have := cw_le f k (nI 2)
  split <;> omega
theorem clP_0 {f : Nat → Int32} {n j : Nat} (h : j < 320) : clP f n 0 0 j = false := by
  unfold clP
  simp
theorem cl_0 (f : Nat → Int32) (n : Nat) : f = bec f (clP f n 0 0) (fun _ => nI 0) := (bec_none (fun _ h => clP_0 h)).symm
theorem clP_in {f : Nat → Int32} {n w sl j : Nat} (h : j / 32 < w) : clP f n w sl j = (selB f n (j / 32) && decide (f j = nI 2)) := by
  unfold clP
  simp [h, show ¬ j / 32 = w by omega]
theorem clP_out {f : Nat → Int32} {n w sl j : Nat} (h : w < j / 32) : clP f n w sl j = false := by
  unfold clP
  simp [show ¬ j / 32 < w by omega, show ¬ j / 32 = w by omega]
theorem clP_at {f : Nat → Int32} {n w sl j : Nat} (h : j / 32 = w) : clP f n w sl j = (decide (j < sl) && decide (f j = nI 2)) := by
  unfold clP
  simp [h]
/-- behind the word's slots below sl, the slot sl is as it was -/
theorem cl_slot {f g : Nat → Int32} {n w sl : Nat} (hg : g = bec f (clP f n w sl) (fun _ => nI 0)) (h : sl < 320) (h2 : sl / 32 = w) : g sl = f sl := by
  rw [hg]
  exact bec_slot_n h (by rw [clP_at h2]; simp)
theorem cl_cw {f g : Nat → Int32} {n w : Nat} (hg : g = bec f (clP f n w (32 * w)) (fun _ => nI 0)) (h : w < 10) : cw g w (nI 2) = cw f w (nI 2) := by
  rw [hg]
  refine cw_cong (fun i hi => ?_)
  exact bec_slot_n (by omega) (by rw [clP_at (by omega)]; simp; omega)
theorem cl_skip {f g : Nat → Int32} {n w sl : Nat} (hg : g = bec f (clP f n w sl) (fun _ => nI 0)) (h : ¬ f sl = nI 2) : g = bec f (clP f n w (sl + 1)) (fun _ => nI 0) := by
  rw [hg]
  refine bec_cong (fun j hj => ?_) (fun _ _ _ => rfl)
  unfold clP
  congr 1
  by_cases e : j = sl
  · rw [e]; simp [h]
  · rw [deq (p := j < sl) (q := j < sl + 1) (by omega)]
theorem cl_take {f g : Nat → Int32} {n w sl : Nat} (hg : g = bec f (clP f n w sl) (fun _ => nI 0)) (hs : sl < 320) (hw : sl / 32 = w) (h : f sl = nI 2) : bc1 g sl (nI 0) = bec f (clP f n w (sl + 1)) (fun _ => nI 0) := by
  rw [hg]
  refine bec_add hs rfl (fun j hj => ?_)
  by_cases e : j = sl
  · rw [e, clP_at hw]; simp [h]
  · unfold clP
    rw [deq (p := j < sl) (q := j < sl + 1) (by omega)]
    simp [e]
theorem cw_pos {f : Nat → Int32} {w j : Nat} {k : Int32} (h : j / 32 = w) (hk : f j = k) : 0 < cw f w k := fb_ct_pos.mpr ⟨j % 32, by omega, by rw [show 32 * w + j % 32 = j by omega]; exact decide_eq_true hk⟩
theorem cl_next {f g : Nat → Int32} {n w : Nat} (hg : g = bec f (clP f n w (32 * w + 32)) (fun _ => nI 0)) (hl : lzc f w < n) : g = bec f (clP f n (w + 1) (32 * (w + 1))) (fun _ => nI 0) := by
  rw [hg]
  refine bec_cong (fun j hj => ?_) (fun _ _ _ => rfl)
  by_cases e : j / 32 < w
  · rw [clP_in e, clP_in (by omega)]
  · by_cases e2 : j / 32 = w
    · rw [clP_at e2, clP_in (by omega), e2]
      by_cases e3 : f j = nI 2
      · have := cw_pos e2 e3
        simp [e3, selB, this, hl]
        omega
      · simp [e3]
    · rw [clP_out (by omega)]
      by_cases e4 : j / 32 = w + 1
      · rw [clP_at e4]
        simp
        omega
      · rw [clP_out (by omega)]
theorem lzc_succ {f : Nat → Int32} {w : Nat} : lzc f (w + 1) = lzc f w + (if 0 < cw f w (nI 2) then 1 else 0) := by
  unfold lzc
  rw [fb_ct_succ]
  by_cases e : 0 < cw f w (nI 2) <;> simp [e]
def clS (f : Nat → Int32) (n w : Nat) : Nat := fb_sm (fun x => if selB f n x = true then cw f x (nI 2) else 0) w
theorem clS_succ {f : Nat → Int32} {n w : Nat} (hl : lzc f w < n) : clS f n (w + 1) = clS f n w + cw f w (nI 2) := by
  unfold clS
  rw [fb_sm_succ]
  by_cases e : 0 < cw f w (nI 2)
  · simp [selB, e, hl]
  · simp [selB, e]
    omega
theorem clS_le (f : Nat → Int32) (n w : Nat) (h : w ≤ 10) : clS f n w ≤ 320 := Nat.le_trans (fb_sm_bound (c := 32) (f := fun x => if selB f n x = true then cw f x (nI 2) else 0) (n := w) (fun k _ => by
    have := cw_le f k (nI 2)
    show (if selB f n k = true then cw f k (nI 2) else 0) ≤ 32
    split <;> omega)) (Nat.le_trans (Nat.mul_le_mul_right 32 h) (by decide))
theorem sel_off {f : Nat → Int32} {n w x : Nat} (h : n ≤ lzc f w) (hx : w ≤ x) : selB f n x = false := by
  have : lzc f w ≤ lzc f x := fb_ct_mono _ hx
  unfold selB
  simp
  omega
theorem cl_done {f g : Nat → Int32} {n w : Nat} (hg : g = bec f (clP f n w (32 * w)) (fun _ => nI 0)) (hw : w ≤ 10) (h : w = 10 ∨ n ≤ lzc f w) : g = clF f n := by
  rw [hg]
  refine bec_cong (fun j hj => ?_) (fun _ _ _ => rfl)
  rw [clP_in (w := 10) (by omega)]
  by_cases e : j / 32 < w
  · rw [clP_in e]
  · by_cases e2 : j / 32 = w
    · rw [clP_at e2]
      rcases h with h | h
      · omega
      · rw [sel_off h (by omega)]
        simp
        omega
    · rw [clP_out (by omega)]
      rcases h with h | h
      · omega
      · rw [sel_off h (by omega)]
        rfl
theorem clN_done {f : Nat → Int32} {n w : Nat} (hw : w ≤ 10) (h : w = 10 ∨ n ≤ lzc f w) : clS f n w = clN f n := by
  rcases h with h | h
  · rw [h]; rfl
  · obtain ⟨k, hk⟩ := Nat.le.dest hw
    unfold clS clN
    rw [← hk, fb_sm_split]
    have : fb_sm (fun x => if selB f n (w + x) = true then cw f (w + x) (nI 2) else 0) k = 0 := by
      have h2 := fb_sm_bound (f := fun x => if selB f n (w + x) = true then cw f (w + x) (nI 2) else 0) (c := 0) (n := k) (fun x _ => by rw [sel_off h (by omega)]; simp)
      omega
    omega
/-- one slot is taken -/
def tk (f : Nat → Int32) : Option Nat × (Nat → Int32) := match (gt 10 0 f).1 with
  | some s => (some s, (gt 10 0 f).2)
  | none => if 0 < clN (gt 10 0 f).2 10 then gt 10 0 (clF (gt 10 0 f).2 10) else (none, clF (gt 10 0 f).2 10)
theorem tk_1 {f : Nat → Int32} {s : Nat} (h : (gt 10 0 f).1 = some s) : tk f = (some s, (gt 10 0 f).2) := by unfold tk; rw [h]
theorem tk_2 {f : Nat → Int32} (h : (gt 10 0 f).1 = none) (h2 : 0 < clN (gt 10 0 f).2 10) : tk f = gt 10 0 (clF (gt 10 0 f).2 10) := by unfold tk; rw [h]; exact if_pos h2
theorem tk_3 {f : Nat → Int32} (h : (gt 10 0 f).1 = none) (h2 : ¬ 0 < clN (gt 10 0 f).2 10) : tk f = (none, clF (gt 10 0 f).2 10) := by unfold tk; rw [h]; exact if_neg h2
theorem tk_lt {f : Nat → Int32} {s : Nat} (h : (tk f).1 = some s) : s < 320 := by
  cases h1 : (gt 10 0 f).1 with
  | some s2 =>
    rw [tk_1 h1] at h
    cases h
    exact gt_lt h1
  | none =>
    by_cases h2 : 0 < clN (gt 10 0 f).2 10
    · rw [tk_2 h1 h2] at h
      exact gt_lt h
    · rw [tk_3 h1 h2] at h
      cases h
/-- all slots that are k -/
def tot (f : Nat → Int32) (k : Int32) : Nat := fb_sm (fun w => cw f w k) 10
theorem tot_le (f : Nat → Int32) (k : Int32) (w : Nat) (h : w ≤ 10) : fb_sm (fun w => cw f w k) w ≤ 320 := Nat.le_trans (Nat.le_trans (fb_sm_bound (c := 32) (fun x _ => cw_le f x k)) (Nat.mul_le_mul_right 32 h)) (by decide)
/-- the first run of m free slots, from sl on with a row of n free ones behind -/
def rn (f : Nat → Int32) (m : Nat) : Nat → Nat → Nat → Option Nat
  | 0, _, _ => none
  | k + 1, sl, n => if (if f sl = nI 0 then n + 1 else 0) = m then some (sl + 1 - m) else rn f m k (sl + 1) (if f sl = nI 0 then n + 1 else 0)
theorem rn_end {f : Nat → Int32} {m sl n : Nat} (h : 320 ≤ sl) : rn f m (320 - sl) sl n = none := by rw [show 320 - sl = 0 by omega]; rfl
theorem rn_yes {f : Nat → Int32} {m sl n n' : Nat} (h : sl < 320) (hn : (if f sl = nI 0 then n + 1 else 0) = n') (e : n' = m) : rn f m (320 - sl) sl n = some (sl + 1 - m) := by
  rw [show 320 - sl = (320 - (sl + 1)) + 1 by omega, rn, hn, if_pos e]
theorem rn_no {f : Nat → Int32} {m sl n n' : Nat} (h : sl < 320) (hn : (if f sl = nI 0 then n + 1 else 0) = n') (e : ¬ n' = m) : rn f m (320 - sl) sl n = rn f m (320 - (sl + 1)) (sl + 1) n' := by
  rw [show 320 - sl = (320 - (sl + 1)) + 1 by omega, rn, hn, if_neg e]
theorem le0_t {x : Int32} (h : 0 ≤ x) : ¬ x < 0 := by
  rw [Int32.lt_iff_toInt_lt]
  rw [Int32.le_iff_toInt_le] at h
  omega
theorem le0_f {x : Int32} (h : ¬ 0 ≤ x) : x < 0 := by
  rw [Int32.lt_iff_toInt_lt]
  rw [Int32.le_iff_toInt_le] at h
  omega
theorem psh_step {p g : Nat → Int32} {i : Nat} (hg : g = va_cpy p p 667 0 i) : upd g i (g (i + 667)) = va_cpy p p 667 0 (i + 1) := by
  rw [hg, pk_cpy_out (j := i + 667) (by omega), ← cpy_step, Nat.zero_add, Nat.add_comm i 667]
theorem subadd {a b : Nat} (h : b ≤ a + 1) : nI a - nI b + nI 1 = nI (a + 1 - b) := by
  rw [Int32.sub_eq_add_neg, Int32.add_assoc, Int32.add_comm (-nI b), ← Int32.add_assoc, nI_add, ← Int32.sub_eq_add_neg, pk_sub h]
set_option maxHeartbeats 4000000 in
set_option maxRecDepth 100000 in
theorem c_X4_in {l : Launch} {D : va_G} {cI cG cC cR : ClassId} {v lo hi : Int32} : CtI l yX4_in wsX4_in { frames := 0, cells := 0, slots := 0, locals := 0 } D (TY cI cG cC cR) [.int v, .int lo, .int hi] ([]) (fun (_ : Unit) => []) (fun (r : Int32) (_ : Unit) => r = bI (inB v lo hi)) := by
  refine CtI.of (cc := cX4_in) (maxL := 3) (ty := .boolean) (by decide) rfl (Nat.le_of_ble_eq_true rfl) ?_
  intro P0 e0 s0 m0 a0 b0 t0 c0 A0 Q0 ls F hK hP hD hA RETN hl
  obtain ⟨hx, hb, hml, hown, hts⟩ := id F
  have hS : va_S A0 s0.heap s0.heap [] := va_S.rf
  have hl : lv_has ls 3 [(0, .int v), (1, .int lo), (2, .int hi)] := hl
  refine lv_iload_n hx hb dX4_in_0 rfl (lv_at hl 0 rfl) ?_
  refine lv_iload_n hx hb dX4_in_1 rfl (lv_at hl 1 rfl) ?_
  refine lv_icmp_lt (tgt := 14) hx hb dX4_in_2 (by decide) (fun c2 => ?_) (fun c2 => ?_)
  · skip
    refine lv_iconst (v := (nI 0)) hx hb dX4_in_14 (by decide) ?_
    exact RETN _ _ (nI 0) () _ _ dX4_in_15 (rfl) (bI_f (inB_f1 c2)) hP hD hS
  · skip
    refine lv_iload_n hx hb dX4_in_5 rfl (lv_at hl 0 rfl) ?_
    refine lv_iload_n hx hb dX4_in_6 rfl (lv_at hl 2 rfl) ?_
    refine lv_icmp_gt (tgt := 14) hx hb dX4_in_7 (by decide) (fun c7 => ?_) (fun c7 => ?_)
    · skip
      refine lv_iconst (v := (nI 0)) hx hb dX4_in_14 (by decide) ?_
      exact RETN _ _ (nI 0) () _ _ dX4_in_15 (rfl) (bI_f (inB_f2 c7)) hP hD hS
    · skip
      refine lv_iconst (v := (nI 1)) hx hb dX4_in_10 (by decide) ?_
      refine lv_goto (tgt := 15) hx hb dX4_in_11 (by decide) ?_
      exact RETN _ _ (nI 1) () _ _ dX4_in_15 (rfl) (bI_t (inB_t c2 c7)) hP hD hS
set_option maxHeartbeats 4000000 in
set_option maxRecDepth 100000 in
theorem c_X4_inWord {l : Launch} {D : va_G} {cI cG cC cR : ClassId} {h : Nat → Nat} {now past bef tri tex : Nat → Int32} {pasts typed ati : Int32} {w : Nat} {k : Int32} (hw : w < 10) : CtI l yX4_inWord wsX4_inWord { frames := 0, cells := 0, slots := 0, locals := 0 } D (TY cI cG cC cR) [.ref (h 0), .int (nI w), .int k] (MW h cI now past pasts bef tri tex typed ati) (fun (_ : Unit) => MW h cI now past pasts bef tri tex typed ati) (fun (r : Int32) (_ : Unit) => r = nI (cw now w k)) := by
  refine CtI.of (cc := cX4_inWord) (maxL := 5) (ty := .int) (by decide) rfl (Nat.le_of_ble_eq_true rfl) ?_
  intro P0 e0 s0 m0 a0 b0 t0 c0 A0 Q0 ls F hK hP hD hA RETN hl
  obtain ⟨hx, hb, hml, hown, hts⟩ := id F
  have hS : va_S A0 s0.heap s0.heap [] := va_S.rf
  have hl : lv_has ls 5 [(0, .ref (h 0)), (1, .int (nI w)), (2, .int k)] := hl
  have lk7 := hts (.fieldLink RX4 7 "SlotMapsModel" "now" "[I") (by decide +kernel)
  have hI4 : ∀ w ∈ u_ws RX4 TX4 8, w ∈ wsX4_inWord := by decide +kernel
  refine lv_iconst (v := (nI 0)) hx hb dX4_inWord_0 (by decide) ?_
  refine lv_istore_n (lv' := [(3, .int (nI 0)), (0, .ref (h 0)), (1, .int (nI w)), (2, .int k)]) hx hb dX4_inWord_1 rfl hl (by decide) rfl (fun ls hl => ?_)
  refine lv_bipush (v := (nI 32)) hx hb dX4_inWord_2 (by decide) ?_
  refine lv_iload_n hx hb dX4_inWord_4 rfl (lv_at hl 2 rfl) ?_
  refine lv_imul hx hb dX4_inWord_5 ?_
  refine n_as (x' := nI (32 * w)) (pk_mul _ _) ?_
  refine lv_istore (lv' := [(4, .int (nI (32 * w))), (3, .int (nI 0)), (0, .ref (h 0)), (1, .int (nI w)), (2, .int k)]) hx hb dX4_inWord_6 hl (by decide) rfl (fun ls hl => ?_)
  have LP8 : ∀ (nn : Nat) (i : Nat) (n : Nat) (H : Heap) (locs : List Loc) (ls : Array Slot), i ≤ 32 → n = fb_ct (fun i => decide (now (32 * w + i) = k)) i → 32 - i < nn → va_P D vwCl (MW h cI now past pasts bef tri tex typed ati) H → va_D A0 (MW h cI now past pasts bef tri tex typed ati) → va_S A0 s0.heap H locs → lv_has ls 5 [(4, .int (nI (32 * w + i))), (3, .int (nI n)), (0, .ref (h 0)), (1, .int (nI w)), (2, .int k)] → W P0 l e0 { frames := 0, cells := 0, slots := 0, locals := 0 } s0 m0 a0 b0 t0 c0 H locs 0 0 Q0 (F0 m0 8 ls []) := by
    intro nn
    induction nn with
    | zero => intro i n H locs ls hi hn hmu; exact absurd hmu (Nat.not_lt_zero _)
    | succ nn ih8 =>
      intro i n H locs ls hi hn hmu8 hP hD hS hl
      refine lv_iload hx hb dX4_inWord_8 (lv_at hl 0 rfl) ?_
      refine lv_bipush (v := (nI 32)) hx hb dX4_inWord_10 (by decide) ?_
      refine lv_iload_n hx hb dX4_inWord_12 rfl (lv_at hl 3 rfl) ?_
      refine lv_imul hx hb dX4_inWord_13 ?_
      refine n_as (x' := nI (32 * w)) (pk_mul _ _) ?_
      refine lv_bipush (v := (nI 32)) hx hb dX4_inWord_14 (by decide) ?_
      refine lv_iadd hx hb dX4_inWord_16 ?_
      refine n_as (x' := nI ((32 * w) + 32)) (nI_add _ _) ?_
      refine lv_icmp_ge (tgt := 45) hx hb dX4_inWord_17 (by decide) (fun c17 => ?_) (fun c17 => ?_)
      · skip
        replace c17 : ((32 * w) + 32) ≤ (32 * w + i) := by rw [nI_leI (by omega) (by omega)] at c17; exact c17
        refine lv_iload_n hx hb dX4_inWord_45 rfl (lv_at hl 1 rfl) ?_
        exact RETN _ _ (nI n) () _ _ dX4_inWord_46 (rfl) (by rw [hn, show i = 32 by omega]; rfl) hP hD hS
      · skip
        replace c17 : ¬ (((32 * w) + 32) ≤ (32 * w + i)) := by rw [nI_leI (by omega) (by omega)] at c17; exact c17
        refine lv_iload_n hx hb dX4_inWord_20 rfl (lv_at hl 1 rfl) ?_
        refine lv_aload_n hx hb dX4_inWord_21 rfl (lv_at hl 2 rfl) ?_
        refine va_get (D := D) (ci := 4) (v := .ref (h 1)) (C := RX4) (T := TX4) (N := 8) hx hb hts hI4 hown hK.1 hP 0 rfl rfl 0 (by decide) lk7 (fun _ h9 => h9) rfl dX4_inWord_22 ?_
        refine lv_iload hx hb dX4_inWord_25 (lv_at hl 0 rfl) ?_
        refine n_iald hx hb hK hP 1 0 rfl rfl (by decide) (by omega) dX4_inWord_27 ?_
        refine lv_iload_n hx hb dX4_inWord_28 rfl (lv_at hl 4 rfl) ?_
        refine lv_icmp_ne (tgt := 36) hx hb dX4_inWord_29 (by decide) (fun c29 => ?_) (fun c29 => ?_)
        · skip
          refine lv_iconst (v := (nI 0)) hx hb dX4_inWord_36 (by decide) ?_
          refine lv_iadd hx hb dX4_inWord_37 ?_
          refine n_as (x' := nI (n + 0)) (nI_add _ _) ?_
          refine lv_istore_n (lv' := [(3, .int (nI (n + 0))), (4, .int (nI (32 * w + i))), (0, .ref (h 0)), (1, .int (nI w)), (2, .int k)]) hx hb dX4_inWord_38 rfl hl (by decide) rfl (fun ls hl => ?_)
          refine lv_iinc (v := (nI ((32 * w + i) + 1))) (lv' := [(4, .int (nI ((32 * w + i) + 1))), (3, .int (nI (n + 0))), (0, .ref (h 0)), (1, .int (nI w)), (2, .int k)]) hx hb dX4_inWord_39 hl (k := 1) rfl (n_inc1 _) (by decide) rfl (fun ls hl => ?_)
          refine lv_goto (tgt := 8) hx hb dX4_inWord_42 (by decide) ?_
          exact ih8 (i + 1) (n + 0) _ _ _ (by omega) (by rw [fb_ct_succ, ← hn]; simp [c29]) (by omega) hP hD hS (lv_sub hl [0, 1, 2, 3, 4] rfl)
        · skip
          refine lv_iconst (v := (nI 1)) hx hb dX4_inWord_32 (by decide) ?_
          refine lv_goto (tgt := 37) hx hb dX4_inWord_33 (by decide) ?_
          refine lv_iadd hx hb dX4_inWord_37 ?_
          refine n_as (x' := nI (n + 1)) (nI_add _ _) ?_
          refine lv_istore_n (lv' := [(3, .int (nI (n + 1))), (4, .int (nI (32 * w + i))), (0, .ref (h 0)), (1, .int (nI w)), (2, .int k)]) hx hb dX4_inWord_38 rfl hl (by decide) rfl (fun ls hl => ?_)
          refine lv_iinc (v := (nI ((32 * w + i) + 1))) (lv' := [(4, .int (nI ((32 * w + i) + 1))), (3, .int (nI (n + 1))), (0, .ref (h 0)), (1, .int (nI w)), (2, .int k)]) hx hb dX4_inWord_39 hl (k := 1) rfl (n_inc1 _) (by decide) rfl (fun ls hl => ?_)
          refine lv_goto (tgt := 8) hx hb dX4_inWord_42 (by decide) ?_
          exact ih8 (i + 1) (n + 1) _ _ _ (by omega) (by rw [fb_ct_succ, ← hn]; simp [c29]) (by omega) hP hD hS (lv_sub hl [0, 1, 2, 3, 4] rfl)
  exact LP8 _ 0 0 _ _ _ (by omega) (rfl) (Nat.lt_succ_self _) hP hD hS (lv_sub hl [0, 1, 2, 3, 4] rfl)
set_option maxHeartbeats 4000000 in
set_option maxRecDepth 100000 in
theorem c_X4_right {l : Launch} {D : va_G} {cI cG cC cR : ClassId} {h : Nat → Nat} {now past bef tri tex : Nat → Int32} {pasts typed ati : Int32} {w : Nat} (hw : w < 10) : CtI l yX4_right wsX4_right { frames := 1, cells := 0, slots := 0, locals := 24 } D (TY cI cG cC cR) [.ref (h 0), .int (nI w)] (MW h cI now past pasts bef tri tex typed ati) (fun (_ : Unit) => MW h cI now past pasts bef tri tex typed ati) (fun (r : Int32) (_ : Unit) => r = rt now w) := by
  refine CtI.of (cc := cX4_right) (maxL := 2) (ty := .int) (by decide) rfl (Nat.le_of_ble_eq_true rfl) ?_
  intro P0 e0 s0 m0 a0 b0 t0 c0 A0 Q0 ls F hK hP hD hA RETN hl
  obtain ⟨hx, hb, hml, hown, hts⟩ := id F
  have hS : va_S A0 s0.heap s0.heap [] := va_S.rf
  have hl : lv_has ls 2 [(0, .ref (h 0)), (1, .int (nI w))] := hl
  refine lv_aload_n hx hb dX4_right_0 rfl (lv_at hl 0 rfl) ?_
  refine lv_iload_n hx hb dX4_right_1 rfl (lv_at hl 1 rfl) ?_
  refine lv_iconst (v := (nI 0)) hx hb dX4_right_2 (by decide) ?_
  have hc := cw_le now w (nI 0)
  refine cl_Vi (b := (h 0)) (As := [.int (nI w), .int (nI 0)]) (rest := []) (wc := MW h cI now past pasts bef tri tex typed ati) (wsN := fun (_ : Unit) => MW h cI now past pasts bef tri tex typed ati) F hK hA hP hD hS (c_X4_inWord hw) (cwV 2 hts gX4_right_X4_inWord rfl rfl rfl (by decide +kernel) ⟨Nat.le_of_ble_eq_true rfl, Nat.le_of_ble_eq_true rfl⟩) [0, 1, 2, 3, 4, 5] [] [0, 1, 2, 3, 4, 5] ([]) rfl rfl (fun _ => rfl) (by decide) (by decide) 0 rfl rfl rfl hl.1 rfl (Nat.le_of_ble_eq_true rfl) ⟨Nat.zero_le _, Nat.zero_le _⟩ dX4_right_3 (fun r_2 _ H locs hw_1 hP hD hS => ?_)
  try dsimp only at hw_1 hP hD
  obtain rfl : r_2 = (nI (cw now w (nI 0))) := hw_1
  refine lv_if_ne (tgt := 13) hx hb dX4_right_6 (by decide) (fun c6 => ?_) (fun c6 => ?_)
  · skip
    replace c6 : ¬ (cw now w (nI 0)) = 0 := by rw [show (0 : Int32) = nI 0 from rfl, nI_eq (by omega) (by omega)] at c6; exact c6
    refine lv_iconst (v := (nI 0)) hx hb dX4_right_13 (by decide) ?_
    exact RETN _ _ (nI 0) () _ _ dX4_right_14 (rfl) (bI_f (by simp; omega)) hP hD hS
  · skip
    replace c6 : (cw now w (nI 0)) = 0 := by rw [show (0 : Int32) = nI 0 from rfl, nI_eq (by omega) (by omega)] at c6; exact c6
    refine lv_iconst (v := (nI 1)) hx hb dX4_right_9 (by decide) ?_
    refine lv_goto (tgt := 14) hx hb dX4_right_10 (by decide) ?_
    exact RETN _ _ (nI 1) () _ _ dX4_right_14 (rfl) (bI_t (by simp; omega)) hP hD hS
set_option maxHeartbeats 4000000 in
set_option maxRecDepth 100000 in
theorem c_X4_becomes {l : Launch} {D : va_G} {cI cG cC cR : ClassId} {h : Nat → Nat} {now past bef tri tex : Nat → Int32} {pasts typed ati : Int32} {sl : Nat} {v : Int32} (hs : sl < 320) : CtV l yX4_becomes wsX4_becomes { frames := 2, cells := 0, slots := 0, locals := 45 } D (TY cI cG cC cR) [.ref (h 0), .int (nI sl), .int v] (MW h cI now past pasts bef tri tex typed ati) (fun (_ : Unit) => MW h cI (bc1 now sl v) past pasts bef tri tex typed ati) (fun (_ : Unit) => True) := by
  refine CtV.of (cc := cX4_becomes) (maxL := 3) (by decide) rfl (Nat.le_of_ble_eq_true rfl) ?_
  intro P0 e0 s0 m0 a0 b0 t0 c0 A0 Q0 ls F hK hP hD hA RETN hl
  obtain ⟨hx, hb, hml, hown, hts⟩ := id F
  have hS : va_S A0 s0.heap s0.heap [] := va_S.rf
  have hl : lv_has ls 3 [(0, .ref (h 0)), (1, .int (nI sl)), (2, .int v)] := hl
  have lk7 := hts (.fieldLink RX4 7 "SlotMapsModel" "now" "[I") (by decide +kernel)
  have hI4 : ∀ w ∈ u_ws RX4 TX4 8, w ∈ wsX4_becomes := by decide +kernel
  refine lv_aload_n hx hb dX4_becomes_0 rfl (lv_at hl 0 rfl) ?_
  refine va_get (D := D) (ci := 4) (v := .ref (h 1)) (C := RX4) (T := TX4) (N := 8) hx hb hts hI4 hown hK.1 hP 0 rfl rfl 0 (by decide) lk7 (fun _ h9 => h9) rfl dX4_becomes_1 ?_
  refine lv_iload_n hx hb dX4_becomes_4 rfl (lv_at hl 1 rfl) ?_
  refine lv_iload_n hx hb dX4_becomes_5 rfl (lv_at hl 2 rfl) ?_
  refine n_iast hx hb hK hP hD hS 1 0 rfl rfl (by decide) (by omega) dX4_becomes_6 (wsN := MW h cI (upd now sl v) past pasts bef tri tex typed ati) rfl (fun H locs hP hD hS => ?_)
  refine lv_aload_n hx hb dX4_becomes_7 rfl (lv_at hl 0 rfl) ?_
  refine va_get (D := D) (ci := 4) (v := .ref (h 1)) (C := RX4) (T := TX4) (N := 8) hx hb hts hI4 hown hK.1 hP 0 rfl rfl 0 (by decide) lk7 (fun _ h9 => h9) rfl dX4_becomes_8 ?_
  refine lv_sipush (v := (nI 640)) hx hb dX4_becomes_11 (by decide) ?_
  refine lv_iload_n hx hb dX4_becomes_14 rfl (lv_at hl 1 rfl) ?_
  refine lv_bipush (v := (nI 32)) hx hb dX4_becomes_15 (by decide) ?_
  refine lv_idiv hx hb dX4_becomes_17 (nI_ne0 (by omega) (by omega)) ?_
  refine n_as (x' := nI (sl / 32)) (pk_div (by omega) (by omega) (by omega)) ?_
  refine lv_iadd hx hb dX4_becomes_18 ?_
  refine n_as (x' := nI (640 + (sl / 32))) (nI_add _ _) ?_
  refine lv_aload_n hx hb dX4_becomes_19 rfl (lv_at hl 0 rfl) ?_
  refine lv_iload_n hx hb dX4_becomes_20 rfl (lv_at hl 1 rfl) ?_
  refine lv_bipush (v := (nI 32)) hx hb dX4_becomes_21 (by decide) ?_
  refine lv_idiv hx hb dX4_becomes_23 (nI_ne0 (by omega) (by omega)) ?_
  refine n_as (x' := nI (sl / 32)) (pk_div (by omega) (by omega) (by omega)) ?_
  refine cl_Vi (b := (h 0)) (As := [.int (nI (sl / 32))]) (rest := [.int (nI (640 + (sl / 32))), .ref (h 1)]) (wc := MW h cI (upd now sl v) past pasts bef tri tex typed ati) (wsN := fun (_ : Unit) => MW h cI (upd now sl v) past pasts bef tri tex typed ati) F hK hA hP hD hS (c_X4_right (by omega)) (cwV 1 hts gX4_becomes_X4_right rfl rfl rfl (by decide +kernel) ⟨Nat.le_of_ble_eq_true rfl, Nat.le_of_ble_eq_true rfl⟩) [0, 1, 2, 3, 4, 5] [] [0, 1, 2, 3, 4, 5] ([]) rfl rfl (fun _ => rfl) (by decide) (by decide) 0 rfl rfl rfl hl.1 rfl (Nat.le_of_ble_eq_true rfl) ⟨Nat.zero_le _, Nat.zero_le _⟩ dX4_becomes_24 (fun r_2 _ H locs hw_1 hP hD hS => ?_)
  try dsimp only at hw_1 hP hD
  obtain rfl : r_2 = (rt (upd now sl v) (sl / 32)) := hw_1
  refine n_iast hx hb hK hP hD hS 1 0 rfl rfl (by decide) (by omega) dX4_becomes_27 (wsN := MW h cI (upd (upd now sl v) (640 + (sl / 32)) (rt (upd now sl v) (sl / 32))) past pasts bef tri tex typed ati) rfl (fun H locs hP hD hS => ?_)
  exact RETN _ _ () _ _ dX4_becomes_28 (trivial) hP hD hS
set_option maxHeartbeats 4000000 in
set_option maxRecDepth 100000 in
theorem c_X4_firstIn {l : Launch} {D : va_G} {cI cG cC cR : ClassId} {h : Nat → Nat} {now past bef tri tex : Nat → Int32} {pasts typed ati : Int32} {w : Nat} (hw : w < 10) : CtI l yX4_firstIn wsX4_firstIn { frames := 0, cells := 0, slots := 0, locals := 0 } D (TY cI cG cC cR) [.ref (h 0), .int (nI w)] (MW h cI now past pasts bef tri tex typed ati) (fun (_ : Unit) => MW h cI now past pasts bef tri tex typed ati) (fun (r : Int32) (_ : Unit) => r = oI (fi now w)) := by
  refine CtI.of (cc := cX4_firstIn) (maxL := 3) (ty := .int) (by decide) rfl (Nat.le_of_ble_eq_true rfl) ?_
  intro P0 e0 s0 m0 a0 b0 t0 c0 A0 Q0 ls F hK hP hD hA RETN hl
  obtain ⟨hx, hb, hml, hown, hts⟩ := id F
  have hS : va_S A0 s0.heap s0.heap [] := va_S.rf
  have hl : lv_has ls 3 [(0, .ref (h 0)), (1, .int (nI w))] := hl
  have lk7 := hts (.fieldLink RX4 7 "SlotMapsModel" "now" "[I") (by decide +kernel)
  have hI4 : ∀ w ∈ u_ws RX4 TX4 8, w ∈ wsX4_firstIn := by decide +kernel
  refine lv_bipush (v := (nI 32)) hx hb dX4_firstIn_0 (by decide) ?_
  refine lv_iload_n hx hb dX4_firstIn_2 rfl (lv_at hl 1 rfl) ?_
  refine lv_imul hx hb dX4_firstIn_3 ?_
  refine n_as (x' := nI (32 * w)) (pk_mul _ _) ?_
  refine lv_istore_n (lv' := [(2, .int (nI (32 * w))), (0, .ref (h 0)), (1, .int (nI w))]) hx hb dX4_firstIn_4 rfl hl (by decide) rfl (fun ls hl => ?_)
  have LP5 : ∀ (nn : Nat) (sl : Nat) (H : Heap) (locs : List Loc) (ls : Array Slot), 32 * w ≤ sl ∧ sl ≤ 32 * w + 32 → fi now w = ls1 (fr now) (32 * w + 32 - sl) sl → 32 * w + 32 - sl < nn → va_P D vwCl (MW h cI now past pasts bef tri tex typed ati) H → va_D A0 (MW h cI now past pasts bef tri tex typed ati) → va_S A0 s0.heap H locs → lv_has ls 3 [(2, .int (nI sl)), (0, .ref (h 0)), (1, .int (nI w))] → W P0 l e0 { frames := 0, cells := 0, slots := 0, locals := 0 } s0 m0 a0 b0 t0 c0 H locs 0 0 Q0 (F0 m0 5 ls []) := by
    intro nn
    induction nn with
    | zero => intro sl H locs ls hs ha hmu; exact absurd hmu (Nat.not_lt_zero _)
    | succ nn ih5 =>
      intro sl H locs ls hs ha hmu5 hP hD hS hl
      refine lv_iload_n hx hb dX4_firstIn_5 rfl (lv_at hl 0 rfl) ?_
      refine lv_bipush (v := (nI 32)) hx hb dX4_firstIn_6 (by decide) ?_
      refine lv_iload_n hx hb dX4_firstIn_8 rfl (lv_at hl 2 rfl) ?_
      refine lv_imul hx hb dX4_firstIn_9 ?_
      refine n_as (x' := nI (32 * w)) (pk_mul _ _) ?_
      refine lv_bipush (v := (nI 32)) hx hb dX4_firstIn_10 (by decide) ?_
      refine lv_iadd hx hb dX4_firstIn_12 ?_
      refine n_as (x' := nI ((32 * w) + 32)) (nI_add _ _) ?_
      refine lv_icmp_ge (tgt := 33) hx hb dX4_firstIn_13 (by decide) (fun c13 => ?_) (fun c13 => ?_)
      · skip
        replace c13 : ((32 * w) + 32) ≤ sl := by rw [nI_leI (by omega) (by omega)] at c13; exact c13
        refine lv_bipush (v := (-9)) hx hb dX4_firstIn_33 (by decide) ?_
        exact RETN _ _ (-9) () _ _ dX4_firstIn_35 (rfl) (by rw [ha, ls1_end _ (by omega)]; rfl) hP hD hS
      · skip
        replace c13 : ¬ (((32 * w) + 32) ≤ sl) := by rw [nI_leI (by omega) (by omega)] at c13; exact c13
        refine lv_aload_n hx hb dX4_firstIn_16 rfl (lv_at hl 1 rfl) ?_
        refine va_get (D := D) (ci := 4) (v := .ref (h 1)) (C := RX4) (T := TX4) (N := 8) hx hb hts hI4 hown hK.1 hP 0 rfl rfl 0 (by decide) lk7 (fun _ h9 => h9) rfl dX4_firstIn_17 ?_
        refine lv_iload_n hx hb dX4_firstIn_20 rfl (lv_at hl 0 rfl) ?_
        refine n_iald hx hb hK hP 1 0 rfl rfl (by decide) (by omega) dX4_firstIn_21 ?_
        refine lv_if_ne (tgt := 27) hx hb dX4_firstIn_22 (by decide) (fun c22 => ?_) (fun c22 => ?_)
        · skip
          replace c22 : ¬ (now sl) = nI 0 := c22
          refine lv_iinc (v := (nI (sl + 1))) (lv' := [(2, .int (nI (sl + 1))), (0, .ref (h 0)), (1, .int (nI w))]) hx hb dX4_firstIn_27 hl (k := 0) rfl (n_inc1 _) (by decide) rfl (fun ls hl => ?_)
          refine lv_goto (tgt := 5) hx hb dX4_firstIn_30 (by decide) ?_
          exact ih5 (sl + 1) _ _ _ (by omega) (by rw [ha, ls1_no (by omega) (by simp [fr, c22])]) (by omega) hP hD hS (lv_sub hl [0, 1, 2] rfl)
        · skip
          replace c22 : (now sl) = nI 0 := c22
          refine lv_iload_n hx hb dX4_firstIn_25 rfl (lv_at hl 0 rfl) ?_
          exact RETN _ _ (nI sl) () _ _ dX4_firstIn_26 (rfl) (by rw [ha, ls1_yes (by omega) (by simp [fr, c22])]; rfl) hP hD hS
  exact LP5 _ (32 * w) _ _ _ (by omega) (by unfold fi; rw [show 32 * w + 32 - 32 * w = 32 by omega]) (Nat.lt_succ_self _) hP hD hS (lv_sub hl [0, 1, 2] rfl)
set_option maxHeartbeats 4000000 in
set_option maxRecDepth 100000 in
theorem c_X4_copies {l : Launch} {D : va_G} {cI cG cC cR : ClassId} {aa bb nf nt ix jx : Nat} {f g : Nat → Int32} (h1 : ix + 667 ≤ nf) (h2 : jx + 667 ≤ nt) (h3 : nf ≤ 4000) (h4 : nt ≤ 4000) : CtV l yX4_copies wsX4_copies { frames := 0, cells := 0, slots := 0, locals := 0 } D (TY cI cG cC cR) [.ref aa, .int (nI ix), .ref bb, .int (nI jx)] ([(aa, .inl (cI, nf, .inl f)), (bb, .inl (cI, nt, .inl g))]) (fun (_ : Unit) => [(aa, .inl (cI, nf, .inl f)), (bb, .inl (cI, nt, .inl (va_cpy f g ix jx 667)))]) (fun (_ : Unit) => True) := by
  refine CtV.of (cc := cX4_copies) (maxL := 5) (by decide) rfl (Nat.le_of_ble_eq_true rfl) ?_
  intro P0 e0 s0 m0 a0 b0 t0 c0 A0 Q0 ls F hK hP hD hA RETN hl
  obtain ⟨hx, hb, hml, hown, hts⟩ := id F
  have hS : va_S A0 s0.heap s0.heap [] := va_S.rf
  have hl : lv_has ls 5 [(0, .ref aa), (1, .int (nI ix)), (2, .ref bb), (3, .int (nI jx))] := hl
  refine lv_iconst (v := (nI 0)) hx hb dX4_copies_0 (by decide) ?_
  refine lv_istore (lv' := [(4, .int (nI 0)), (0, .ref aa), (1, .int (nI ix)), (2, .ref bb), (3, .int (nI jx))]) hx hb dX4_copies_1 hl (by decide) rfl (fun ls hl => ?_)
  have LP3 : ∀ (nn : Nat) (k : Nat) (g2 : Nat → Int32) (H : Heap) (locs : List Loc) (ls : Array Slot), k ≤ 667 → g2 = va_cpy f g ix jx k → 667 - k < nn → va_P D vwCl ([(aa, .inl (cI, nf, .inl f)), (bb, .inl (cI, nt, .inl g2))]) H → va_D A0 ([(aa, .inl (cI, nf, .inl f)), (bb, .inl (cI, nt, .inl g2))]) → va_S A0 s0.heap H locs → lv_has ls 5 [(4, .int (nI k)), (0, .ref aa), (1, .int (nI ix)), (2, .ref bb), (3, .int (nI jx))] → W P0 l e0 { frames := 0, cells := 0, slots := 0, locals := 0 } s0 m0 a0 b0 t0 c0 H locs 0 0 Q0 (F0 m0 3 ls []) := by
    intro nn
    induction nn with
    | zero => intro k g2 H locs ls hk hg hmu; exact absurd hmu (Nat.not_lt_zero _)
    | succ nn ih3 =>
      intro k g2 H locs ls hk hg hmu3 hP hD hS hl
      refine lv_iload hx hb dX4_copies_3 (lv_at hl 0 rfl) ?_
      refine lv_sipush (v := (nI 667)) hx hb dX4_copies_5 (by decide) ?_
      refine lv_icmp_ge (tgt := 29) hx hb dX4_copies_8 (by decide) (fun c8 => ?_) (fun c8 => ?_)
      · skip
        replace c8 : 667 ≤ k := by rw [nI_leI (by omega) (by omega)] at c8; exact c8
        obtain rfl : k = 667 := by omega
        subst hg
        exact RETN _ _ () _ _ dX4_copies_29 (trivial) hP hD hS
      · skip
        replace c8 : ¬ (667 ≤ k) := by rw [nI_leI (by omega) (by omega)] at c8; exact c8
        refine lv_aload_n hx hb dX4_copies_11 rfl (lv_at hl 3 rfl) ?_
        refine lv_iload_n hx hb dX4_copies_12 rfl (lv_at hl 4 rfl) ?_
        refine lv_iload hx hb dX4_copies_13 (lv_at hl 0 rfl) ?_
        refine lv_iadd hx hb dX4_copies_15 ?_
        refine n_as (x' := nI (jx + k)) (nI_add _ _) ?_
        refine lv_aload_n hx hb dX4_copies_16 rfl (lv_at hl 1 rfl) ?_
        refine lv_iload_n hx hb dX4_copies_17 rfl (lv_at hl 2 rfl) ?_
        refine lv_iload hx hb dX4_copies_18 (lv_at hl 0 rfl) ?_
        refine lv_iadd hx hb dX4_copies_20 ?_
        refine n_as (x' := nI (ix + k)) (nI_add _ _) ?_
        refine n_iald hx hb hK hP 0 0 rfl rfl (by omega) (by omega) dX4_copies_21 ?_
        refine n_iast hx hb hK hP hD hS 1 0 rfl rfl (by omega) (by omega) dX4_copies_22 (wsN := [(aa, .inl (cI, nf, .inl f)), (bb, .inl (cI, nt, .inl (upd g2 (jx + k) (f (ix + k)))))]) rfl (fun H locs hP hD hS => ?_)
        refine lv_iinc (v := (nI (k + 1))) (lv' := [(4, .int (nI (k + 1))), (0, .ref aa), (1, .int (nI ix)), (2, .ref bb), (3, .int (nI jx))]) hx hb dX4_copies_23 hl (k := 0) rfl (n_inc1 _) (by decide) rfl (fun ls hl => ?_)
        refine lv_goto (tgt := 3) hx hb dX4_copies_26 (by decide) ?_
        exact ih3 (k + 1) (upd g2 (jx + k) (f (ix + k))) _ _ _ (by omega) (by rw [hg]; exact cpy_step) (by omega) hP hD hS (lv_sub hl [0, 1, 2, 3, 4] rfl)
  exact LP3 _ 0 g _ _ _ (by omega) (cpy_0) (Nat.lt_succ_self _) hP hD hS (lv_sub hl [0, 1, 2, 3, 4] rfl)
set_option maxHeartbeats 4000000 in
set_option maxRecDepth 100000 in
theorem c_X4_notes {l : Launch} {D : va_G} {cI cG cC cR : ClassId} {h : Nat → Nat} {now past bef tri tex : Nat → Int32} {pasts typed ati : Int32} : CtV l yX4_notes wsX4_notes { frames := 1, cells := 0, slots := 0, locals := 24 } D (TY cI cG cC cR) [.ref (h 0)] (MW h cI now past pasts bef tri tex typed ati) (fun (_ : Unit) => MW h cI now past pasts now tri tex typed ati) (fun (_ : Unit) => True) := by
  refine CtV.of (cc := cX4_notes) (maxL := 1) (by decide) rfl (Nat.le_of_ble_eq_true rfl) ?_
  intro P0 e0 s0 m0 a0 b0 t0 c0 A0 Q0 ls F hK hP hD hA RETN hl
  obtain ⟨hx, hb, hml, hown, hts⟩ := id F
  have hS : va_S A0 s0.heap s0.heap [] := va_S.rf
  have hl : lv_has ls 1 [(0, .ref (h 0))] := hl
  have lk16 := hts (.fieldLink RX4 16 "SlotMapsModel" "before" "[I") (by decide +kernel)
  have lk7 := hts (.fieldLink RX4 7 "SlotMapsModel" "now" "[I") (by decide +kernel)
  have hI4 : ∀ w ∈ u_ws RX4 TX4 8, w ∈ wsX4_notes := by decide +kernel
  refine lv_aload_n hx hb dX4_notes_0 rfl (lv_at hl 0 rfl) ?_
  refine va_get (D := D) (ci := 4) (v := .ref (h 1)) (C := RX4) (T := TX4) (N := 8) hx hb hts hI4 hown hK.1 hP 0 rfl rfl 0 (by decide) lk7 (fun _ h9 => h9) rfl dX4_notes_1 ?_
  refine lv_iconst (v := (nI 0)) hx hb dX4_notes_4 (by decide) ?_
  refine lv_aload_n hx hb dX4_notes_5 rfl (lv_at hl 0 rfl) ?_
  refine va_get (D := D) (ci := 4) (v := .ref (h 3)) (C := RX4) (T := TX4) (N := 8) hx hb hts hI4 hown hK.1 hP 0 rfl rfl 3 (by decide) lk16 (fun _ h9 => h9) rfl dX4_notes_6 ?_
  refine lv_iconst (v := (nI 0)) hx hb dX4_notes_9 (by decide) ?_
  refine cl_Sv (As := [.ref (h 1), .int (nI 0), .ref (h 3), .int (nI 0)]) (rest := []) (wc := [(h 1, .inl (cI, 667, .inl now)), (h 3, .inl (cI, 667, .inl bef))]) (wsN := fun (_ : Unit) => MW h cI now past pasts (va_cpy now bef 0 0 667) tri tex typed ati) F hK hA hP hD hS (c_X4_copies (by omega) (by omega) (by omega) (by omega)) (va_cwS 4 hts gX4_notes_X4_copies rfl rfl rfl (by decide +kernel) ⟨Nat.le_of_ble_eq_true rfl, Nat.le_of_ble_eq_true rfl⟩) [1, 3] [0, 2, 4, 5] [0, 4, 1, 5, 2, 3] ([(h 0, .inr (4, [.ref (h 1), .ref (h 2), .int pasts, .ref (h 3), .ref (h 4), .ref (h 5), .int typed, .int ati])), (h 2, .inl (cI, 3335, .inl past)), (h 4, .inl (cI, 667, .inl tri)), (h 5, .inl (cI, 80, .inl tex))]) rfl rfl (fun _ => rfl) (by decide) (by decide) rfl hl.1 rfl (Nat.le_of_ble_eq_true rfl) ⟨Nat.zero_le _, Nat.zero_le _⟩ dX4_notes_10 (fun _ H locs hw_1 hP hD hS => ?_)
  try dsimp only at hw_1 hP hD
  have hP := vc_arr (g := now) (wsN := MW h cI now past pasts now tri tex typed ati) 3 rfl (fun j hj => sb_cpy0 hj) rfl hP
  have hD := vc_arrD (g := now) (wsN := MW h cI now past pasts now tri tex typed ati) 3 rfl rfl hD
  exact RETN _ _ () _ _ dX4_notes_13 (trivial) hP hD hS
set_option maxHeartbeats 4000000 in
set_option maxRecDepth 100000 in
theorem c_X4_ends {l : Launch} {D : va_G} {cI cG cC cR : ClassId} {h : Nat → Nat} {now past bef tri tex : Nat → Int32} {typed ati : Int32} {k : Nat} {ans : Int32} (hk : k ≤ 5) : CtI l yX4_ends wsX4_ends { frames := 1, cells := 0, slots := 0, locals := 24 } D (TY cI cG cC cR) [.ref (h 0), .int ans] (MW h cI now past (nI k) bef tri tex typed ati) (fun (_ : Unit) => MW h cI (fnN bef now ans) (fnP past k bef ans) (nI (fnK k ans)) bef tri tex typed ati) (fun (r : Int32) (_ : Unit) => r = ans) := by
  refine CtI.of (cc := cX4_ends) (maxL := 3) (ty := .int) (by decide) rfl (Nat.le_of_ble_eq_true rfl) ?_
  intro P0 e0 s0 m0 a0 b0 t0 c0 A0 Q0 ls F hK hP hD hA RETN hl
  obtain ⟨hx, hb, hml, hown, hts⟩ := id F
  have hS : va_S A0 s0.heap s0.heap [] := va_S.rf
  have hl : lv_has ls 3 [(0, .ref (h 0)), (1, .int ans)] := hl
  have lk13 := hts (.fieldLink RX4 13 "SlotMapsModel" "past" "[I") (by decide +kernel)
  have lk16 := hts (.fieldLink RX4 16 "SlotMapsModel" "before" "[I") (by decide +kernel)
  have lk29 := hts (.fieldLink RX4 29 "SlotMapsModel" "pasts" "I") (by decide +kernel)
  have lk7 := hts (.fieldLink RX4 7 "SlotMapsModel" "now" "[I") (by decide +kernel)
  have hI4 : ∀ w ∈ u_ws RX4 TX4 8, w ∈ wsX4_ends := by decide +kernel
  refine lv_iload_n hx hb dX4_ends_0 rfl (lv_at hl 1 rfl) ?_
  refine lv_if_ge (tgt := 19) hx hb dX4_ends_1 (by decide) (fun c1 => ?_) (fun c1 => ?_)
  · skip
    replace c1 : ¬ ans < 0 := le0_t c1
    refine lv_aload_n hx hb dX4_ends_19 rfl (lv_at hl 0 rfl) ?_
    refine va_get (D := D) (ci := 4) (v := .int (nI k)) (C := RX4) (T := TX4) (N := 8) hx hb hts hI4 hown hK.1 hP 0 rfl rfl 2 (by decide) lk29 (fun _ h9 => h9) rfl dX4_ends_20 ?_
    refine lv_iconst (v := (nI 5)) hx hb dX4_ends_23 (by decide) ?_
    refine lv_icmp_ne (tgt := 63) hx hb dX4_ends_24 (by decide) (fun c24 => ?_) (fun c24 => ?_)
    · skip
      replace c24 : ¬ k = 5 := by rw [nI_eq (by omega) (by omega)] at c24; exact c24
      refine lv_aload_n hx hb dX4_ends_63 rfl (lv_at hl 0 rfl) ?_
      refine va_get (D := D) (ci := 4) (v := .ref (h 3)) (C := RX4) (T := TX4) (N := 8) hx hb hts hI4 hown hK.1 hP 0 rfl rfl 3 (by decide) lk16 (fun _ h9 => h9) rfl dX4_ends_64 ?_
      refine lv_iconst (v := (nI 0)) hx hb dX4_ends_67 (by decide) ?_
      refine lv_aload_n hx hb dX4_ends_68 rfl (lv_at hl 0 rfl) ?_
      refine va_get (D := D) (ci := 4) (v := .ref (h 2)) (C := RX4) (T := TX4) (N := 8) hx hb hts hI4 hown hK.1 hP 0 rfl rfl 1 (by decide) lk13 (fun _ h9 => h9) rfl dX4_ends_69 ?_
      refine lv_aload_n hx hb dX4_ends_72 rfl (lv_at hl 0 rfl) ?_
      refine va_get (D := D) (ci := 4) (v := .int (nI k)) (C := RX4) (T := TX4) (N := 8) hx hb hts hI4 hown hK.1 hP 0 rfl rfl 2 (by decide) lk29 (fun _ h9 => h9) rfl dX4_ends_73 ?_
      refine lv_sipush (v := (nI 667)) hx hb dX4_ends_76 (by decide) ?_
      refine lv_imul hx hb dX4_ends_79 ?_
      refine n_as (x' := nI (k * 667)) (pk_mul _ _) ?_
      refine cl_Sv (As := [.ref (h 3), .int (nI 0), .ref (h 2), .int (nI (k * 667))]) (rest := []) (wc := [(h 3, .inl (cI, 667, .inl bef)), (h 2, .inl (cI, 3335, .inl past))]) (wsN := fun (_ : Unit) => MW h cI now (va_cpy bef past 0 (k * 667) 667) (nI k) bef tri tex typed ati) F hK hA hP hD hS (c_X4_copies (by omega) (by omega) (by omega) (by omega)) (va_cwS 4 hts gX4_ends_X4_copies rfl rfl rfl (by decide +kernel) ⟨Nat.le_of_ble_eq_true rfl, Nat.le_of_ble_eq_true rfl⟩) [3, 2] [0, 1, 4, 5] [0, 1, 5, 4, 2, 3] ([(h 0, .inr (4, [.ref (h 1), .ref (h 2), .int (nI k), .ref (h 3), .ref (h 4), .ref (h 5), .int typed, .int ati])), (h 1, .inl (cI, 667, .inl now)), (h 4, .inl (cI, 667, .inl tri)), (h 5, .inl (cI, 80, .inl tex))]) rfl rfl (fun _ => rfl) (by decide) (by decide) rfl hl.1 rfl (Nat.le_of_ble_eq_true rfl) ⟨Nat.zero_le _, Nat.zero_le _⟩ dX4_ends_80 (fun _ H locs hw_1 hP hD hS => ?_)
      try dsimp only at hw_1 hP hD
      refine lv_aload_n hx hb dX4_ends_83 rfl (lv_at hl 0 rfl) ?_
      refine lv_dup hx hb dX4_ends_84 rfl ?_
      refine va_get (D := D) (ci := 4) (v := .int (nI k)) (C := RX4) (T := TX4) (N := 8) hx hb hts hI4 hown hK.1 hP 0 rfl rfl 2 (by decide) lk29 (fun _ h9 => h9) rfl dX4_ends_85 ?_
      refine lv_iconst (v := (nI 1)) hx hb dX4_ends_88 (by decide) ?_
      refine lv_iadd hx hb dX4_ends_89 ?_
      refine n_as (x' := nI (k + 1)) (nI_add _ _) ?_
      refine va_put (D := D) (ci := 4) (v := .int (nI (k + 1))) (ty := .int) (C := RX4) (T := TX4) (N := 8) hx hb hts hI4 tyX4 tyX4_ok nmX4 hown hK.1 hP hD hS 0 rfl rfl 2 (by decide) lk29 (fun _ h9 => h9) rfl (by decide +kernel) rfl rfl (Nat.le_of_ble_eq_true rfl) dX4_ends_90 (fun H locs hP hD hS => ?_)
      have hP : va_P D vwCl (MW h cI now (va_cpy bef past 0 (k * 667) 667) (nI (k + 1)) bef tri tex typed ati) H := hP
      have hD : va_D A0 (MW h cI now (va_cpy bef past 0 (k * 667) 667) (nI (k + 1)) bef tri tex typed ati) := hD
      have e1 : fnN bef now ans = now := if_neg c1
      have e2 : fnP past k bef ans = (va_cpy bef past 0 (k * 667) 667) := by rw [fnP, if_neg c1, psh, if_neg c24, Nat.mul_comm]
      have e3 : fnK k ans = (k + 1) := by rw [fnK, if_neg c1, pn, if_neg c24]
      have hP : va_P D vwCl (MW h cI (fnN bef now ans) (fnP past k bef ans) (nI (fnK k ans)) bef tri tex typed ati) H := by rw [e1, e2, e3]; exact hP
      have hD : va_D A0 (MW h cI (fnN bef now ans) (fnP past k bef ans) (nI (fnK k ans)) bef tri tex typed ati) := by rw [e1, e2, e3]; exact hD
      refine lv_iload_n hx hb dX4_ends_93 rfl (lv_at hl 1 rfl) ?_
      exact RETN _ _ ans () _ _ dX4_ends_94 (rfl) (rfl) hP hD hS
    · skip
      replace c24 : k = 5 := by rw [nI_eq (by omega) (by omega)] at c24; exact c24
      refine lv_iconst (v := (nI 0)) hx hb dX4_ends_27 (by decide) ?_
      refine lv_istore_n (lv' := [(2, .int (nI 0)), (0, .ref (h 0)), (1, .int ans)]) hx hb dX4_ends_28 rfl hl (by decide) rfl (fun ls hl => ?_)
      have LP29 : ∀ (nn : Nat) (i : Nat) (g2 : Nat → Int32) (H : Heap) (locs : List Loc) (ls : Array Slot), i ≤ 2668 → g2 = va_cpy past past 667 0 i → 2668 - i < nn → va_P D vwCl (MW h cI now g2 (nI k) bef tri tex typed ati) H → va_D A0 (MW h cI now g2 (nI k) bef tri tex typed ati) → va_S A0 s0.heap H locs → lv_has ls 3 [(2, .int (nI i)), (0, .ref (h 0)), (1, .int ans)] → W P0 l e0 { frames := 1, cells := 0, slots := 0, locals := 24 } s0 m0 a0 b0 t0 c0 H locs 0 0 Q0 (F0 m0 29 ls []) := by
        intro nn
        induction nn with
        | zero => intro i g2 H locs ls hi hg hmu; exact absurd hmu (Nat.not_lt_zero _)
        | succ nn ih29 =>
          intro i g2 H locs ls hi hg hmu29 hP hD hS hl
          refine lv_iload_n hx hb dX4_ends_29 rfl (lv_at hl 0 rfl) ?_
          refine lv_sipush (v := (nI 2668)) hx hb dX4_ends_30 (by decide) ?_
          refine lv_icmp_ge (tgt := 58) hx hb dX4_ends_33 (by decide) (fun c33 => ?_) (fun c33 => ?_)
          · skip
            replace c33 : 2668 ≤ i := by rw [nI_leI (by omega) (by omega)] at c33; exact c33
            refine lv_aload_n hx hb dX4_ends_58 rfl (lv_at hl 1 rfl) ?_
            refine lv_iconst (v := (nI 4)) hx hb dX4_ends_59 (by decide) ?_
            refine va_put (D := D) (ci := 4) (v := .int (nI 4)) (ty := .int) (C := RX4) (T := TX4) (N := 8) hx hb hts hI4 tyX4 tyX4_ok nmX4 hown hK.1 hP hD hS 0 rfl rfl 2 (by decide) lk29 (fun _ h9 => h9) rfl (by decide +kernel) rfl rfl (Nat.le_of_ble_eq_true rfl) dX4_ends_60 (fun H locs hP hD hS => ?_)
            have hP : va_P D vwCl (MW h cI now g2 (nI 4) bef tri tex typed ati) H := hP
            have hD : va_D A0 (MW h cI now g2 (nI 4) bef tri tex typed ati) := hD
            refine lv_aload_n hx hb dX4_ends_63 rfl (lv_at hl 1 rfl) ?_
            refine va_get (D := D) (ci := 4) (v := .ref (h 3)) (C := RX4) (T := TX4) (N := 8) hx hb hts hI4 hown hK.1 hP 0 rfl rfl 3 (by decide) lk16 (fun _ h9 => h9) rfl dX4_ends_64 ?_
            refine lv_iconst (v := (nI 0)) hx hb dX4_ends_67 (by decide) ?_
            refine lv_aload_n hx hb dX4_ends_68 rfl (lv_at hl 1 rfl) ?_
            refine va_get (D := D) (ci := 4) (v := .ref (h 2)) (C := RX4) (T := TX4) (N := 8) hx hb hts hI4 hown hK.1 hP 0 rfl rfl 1 (by decide) lk13 (fun _ h9 => h9) rfl dX4_ends_69 ?_
            refine lv_aload_n hx hb dX4_ends_72 rfl (lv_at hl 1 rfl) ?_
            refine va_get (D := D) (ci := 4) (v := .int (nI 4)) (C := RX4) (T := TX4) (N := 8) hx hb hts hI4 hown hK.1 hP 0 rfl rfl 2 (by decide) lk29 (fun _ h9 => h9) rfl dX4_ends_73 ?_
            refine lv_sipush (v := (nI 667)) hx hb dX4_ends_76 (by decide) ?_
            refine lv_imul hx hb dX4_ends_79 ?_
            refine n_as (x' := nI 2668) (by decide) ?_
            refine cl_Sv (As := [.ref (h 3), .int (nI 0), .ref (h 2), .int (nI 2668)]) (rest := []) (wc := [(h 3, .inl (cI, 667, .inl bef)), (h 2, .inl (cI, 3335, .inl g2))]) (wsN := fun (_ : Unit) => MW h cI now (va_cpy bef g2 0 2668 667) (nI 4) bef tri tex typed ati) F hK hA hP hD hS (c_X4_copies (by omega) (by omega) (by omega) (by omega)) (va_cwS 4 hts gX4_ends_X4_copies rfl rfl rfl (by decide +kernel) ⟨Nat.le_of_ble_eq_true rfl, Nat.le_of_ble_eq_true rfl⟩) [3, 2] [0, 1, 4, 5] [0, 1, 5, 4, 2, 3] ([(h 0, .inr (4, [.ref (h 1), .ref (h 2), .int (nI 4), .ref (h 3), .ref (h 4), .ref (h 5), .int typed, .int ati])), (h 1, .inl (cI, 667, .inl now)), (h 4, .inl (cI, 667, .inl tri)), (h 5, .inl (cI, 80, .inl tex))]) rfl rfl (fun _ => rfl) (by decide) (by decide) rfl hl.1 rfl (Nat.le_of_ble_eq_true rfl) ⟨Nat.zero_le _, Nat.zero_le _⟩ dX4_ends_80 (fun _ H locs hw_3 hP hD hS => ?_)
            try dsimp only at hw_3 hP hD
            refine lv_aload_n hx hb dX4_ends_83 rfl (lv_at hl 1 rfl) ?_
            refine lv_dup hx hb dX4_ends_84 rfl ?_
            refine va_get (D := D) (ci := 4) (v := .int (nI 4)) (C := RX4) (T := TX4) (N := 8) hx hb hts hI4 hown hK.1 hP 0 rfl rfl 2 (by decide) lk29 (fun _ h9 => h9) rfl dX4_ends_85 ?_
            refine lv_iconst (v := (nI 1)) hx hb dX4_ends_88 (by decide) ?_
            refine lv_iadd hx hb dX4_ends_89 ?_
            refine n_as (x' := nI 5) (by decide) ?_
            refine va_put (D := D) (ci := 4) (v := .int (nI 5)) (ty := .int) (C := RX4) (T := TX4) (N := 8) hx hb hts hI4 tyX4 tyX4_ok nmX4 hown hK.1 hP hD hS 0 rfl rfl 2 (by decide) lk29 (fun _ h9 => h9) rfl (by decide +kernel) rfl rfl (Nat.le_of_ble_eq_true rfl) dX4_ends_90 (fun H locs hP hD hS => ?_)
            have hP : va_P D vwCl (MW h cI now (va_cpy bef g2 0 2668 667) (nI 5) bef tri tex typed ati) H := hP
            have hD : va_D A0 (MW h cI now (va_cpy bef g2 0 2668 667) (nI 5) bef tri tex typed ati) := hD
            have e1 : fnN bef now ans = now := if_neg c1
            have e2 : fnP past k bef ans = (va_cpy bef g2 0 2668 667) := by rw [fnP, if_neg c1, psh, if_pos c24, hg, show i = 2668 by omega]
            have e3 : fnK k ans = 5 := by rw [fnK, if_neg c1, pn, if_pos c24]
            have hP : va_P D vwCl (MW h cI (fnN bef now ans) (fnP past k bef ans) (nI (fnK k ans)) bef tri tex typed ati) H := by rw [e1, e2, e3]; exact hP
            have hD : va_D A0 (MW h cI (fnN bef now ans) (fnP past k bef ans) (nI (fnK k ans)) bef tri tex typed ati) := by rw [e1, e2, e3]; exact hD
            refine lv_iload_n hx hb dX4_ends_93 rfl (lv_at hl 2 rfl) ?_
            exact RETN _ _ ans () _ _ dX4_ends_94 (rfl) (rfl) hP hD hS
          · skip
            replace c33 : ¬ (2668 ≤ i) := by rw [nI_leI (by omega) (by omega)] at c33; exact c33
            refine lv_aload_n hx hb dX4_ends_36 rfl (lv_at hl 1 rfl) ?_
            refine va_get (D := D) (ci := 4) (v := .ref (h 2)) (C := RX4) (T := TX4) (N := 8) hx hb hts hI4 hown hK.1 hP 0 rfl rfl 1 (by decide) lk13 (fun _ h9 => h9) rfl dX4_ends_37 ?_
            refine lv_iload_n hx hb dX4_ends_40 rfl (lv_at hl 0 rfl) ?_
            refine lv_aload_n hx hb dX4_ends_41 rfl (lv_at hl 1 rfl) ?_
            refine va_get (D := D) (ci := 4) (v := .ref (h 2)) (C := RX4) (T := TX4) (N := 8) hx hb hts hI4 hown hK.1 hP 0 rfl rfl 1 (by decide) lk13 (fun _ h9 => h9) rfl dX4_ends_42 ?_
            refine lv_iload_n hx hb dX4_ends_45 rfl (lv_at hl 0 rfl) ?_
            refine lv_sipush (v := (nI 667)) hx hb dX4_ends_46 (by decide) ?_
            refine lv_iadd hx hb dX4_ends_49 ?_
            refine n_as (x' := nI (i + 667)) (nI_add _ _) ?_
            refine n_iald hx hb hK hP 2 0 rfl rfl (by decide) (by omega) dX4_ends_50 ?_
            refine n_iast hx hb hK hP hD hS 2 0 rfl rfl (by decide) (by omega) dX4_ends_51 (wsN := MW h cI now (upd g2 i (g2 (i + 667))) (nI k) bef tri tex typed ati) rfl (fun H locs hP hD hS => ?_)
            refine lv_iinc (v := (nI (i + 1))) (lv' := [(2, .int (nI (i + 1))), (0, .ref (h 0)), (1, .int ans)]) hx hb dX4_ends_52 hl (k := 0) rfl (n_inc1 _) (by decide) rfl (fun ls hl => ?_)
            refine lv_goto (tgt := 29) hx hb dX4_ends_55 (by decide) ?_
            exact ih29 (i + 1) (upd g2 i (g2 (i + 667))) _ _ _ (by omega) (psh_step hg) (by omega) hP hD hS (lv_sub hl [0, 1, 2] rfl)
      exact LP29 _ 0 past _ _ _ (by omega) (cpy_0) (Nat.lt_succ_self _) hP hD hS (lv_sub hl [0, 1, 2] rfl)
  · skip
    replace c1 : ans < 0 := le0_f c1
    refine lv_aload_n hx hb dX4_ends_4 rfl (lv_at hl 0 rfl) ?_
    refine va_get (D := D) (ci := 4) (v := .ref (h 3)) (C := RX4) (T := TX4) (N := 8) hx hb hts hI4 hown hK.1 hP 0 rfl rfl 3 (by decide) lk16 (fun _ h9 => h9) rfl dX4_ends_5 ?_
    refine lv_iconst (v := (nI 0)) hx hb dX4_ends_8 (by decide) ?_
    refine lv_aload_n hx hb dX4_ends_9 rfl (lv_at hl 0 rfl) ?_
    refine va_get (D := D) (ci := 4) (v := .ref (h 1)) (C := RX4) (T := TX4) (N := 8) hx hb hts hI4 hown hK.1 hP 0 rfl rfl 0 (by decide) lk7 (fun _ h9 => h9) rfl dX4_ends_10 ?_
    refine lv_iconst (v := (nI 0)) hx hb dX4_ends_13 (by decide) ?_
    refine cl_Sv (As := [.ref (h 3), .int (nI 0), .ref (h 1), .int (nI 0)]) (rest := []) (wc := [(h 3, .inl (cI, 667, .inl bef)), (h 1, .inl (cI, 667, .inl now))]) (wsN := fun (_ : Unit) => MW h cI (va_cpy bef now 0 0 667) past (nI k) bef tri tex typed ati) F hK hA hP hD hS (c_X4_copies (by omega) (by omega) (by omega) (by omega)) (va_cwS 4 hts gX4_ends_X4_copies rfl rfl rfl (by decide +kernel) ⟨Nat.le_of_ble_eq_true rfl, Nat.le_of_ble_eq_true rfl⟩) [3, 1] [0, 2, 4, 5] [0, 5, 1, 4, 2, 3] ([(h 0, .inr (4, [.ref (h 1), .ref (h 2), .int (nI k), .ref (h 3), .ref (h 4), .ref (h 5), .int typed, .int ati])), (h 2, .inl (cI, 3335, .inl past)), (h 4, .inl (cI, 667, .inl tri)), (h 5, .inl (cI, 80, .inl tex))]) rfl rfl (fun _ => rfl) (by decide) (by decide) rfl hl.1 rfl (Nat.le_of_ble_eq_true rfl) ⟨Nat.zero_le _, Nat.zero_le _⟩ dX4_ends_14 (fun _ H locs hw_5 hP hD hS => ?_)
    try dsimp only at hw_5 hP hD
    have hP := vc_arr (g := bef) (wsN := MW h cI bef past (nI k) bef tri tex typed ati) 1 rfl (fun j hj => sb_cpy0 hj) rfl hP
    have hD := vc_arrD (g := bef) (wsN := MW h cI bef past (nI k) bef tri tex typed ati) 1 rfl rfl hD
    have hP : va_P D vwCl (MW h cI (fnN bef now ans) (fnP past k bef ans) (nI (fnK k ans)) bef tri tex typed ati) H := by rw [fnN, fnP, fnK, if_pos c1, if_pos c1, if_pos c1]; exact hP
    have hD : va_D A0 (MW h cI (fnN bef now ans) (fnP past k bef ans) (nI (fnK k ans)) bef tri tex typed ati) := by rw [fnN, fnP, fnK, if_pos c1, if_pos c1, if_pos c1]; exact hD
    refine lv_iload_n hx hb dX4_ends_17 rfl (lv_at hl 1 rfl) ?_
    exact RETN _ _ ans () _ _ dX4_ends_18 (rfl) (rfl) hP hD hS
set_option maxHeartbeats 4000000 in
set_option maxRecDepth 100000 in
theorem c_X4_goesThrough {l : Launch} {D : va_G} {cI cG cC cR : ClassId} {h : Nat → Nat} {now past bef tri tex : Nat → Int32} {pasts typed ati : Int32} : CtI l yX4_goesThrough wsX4_goesThrough { frames := 3, cells := 0, slots := 0, locals := 67 } D (TY cI cG cC cR) [.ref (h 0)] (MW h cI now past pasts bef tri tex typed ati) (fun (u : Nat → Int32) => MW h cI u past pasts bef tri tex typed ati) (fun (r : Int32) (u : Nat → Int32) => r = oI (gt 10 0 now).1 ∧ u = (gt 10 0 now).2) := by
  refine CtI.of (cc := cX4_goesThrough) (maxL := 3) (ty := .int) (by decide) rfl (Nat.le_of_ble_eq_true rfl) ?_
  intro P0 e0 s0 m0 a0 b0 t0 c0 A0 Q0 ls F hK hP hD hA RETN hl
  obtain ⟨hx, hb, hml, hown, hts⟩ := id F
  have hS : va_S A0 s0.heap s0.heap [] := va_S.rf
  have hl : lv_has ls 3 [(0, .ref (h 0))] := hl
  have lk7 := hts (.fieldLink RX4 7 "SlotMapsModel" "now" "[I") (by decide +kernel)
  have hI4 : ∀ w ∈ u_ws RX4 TX4 8, w ∈ wsX4_goesThrough := by decide +kernel
  refine lv_iconst (v := (nI 0)) hx hb dX4_goesThrough_0 (by decide) ?_
  refine lv_istore_n (lv' := [(1, .int (nI 0)), (0, .ref (h 0))]) hx hb dX4_goesThrough_1 rfl hl (by decide) rfl (fun ls hl => ?_)
  have LP2 : ∀ (nn : Nat) (w : Nat) (g : Nat → Int32) (H : Heap) (locs : List Loc) (ls : Array Slot), w ≤ 10 → gt 10 0 now = gt (10 - w) w g → 10 - w < nn → va_P D vwCl (MW h cI g past pasts bef tri tex typed ati) H → va_D A0 (MW h cI g past pasts bef tri tex typed ati) → va_S A0 s0.heap H locs → lv_has ls 3 [(1, .int (nI w)), (0, .ref (h 0))] → W P0 l e0 { frames := 3, cells := 0, slots := 0, locals := 67 } s0 m0 a0 b0 t0 c0 H locs 0 0 Q0 (F0 m0 2 ls []) := by
    intro nn
    induction nn with
    | zero => intro w g H locs ls hw hg hmu; exact absurd hmu (Nat.not_lt_zero _)
    | succ nn ih2 =>
      intro w g H locs ls hw hg hmu2 hP hD hS hl
      refine lv_iload_n hx hb dX4_goesThrough_2 rfl (lv_at hl 0 rfl) ?_
      refine lv_bipush (v := (nI 10)) hx hb dX4_goesThrough_3 (by decide) ?_
      refine lv_icmp_ge (tgt := 70) hx hb dX4_goesThrough_5 (by decide) (fun c5 => ?_) (fun c5 => ?_)
      · skip
        replace c5 : 10 ≤ w := by rw [nI_leI (by omega) (by omega)] at c5; exact c5
        refine lv_bipush (v := (-9)) hx hb dX4_goesThrough_70 (by decide) ?_
        exact RETN _ _ (-9) g _ _ dX4_goesThrough_72 (rfl) (by rw [hg, gt_end (by omega)]; exact ⟨rfl, rfl⟩) hP hD hS
      · skip
        replace c5 : ¬ (10 ≤ w) := by rw [nI_leI (by omega) (by omega)] at c5; exact c5
        refine lv_aload_n hx hb dX4_goesThrough_8 rfl (lv_at hl 1 rfl) ?_
        refine va_get (D := D) (ci := 4) (v := .ref (h 1)) (C := RX4) (T := TX4) (N := 8) hx hb hts hI4 hown hK.1 hP 0 rfl rfl 0 (by decide) lk7 (fun _ h9 => h9) rfl dX4_goesThrough_9 ?_
        refine lv_sipush (v := (nI 640)) hx hb dX4_goesThrough_12 (by decide) ?_
        refine lv_iload_n hx hb dX4_goesThrough_15 rfl (lv_at hl 0 rfl) ?_
        refine lv_iadd hx hb dX4_goesThrough_16 ?_
        refine n_as (x' := nI (640 + w)) (nI_add _ _) ?_
        refine n_iald hx hb hK hP 1 0 rfl rfl (by decide) (by omega) dX4_goesThrough_17 ?_
        refine lv_if_ne (tgt := 64) hx hb dX4_goesThrough_18 (by decide) (fun c18 => ?_) (fun c18 => ?_)
        · skip
          replace c18 : ¬ (g (640 + w)) = nI 0 := c18
          refine lv_iinc (v := (nI (w + 1))) (lv' := [(1, .int (nI (w + 1))), (0, .ref (h 0))]) hx hb dX4_goesThrough_64 hl (k := 0) rfl (n_inc1 _) (by decide) rfl (fun ls hl => ?_)
          refine lv_goto (tgt := 2) hx hb dX4_goesThrough_67 (by decide) ?_
          exact ih2 (w + 1) g _ _ _ (by omega) (by rw [hg]; first | exact gt_hid (by omega) c18 | exact gt_full (by omega) c18 ho) (by omega) hP hD hS (lv_sub hl [0, 1] rfl)
        · skip
          replace c18 : (g (640 + w)) = nI 0 := c18
          refine lv_aload_n hx hb dX4_goesThrough_21 rfl (lv_at hl 1 rfl) ?_
          refine va_get (D := D) (ci := 4) (v := .ref (h 1)) (C := RX4) (T := TX4) (N := 8) hx hb hts hI4 hown hK.1 hP 0 rfl rfl 0 (by decide) lk7 (fun _ h9 => h9) rfl dX4_goesThrough_22 ?_
          refine lv_sipush (v := (nI 666)) hx hb dX4_goesThrough_25 (by decide) ?_
          refine lv_dup2_11 hx hb dX4_goesThrough_28 rfl rfl ?_
          refine n_iald hx hb hK hP 1 0 rfl rfl (by decide) (by omega) dX4_goesThrough_29 ?_
          refine lv_iconst (v := (nI 1)) hx hb dX4_goesThrough_30 (by decide) ?_
          refine lv_iadd hx hb dX4_goesThrough_31 ?_
          refine n_iast hx hb hK hP hD hS 1 0 rfl rfl (by decide) (by omega) dX4_goesThrough_32 (wsN := MW h cI (upd g 666 ((g 666) + (nI 1))) past pasts bef tri tex typed ati) rfl (fun H locs hP hD hS => ?_)
          refine lv_aload_n hx hb dX4_goesThrough_33 rfl (lv_at hl 1 rfl) ?_
          refine lv_iload_n hx hb dX4_goesThrough_34 rfl (lv_at hl 0 rfl) ?_
          refine cl_Vi (b := (h 0)) (As := [.int (nI w)]) (rest := []) (wc := MW h cI (upd g 666 ((g 666) + (nI 1))) past pasts bef tri tex typed ati) (wsN := fun (_ : Unit) => MW h cI (upd g 666 ((g 666) + (nI 1))) past pasts bef tri tex typed ati) F hK hA hP hD hS (c_X4_firstIn (by omega)) (cwV 1 hts gX4_goesThrough_X4_firstIn rfl rfl rfl (by decide +kernel) ⟨Nat.le_of_ble_eq_true rfl, Nat.le_of_ble_eq_true rfl⟩) [0, 1, 2, 3, 4, 5] [] [0, 1, 2, 3, 4, 5] ([]) rfl rfl (fun _ => rfl) (by decide) (by decide) 0 rfl rfl rfl hl.1 rfl (Nat.le_of_ble_eq_true rfl) ⟨Nat.zero_le _, Nat.zero_le _⟩ dX4_goesThrough_35 (fun rr _ H locs hw_1 hP hD hS => ?_)
          try dsimp only at hw_1 hP hD
          have hrr : rr = oI (fi (lkP g) w) := hw_1
          cases ho : fi (lkP g) w with
          | none =>
            obtain rfl : rr = -9 := by rw [hrr, ho]; rfl
            refine lv_istore_n (lv' := [(2, .int (-9)), (1, .int (nI w)), (0, .ref (h 0))]) hx hb dX4_goesThrough_38 rfl hl (by decide) rfl (fun ls hl => ?_)
            refine lv_iload_n hx hb dX4_goesThrough_39 rfl (lv_at hl 0 rfl) ?_
            refine lv_bipush (v := (-9)) hx hb dX4_goesThrough_40 (by decide) ?_
            refine lv_icmp_eq (tgt := 53) hx hb dX4_goesThrough_42 (by decide) (fun c42 => ?_) (fun c42 => ?_)
            · skip
              refine lv_aload_n hx hb dX4_goesThrough_53 rfl (lv_at hl 2 rfl) ?_
              refine va_get (D := D) (ci := 4) (v := .ref (h 1)) (C := RX4) (T := TX4) (N := 8) hx hb hts hI4 hown hK.1 hP 0 rfl rfl 0 (by decide) lk7 (fun _ h9 => h9) rfl dX4_goesThrough_54 ?_
              refine lv_sipush (v := (nI 640)) hx hb dX4_goesThrough_57 (by decide) ?_
              refine lv_iload_n hx hb dX4_goesThrough_60 rfl (lv_at hl 1 rfl) ?_
              refine lv_iadd hx hb dX4_goesThrough_61 ?_
              refine n_as (x' := nI (640 + w)) (nI_add _ _) ?_
              refine lv_iconst (v := (nI 1)) hx hb dX4_goesThrough_62 (by decide) ?_
              refine n_iast hx hb hK hP hD hS 1 0 rfl rfl (by decide) (by omega) dX4_goesThrough_63 (wsN := MW h cI (upd (upd g 666 ((g 666) + (nI 1))) (640 + w) (nI 1)) past pasts bef tri tex typed ati) rfl (fun H locs hP hD hS => ?_)
              refine lv_iinc (v := (nI (w + 1))) (lv' := [(1, .int (nI (w + 1))), (2, .int (-9)), (0, .ref (h 0))]) hx hb dX4_goesThrough_64 hl (k := 1) rfl (n_inc1 _) (by decide) rfl (fun ls hl => ?_)
              refine lv_goto (tgt := 2) hx hb dX4_goesThrough_67 (by decide) ?_
              exact ih2 (w + 1) (upd (upd g 666 ((g 666) + (nI 1))) (640 + w) (nI 1)) _ _ _ (by omega) (by rw [hg]; first | exact gt_hid (by omega) c18 | exact gt_full (by omega) c18 ho) (by omega) hP hD hS (lv_sub hl [0, 2] rfl)
            · skip
              exfalso
              exact c42 rfl
          | some sl =>
            obtain rfl : rr = nI sl := by rw [hrr, ho]; rfl
            have hsl := fi_lt ho
            refine lv_istore_n (lv' := [(2, .int (nI sl)), (1, .int (nI w)), (0, .ref (h 0))]) hx hb dX4_goesThrough_38 rfl hl (by decide) rfl (fun ls hl => ?_)
            refine lv_iload_n hx hb dX4_goesThrough_39 rfl (lv_at hl 0 rfl) ?_
            refine lv_bipush (v := (-9)) hx hb dX4_goesThrough_40 (by decide) ?_
            refine lv_icmp_eq (tgt := 53) hx hb dX4_goesThrough_42 (by decide) (fun c42 => ?_) (fun c42 => ?_)
            · skip
              exfalso
              exact ne9 (by omega) c42
            · skip
              refine lv_aload_n hx hb dX4_goesThrough_45 rfl (lv_at hl 2 rfl) ?_
              refine lv_iload_n hx hb dX4_goesThrough_46 rfl (lv_at hl 0 rfl) ?_
              refine lv_iconst (v := (nI 1)) hx hb dX4_goesThrough_47 (by decide) ?_
              refine cl_Vv (b := (h 0)) (As := [.int (nI sl), .int (nI 1)]) (rest := []) (wc := MW h cI (upd g 666 ((g 666) + (nI 1))) past pasts bef tri tex typed ati) (wsN := fun (_ : Unit) => MW h cI (bc1 (upd g 666 (g 666 + nI 1)) sl (nI 1)) past pasts bef tri tex typed ati) F hK hA hP hD hS (c_X4_becomes (by omega)) (cwV 2 hts gX4_goesThrough_X4_becomes rfl rfl rfl (by decide +kernel) ⟨Nat.le_of_ble_eq_true rfl, Nat.le_of_ble_eq_true rfl⟩) [0, 1, 2, 3, 4, 5] [] [0, 1, 2, 3, 4, 5] ([]) rfl rfl (fun _ => rfl) (by decide) (by decide) 0 rfl rfl rfl hl.1 rfl (Nat.le_of_ble_eq_true rfl) ⟨Nat.zero_le _, Nat.zero_le _⟩ dX4_goesThrough_48 (fun _ H locs hw_3 hP hD hS => ?_)
              try dsimp only at hw_3 hP hD
              refine lv_iload_n hx hb dX4_goesThrough_51 rfl (lv_at hl 0 rfl) ?_
              exact RETN _ _ (nI sl) (bc1 (lkP g) sl (nI 1)) _ _ dX4_goesThrough_52 (rfl) (by rw [hg, gt_found (by omega) c18 ho]; exact ⟨rfl, rfl⟩) hP hD hS
  exact LP2 _ 0 now _ _ _ (by omega) (rfl) (Nat.lt_succ_self _) hP hD hS (lv_sub hl [0, 1] rfl)
set_option maxHeartbeats 4000000 in
set_option maxRecDepth 100000 in
theorem c_X4_clears {l : Launch} {D : va_G} {cI cG cC cR : ClassId} {h : Nat → Nat} {now past bef tri tex : Nat → Int32} {pasts typed ati : Int32} {words : Nat} (h1 : 1 ≤ words) (h2 : words ≤ 10) : CtI l yX4_clears wsX4_clears { frames := 3, cells := 0, slots := 0, locals := 67 } D (TY cI cG cC cR) [.ref (h 0), .int (nI words)] (MW h cI now past pasts bef tri tex typed ati) (fun (u : Nat → Int32) => MW h cI u past pasts bef tri tex typed ati) (fun (r : Int32) (u : Nat → Int32) => r = nI (clN now words) ∧ u = clF now words) := by
  refine CtI.of (cc := cX4_clears) (maxL := 6) (ty := .int) (by decide) rfl (Nat.le_of_ble_eq_true rfl) ?_
  intro P0 e0 s0 m0 a0 b0 t0 c0 A0 Q0 ls F hK hP hD hA RETN hl
  obtain ⟨hx, hb, hml, hown, hts⟩ := id F
  have hS : va_S A0 s0.heap s0.heap [] := va_S.rf
  have hl : lv_has ls 6 [(0, .ref (h 0)), (1, .int (nI words))] := hl
  have lk7 := hts (.fieldLink RX4 7 "SlotMapsModel" "now" "[I") (by decide +kernel)
  have hI4 : ∀ w ∈ u_ws RX4 TX4 8, w ∈ wsX4_clears := by decide +kernel
  refine lv_iconst (v := (nI 0)) hx hb dX4_clears_0 (by decide) ?_
  refine lv_istore_n (lv' := [(2, .int (nI 0)), (0, .ref (h 0)), (1, .int (nI words))]) hx hb dX4_clears_1 rfl hl (by decide) rfl (fun ls hl => ?_)
  refine lv_iload_n hx hb dX4_clears_2 rfl (lv_at hl 2 rfl) ?_
  refine lv_istore_n (lv' := [(3, .int (nI words)), (2, .int (nI 0)), (0, .ref (h 0)), (1, .int (nI words))]) hx hb dX4_clears_3 rfl hl (by decide) rfl (fun ls hl => ?_)
  refine lv_iconst (v := (nI 0)) hx hb dX4_clears_4 (by decide) ?_
  refine lv_istore (lv' := [(4, .int (nI 0)), (3, .int (nI words)), (2, .int (nI 0)), (0, .ref (h 0)), (1, .int (nI words))]) hx hb dX4_clears_5 hl (by decide) rfl (fun ls hl => ?_)
  have LP7 : ∀ (nn : Nat) (w : Nat) (n : Nat) (lf : Nat) (g : Nat → Int32) (H : Heap) (locs : List Loc) (ls : Array Slot), w ≤ 10 → n = clS now words w → lzc now w ≤ words ∧ lf = words - lzc now w → g = bec now (clP now words w (32 * w)) (fun _ => nI 0) → 10 - w < nn → va_P D vwCl (MW h cI g past pasts bef tri tex typed ati) H → va_D A0 (MW h cI g past pasts bef tri tex typed ati) → va_S A0 s0.heap H locs → lv_has ls 6 [(4, .int (nI w)), (3, .int (nI lf)), (2, .int (nI n)), (0, .ref (h 0)), (1, .int (nI words))] → W P0 l e0 { frames := 3, cells := 0, slots := 0, locals := 67 } s0 m0 a0 b0 t0 c0 H locs 0 0 Q0 (F0 m0 7 ls []) := by
    intro nn
    induction nn with
    | zero => intro w n lf g H locs ls hw hn hlf hg hmu; exact absurd hmu (Nat.not_lt_zero _)
    | succ nn ih7 =>
      intro w n lf g H locs ls hw hn hlf hg hmu7 hP hD hS hl
      have hcl := clS_le now words w hw
      refine lv_iload hx hb dX4_clears_7 (lv_at hl 0 rfl) ?_
      refine lv_bipush (v := (nI 10)) hx hb dX4_clears_9 (by decide) ?_
      refine lv_icmp_ge (tgt := 89) hx hb dX4_clears_11 (by decide) (fun c11 => ?_) (fun c11 => ?_)
      · skip
        replace c11 : 10 ≤ w := by rw [nI_leI (by omega) (by omega)] at c11; exact c11
        refine lv_iload_n hx hb dX4_clears_89 rfl (lv_at hl 2 rfl) ?_
        exact RETN _ _ (nI n) g _ _ dX4_clears_90 (rfl) (by have hd : w = 10 ∨ words ≤ lzc now w := (by omega); exact ⟨by rw [hn, clN_done hw hd], cl_done hg hw hd⟩) hP hD hS
      · skip
        replace c11 : ¬ (10 ≤ w) := by rw [nI_leI (by omega) (by omega)] at c11; exact c11
        refine lv_iload_n hx hb dX4_clears_14 rfl (lv_at hl 1 rfl) ?_
        refine lv_if_le (tgt := 89) hx hb dX4_clears_15 (by decide) (fun c15 => ?_) (fun c15 => ?_)
        · skip
          replace c15 : lf ≤ 0 := by rw [show (0 : Int32) = nI 0 from rfl, nI_leI (by omega) (by omega)] at c15; exact c15
          refine lv_iload_n hx hb dX4_clears_89 rfl (lv_at hl 2 rfl) ?_
          exact RETN _ _ (nI n) g _ _ dX4_clears_90 (rfl) (by have hd : w = 10 ∨ words ≤ lzc now w := (by omega); exact ⟨by rw [hn, clN_done hw hd], cl_done hg hw hd⟩) hP hD hS
        · skip
          replace c15 : ¬ (lf ≤ 0) := by rw [show (0 : Int32) = nI 0 from rfl, nI_leI (by omega) (by omega)] at c15; exact c15
          refine lv_iload_n hx hb dX4_clears_18 rfl (lv_at hl 1 rfl) ?_
          refine lv_aload_n hx hb dX4_clears_19 rfl (lv_at hl 3 rfl) ?_
          refine lv_iload hx hb dX4_clears_20 (lv_at hl 0 rfl) ?_
          refine lv_iconst (v := (nI 2)) hx hb dX4_clears_22 (by decide) ?_
          have hc := cw_le now w (nI 2)
          refine cl_Vi (b := (h 0)) (As := [.int (nI w), .int (nI 2)]) (rest := [.int (nI lf)]) (wc := MW h cI g past pasts bef tri tex typed ati) (wsN := fun (_ : Unit) => MW h cI g past pasts bef tri tex typed ati) F hK hA hP hD hS (c_X4_inWord (by omega)) (cwV 2 hts gX4_clears_X4_inWord rfl rfl rfl (by decide +kernel) ⟨Nat.le_of_ble_eq_true rfl, Nat.le_of_ble_eq_true rfl⟩) [0, 1, 2, 3, 4, 5] [] [0, 1, 2, 3, 4, 5] ([]) rfl rfl (fun _ => rfl) (by decide) (by decide) 0 rfl rfl rfl hl.1 rfl (Nat.le_of_ble_eq_true rfl) ⟨Nat.zero_le _, Nat.zero_le _⟩ dX4_clears_23 (fun r_2 _ H locs hw_1 hP hD hS => ?_)
          try dsimp only at hw_1 hP hD
          obtain rfl : r_2 = (nI (cw now w (nI 2))) := by rw [hw_1, cl_cw hg (by omega)]
          refine lv_if_le (tgt := 33) hx hb dX4_clears_26 (by decide) (fun c26 => ?_) (fun c26 => ?_)
          · skip
            replace c26 : (cw now w (nI 2)) ≤ 0 := by rw [show (0 : Int32) = nI 0 from rfl, nI_leI (by omega) (by omega)] at c26; exact c26
            refine lv_iconst (v := (nI 0)) hx hb dX4_clears_33 (by decide) ?_
            refine lv_isub hx hb dX4_clears_34 ?_
            refine n_as (x' := nI (lf - 0)) (pk_sub (by omega)) ?_
            refine lv_istore_n (lv' := [(3, .int (nI (lf - 0))), (4, .int (nI w)), (2, .int (nI n)), (0, .ref (h 0)), (1, .int (nI words))]) hx hb dX4_clears_35 rfl hl (by decide) rfl (fun ls hl => ?_)
            refine lv_bipush (v := (nI 32)) hx hb dX4_clears_36 (by decide) ?_
            refine lv_iload hx hb dX4_clears_38 (lv_at hl 1 rfl) ?_
            refine lv_imul hx hb dX4_clears_40 ?_
            refine n_as (x' := nI (32 * w)) (pk_mul _ _) ?_
            refine lv_istore (lv' := [(5, .int (nI (32 * w))), (3, .int (nI (lf - 0))), (4, .int (nI w)), (2, .int (nI n)), (0, .ref (h 0)), (1, .int (nI words))]) hx hb dX4_clears_41 hl (by decide) rfl (fun ls hl => ?_)
            have hlz : lzc now w < words := by omega
            have LP43 : ∀ (nn : Nat) (sl : Nat) (n2 : Nat) (g2 : Nat → Int32) (H : Heap) (locs : List Loc) (ls : Array Slot), 32 * w ≤ sl ∧ sl ≤ 32 * w + 32 → n2 = n + fb_ct (fun i => decide (now (32 * w + i) = nI 2)) (sl - 32 * w) → g2 = bec now (clP now words w sl) (fun _ => nI 0) → 32 * w + 32 - sl < nn → va_P D vwCl (MW h cI g2 past pasts bef tri tex typed ati) H → va_D A0 (MW h cI g2 past pasts bef tri tex typed ati) → va_S A0 s0.heap H locs → lv_has ls 6 [(5, .int (nI sl)), (3, .int (nI (lf - 0))), (4, .int (nI w)), (2, .int (nI n2)), (0, .ref (h 0)), (1, .int (nI words))] → W P0 l e0 { frames := 3, cells := 0, slots := 0, locals := 67 } s0 m0 a0 b0 t0 c0 H locs 0 0 Q0 (F0 m0 43 ls []) := by
              intro nn
              induction nn with
              | zero => intro sl n2 g2 H locs ls hs hn2 hg2 hmu; exact absurd hmu (Nat.not_lt_zero _)
              | succ nn ih43 =>
                intro sl n2 g2 H locs ls hs hn2 hg2 hmu43 hP hD hS hl
                have hct := fb_ct_le (fun i => decide (now (32 * w + i) = nI 2)) (sl - 32 * w)
                refine lv_iload hx hb dX4_clears_43 (lv_at hl 0 rfl) ?_
                refine lv_bipush (v := (nI 32)) hx hb dX4_clears_45 (by decide) ?_
                refine lv_iload hx hb dX4_clears_47 (lv_at hl 2 rfl) ?_
                refine lv_imul hx hb dX4_clears_49 ?_
                refine n_as (x' := nI (32 * w)) (pk_mul _ _) ?_
                refine lv_bipush (v := (nI 32)) hx hb dX4_clears_50 (by decide) ?_
                refine lv_iadd hx hb dX4_clears_52 ?_
                refine n_as (x' := nI ((32 * w) + 32)) (nI_add _ _) ?_
                refine lv_icmp_ge (tgt := 83) hx hb dX4_clears_53 (by decide) (fun c53 => ?_) (fun c53 => ?_)
                · skip
                  replace c53 : ((32 * w) + 32) ≤ sl := by rw [nI_leI (by omega) (by omega)] at c53; exact c53
                  refine lv_iinc (v := (nI (w + 1))) (lv' := [(4, .int (nI (w + 1))), (5, .int (nI sl)), (3, .int (nI (lf - 0))), (2, .int (nI n2)), (0, .ref (h 0)), (1, .int (nI words))]) hx hb dX4_clears_83 hl (k := 2) rfl (n_inc1 _) (by decide) rfl (fun ls hl => ?_)
                  refine lv_goto (tgt := 7) hx hb dX4_clears_86 (by decide) ?_
                  exact ih7 (w + 1) n2 (lf - 0) g2 _ _ _ (by omega) (by rw [hn2, hn, clS_succ hlz, show sl - 32 * w = 32 by omega]; rfl) (by rw [lzc_succ]; split <;> omega) (by obtain rfl : sl = 32 * w + 32 := (by omega); exact cl_next hg2 hlz) (by omega) hP hD hS (lv_sub hl [0, 2, 3, 4, 5] rfl)
                · skip
                  replace c53 : ¬ (((32 * w) + 32) ≤ sl) := by rw [nI_leI (by omega) (by omega)] at c53; exact c53
                  refine lv_aload_n hx hb dX4_clears_56 rfl (lv_at hl 4 rfl) ?_
                  refine va_get (D := D) (ci := 4) (v := .ref (h 1)) (C := RX4) (T := TX4) (N := 8) hx hb hts hI4 hown hK.1 hP 0 rfl rfl 0 (by decide) lk7 (fun _ h9 => h9) rfl dX4_clears_57 ?_
                  have hgs : g2 sl = now sl := cl_slot hg2 (by omega) (by omega)
                  refine lv_iload hx hb dX4_clears_60 (lv_at hl 0 rfl) ?_
                  refine n_iald hx hb hK hP 1 0 rfl rfl (by decide) (by omega) dX4_clears_62 ?_
                  refine lv_iconst (v := (nI 2)) hx hb dX4_clears_63 (by decide) ?_
                  refine lv_icmp_ne (tgt := 77) hx hb dX4_clears_64 (by decide) (fun c64 => ?_) (fun c64 => ?_)
                  · skip
                    rw [hgs] at c64
                    refine lv_iinc (v := (nI (sl + 1))) (lv' := [(5, .int (nI (sl + 1))), (3, .int (nI (lf - 0))), (4, .int (nI w)), (2, .int (nI n2)), (0, .ref (h 0)), (1, .int (nI words))]) hx hb dX4_clears_77 hl (k := 0) rfl (n_inc1 _) (by decide) rfl (fun ls hl => ?_)
                    refine lv_goto (tgt := 43) hx hb dX4_clears_80 (by decide) ?_
                    exact ih43 (sl + 1) n2 g2 _ _ _ (by omega) (by rw [show sl + 1 - 32 * w = (sl - 32 * w) + 1 by omega, fb_ct_succ, show 32 * w + (sl - 32 * w) = sl by omega, hn2]; simp [c64]; try omega) (by first | exact cl_take hg2 (by omega) (by omega) c64 | exact cl_skip hg2 c64) (by omega) hP hD hS (lv_sub hl [0, 1, 2, 3, 4, 5] rfl)
                  · skip
                    rw [hgs] at c64
                    refine lv_aload_n hx hb dX4_clears_67 rfl (lv_at hl 4 rfl) ?_
                    refine lv_iload hx hb dX4_clears_68 (lv_at hl 0 rfl) ?_
                    refine lv_iconst (v := (nI 0)) hx hb dX4_clears_70 (by decide) ?_
                    refine cl_Vv (b := (h 0)) (As := [.int (nI sl), .int (nI 0)]) (rest := []) (wc := MW h cI g2 past pasts bef tri tex typed ati) (wsN := fun (_ : Unit) => MW h cI (bc1 g2 sl (nI 0)) past pasts bef tri tex typed ati) F hK hA hP hD hS (c_X4_becomes (by omega)) (cwV 2 hts gX4_clears_X4_becomes rfl rfl rfl (by decide +kernel) ⟨Nat.le_of_ble_eq_true rfl, Nat.le_of_ble_eq_true rfl⟩) [0, 1, 2, 3, 4, 5] [] [0, 1, 2, 3, 4, 5] ([]) rfl rfl (fun _ => rfl) (by decide) (by decide) 0 rfl rfl rfl hl.1 rfl (Nat.le_of_ble_eq_true rfl) ⟨Nat.zero_le _, Nat.zero_le _⟩ dX4_clears_71 (fun _ H locs hw_3 hP hD hS => ?_)
                    try dsimp only at hw_3 hP hD
                    refine lv_iinc (v := (nI (n2 + 1))) (lv' := [(2, .int (nI (n2 + 1))), (5, .int (nI sl)), (3, .int (nI (lf - 0))), (4, .int (nI w)), (0, .ref (h 0)), (1, .int (nI words))]) hx hb dX4_clears_74 hl (k := 3) rfl (n_inc1 _) (by decide) rfl (fun ls hl => ?_)
                    refine lv_iinc (v := (nI (sl + 1))) (lv' := [(5, .int (nI (sl + 1))), (2, .int (nI (n2 + 1))), (3, .int (nI (lf - 0))), (4, .int (nI w)), (0, .ref (h 0)), (1, .int (nI words))]) hx hb dX4_clears_77 hl (k := 1) rfl (n_inc1 _) (by decide) rfl (fun ls hl => ?_)
                    refine lv_goto (tgt := 43) hx hb dX4_clears_80 (by decide) ?_
                    exact ih43 (sl + 1) (n2 + 1) (bc1 g2 sl (nI 0)) _ _ _ (by omega) (by rw [show sl + 1 - 32 * w = (sl - 32 * w) + 1 by omega, fb_ct_succ, show 32 * w + (sl - 32 * w) = sl by omega, hn2]; simp [c64]; try omega) (by first | exact cl_take hg2 (by omega) (by omega) c64 | exact cl_skip hg2 c64) (by omega) hP hD hS (lv_sub hl [0, 2, 3, 1, 4, 5] rfl)
            exact LP43 _ (32 * w) n g _ _ _ (by omega) (by rw [Nat.sub_self]; rfl) (hg) (Nat.lt_succ_self _) hP hD hS (lv_sub hl [0, 1, 2, 3, 4, 5] rfl)
          · skip
            replace c26 : ¬ ((cw now w (nI 2)) ≤ 0) := by rw [show (0 : Int32) = nI 0 from rfl, nI_leI (by omega) (by omega)] at c26; exact c26
            refine lv_iconst (v := (nI 1)) hx hb dX4_clears_29 (by decide) ?_
            refine lv_goto (tgt := 34) hx hb dX4_clears_30 (by decide) ?_
            refine lv_isub hx hb dX4_clears_34 ?_
            refine n_as (x' := nI (lf - 1)) (pk_sub (by omega)) ?_
            refine lv_istore_n (lv' := [(3, .int (nI (lf - 1))), (4, .int (nI w)), (2, .int (nI n)), (0, .ref (h 0)), (1, .int (nI words))]) hx hb dX4_clears_35 rfl hl (by decide) rfl (fun ls hl => ?_)
            refine lv_bipush (v := (nI 32)) hx hb dX4_clears_36 (by decide) ?_
            refine lv_iload hx hb dX4_clears_38 (lv_at hl 1 rfl) ?_
            refine lv_imul hx hb dX4_clears_40 ?_
            refine n_as (x' := nI (32 * w)) (pk_mul _ _) ?_
            refine lv_istore (lv' := [(5, .int (nI (32 * w))), (3, .int (nI (lf - 1))), (4, .int (nI w)), (2, .int (nI n)), (0, .ref (h 0)), (1, .int (nI words))]) hx hb dX4_clears_41 hl (by decide) rfl (fun ls hl => ?_)
            have hlz : lzc now w < words := by omega
            have LP43 : ∀ (nn : Nat) (sl : Nat) (n2 : Nat) (g2 : Nat → Int32) (H : Heap) (locs : List Loc) (ls : Array Slot), 32 * w ≤ sl ∧ sl ≤ 32 * w + 32 → n2 = n + fb_ct (fun i => decide (now (32 * w + i) = nI 2)) (sl - 32 * w) → g2 = bec now (clP now words w sl) (fun _ => nI 0) → 32 * w + 32 - sl < nn → va_P D vwCl (MW h cI g2 past pasts bef tri tex typed ati) H → va_D A0 (MW h cI g2 past pasts bef tri tex typed ati) → va_S A0 s0.heap H locs → lv_has ls 6 [(5, .int (nI sl)), (3, .int (nI (lf - 1))), (4, .int (nI w)), (2, .int (nI n2)), (0, .ref (h 0)), (1, .int (nI words))] → W P0 l e0 { frames := 3, cells := 0, slots := 0, locals := 67 } s0 m0 a0 b0 t0 c0 H locs 0 0 Q0 (F0 m0 43 ls []) := by
              intro nn
              induction nn with
              | zero => intro sl n2 g2 H locs ls hs hn2 hg2 hmu; exact absurd hmu (Nat.not_lt_zero _)
              | succ nn ih43 =>
                intro sl n2 g2 H locs ls hs hn2 hg2 hmu43 hP hD hS hl
                have hct := fb_ct_le (fun i => decide (now (32 * w + i) = nI 2)) (sl - 32 * w)
                refine lv_iload hx hb dX4_clears_43 (lv_at hl 0 rfl) ?_
                refine lv_bipush (v := (nI 32)) hx hb dX4_clears_45 (by decide) ?_
                refine lv_iload hx hb dX4_clears_47 (lv_at hl 2 rfl) ?_
                refine lv_imul hx hb dX4_clears_49 ?_
                refine n_as (x' := nI (32 * w)) (pk_mul _ _) ?_
                refine lv_bipush (v := (nI 32)) hx hb dX4_clears_50 (by decide) ?_
                refine lv_iadd hx hb dX4_clears_52 ?_
                refine n_as (x' := nI ((32 * w) + 32)) (nI_add _ _) ?_
                refine lv_icmp_ge (tgt := 83) hx hb dX4_clears_53 (by decide) (fun c53 => ?_) (fun c53 => ?_)
                · skip
                  replace c53 : ((32 * w) + 32) ≤ sl := by rw [nI_leI (by omega) (by omega)] at c53; exact c53
                  refine lv_iinc (v := (nI (w + 1))) (lv' := [(4, .int (nI (w + 1))), (5, .int (nI sl)), (3, .int (nI (lf - 1))), (2, .int (nI n2)), (0, .ref (h 0)), (1, .int (nI words))]) hx hb dX4_clears_83 hl (k := 2) rfl (n_inc1 _) (by decide) rfl (fun ls hl => ?_)
                  refine lv_goto (tgt := 7) hx hb dX4_clears_86 (by decide) ?_
                  exact ih7 (w + 1) n2 (lf - 1) g2 _ _ _ (by omega) (by rw [hn2, hn, clS_succ hlz, show sl - 32 * w = 32 by omega]; rfl) (by rw [lzc_succ]; split <;> omega) (by obtain rfl : sl = 32 * w + 32 := (by omega); exact cl_next hg2 hlz) (by omega) hP hD hS (lv_sub hl [0, 2, 3, 4, 5] rfl)
                · skip
                  replace c53 : ¬ (((32 * w) + 32) ≤ sl) := by rw [nI_leI (by omega) (by omega)] at c53; exact c53
                  refine lv_aload_n hx hb dX4_clears_56 rfl (lv_at hl 4 rfl) ?_
                  refine va_get (D := D) (ci := 4) (v := .ref (h 1)) (C := RX4) (T := TX4) (N := 8) hx hb hts hI4 hown hK.1 hP 0 rfl rfl 0 (by decide) lk7 (fun _ h9 => h9) rfl dX4_clears_57 ?_
                  have hgs : g2 sl = now sl := cl_slot hg2 (by omega) (by omega)
                  refine lv_iload hx hb dX4_clears_60 (lv_at hl 0 rfl) ?_
                  refine n_iald hx hb hK hP 1 0 rfl rfl (by decide) (by omega) dX4_clears_62 ?_
                  refine lv_iconst (v := (nI 2)) hx hb dX4_clears_63 (by decide) ?_
                  refine lv_icmp_ne (tgt := 77) hx hb dX4_clears_64 (by decide) (fun c64 => ?_) (fun c64 => ?_)
                  · skip
                    rw [hgs] at c64
                    refine lv_iinc (v := (nI (sl + 1))) (lv' := [(5, .int (nI (sl + 1))), (3, .int (nI (lf - 1))), (4, .int (nI w)), (2, .int (nI n2)), (0, .ref (h 0)), (1, .int (nI words))]) hx hb dX4_clears_77 hl (k := 0) rfl (n_inc1 _) (by decide) rfl (fun ls hl => ?_)
                    refine lv_goto (tgt := 43) hx hb dX4_clears_80 (by decide) ?_
                    exact ih43 (sl + 1) n2 g2 _ _ _ (by omega) (by rw [show sl + 1 - 32 * w = (sl - 32 * w) + 1 by omega, fb_ct_succ, show 32 * w + (sl - 32 * w) = sl by omega, hn2]; simp [c64]; try omega) (by first | exact cl_take hg2 (by omega) (by omega) c64 | exact cl_skip hg2 c64) (by omega) hP hD hS (lv_sub hl [0, 1, 2, 3, 4, 5] rfl)
                  · skip
                    rw [hgs] at c64
                    refine lv_aload_n hx hb dX4_clears_67 rfl (lv_at hl 4 rfl) ?_
                    refine lv_iload hx hb dX4_clears_68 (lv_at hl 0 rfl) ?_
                    refine lv_iconst (v := (nI 0)) hx hb dX4_clears_70 (by decide) ?_
                    refine cl_Vv (b := (h 0)) (As := [.int (nI sl), .int (nI 0)]) (rest := []) (wc := MW h cI g2 past pasts bef tri tex typed ati) (wsN := fun (_ : Unit) => MW h cI (bc1 g2 sl (nI 0)) past pasts bef tri tex typed ati) F hK hA hP hD hS (c_X4_becomes (by omega)) (cwV 2 hts gX4_clears_X4_becomes rfl rfl rfl (by decide +kernel) ⟨Nat.le_of_ble_eq_true rfl, Nat.le_of_ble_eq_true rfl⟩) [0, 1, 2, 3, 4, 5] [] [0, 1, 2, 3, 4, 5] ([]) rfl rfl (fun _ => rfl) (by decide) (by decide) 0 rfl rfl rfl hl.1 rfl (Nat.le_of_ble_eq_true rfl) ⟨Nat.zero_le _, Nat.zero_le _⟩ dX4_clears_71 (fun _ H locs hw_5 hP hD hS => ?_)
                    try dsimp only at hw_5 hP hD
                    refine lv_iinc (v := (nI (n2 + 1))) (lv' := [(2, .int (nI (n2 + 1))), (5, .int (nI sl)), (3, .int (nI (lf - 1))), (4, .int (nI w)), (0, .ref (h 0)), (1, .int (nI words))]) hx hb dX4_clears_74 hl (k := 3) rfl (n_inc1 _) (by decide) rfl (fun ls hl => ?_)
                    refine lv_iinc (v := (nI (sl + 1))) (lv' := [(5, .int (nI (sl + 1))), (2, .int (nI (n2 + 1))), (3, .int (nI (lf - 1))), (4, .int (nI w)), (0, .ref (h 0)), (1, .int (nI words))]) hx hb dX4_clears_77 hl (k := 1) rfl (n_inc1 _) (by decide) rfl (fun ls hl => ?_)
                    refine lv_goto (tgt := 43) hx hb dX4_clears_80 (by decide) ?_
                    exact ih43 (sl + 1) (n2 + 1) (bc1 g2 sl (nI 0)) _ _ _ (by omega) (by rw [show sl + 1 - 32 * w = (sl - 32 * w) + 1 by omega, fb_ct_succ, show 32 * w + (sl - 32 * w) = sl by omega, hn2]; simp [c64]; try omega) (by first | exact cl_take hg2 (by omega) (by omega) c64 | exact cl_skip hg2 c64) (by omega) hP hD hS (lv_sub hl [0, 2, 3, 1, 4, 5] rfl)
            exact LP43 _ (32 * w) n g _ _ _ (by omega) (by rw [Nat.sub_self]; rfl) (hg) (Nat.lt_succ_self _) hP hD hS (lv_sub hl [0, 1, 2, 3, 4, 5] rfl)
  exact LP7 _ 0 0 words now _ _ _ (by omega) (rfl) (⟨Nat.zero_le _, rfl⟩) (cl_0 now words) (Nat.lt_succ_self _) hP hD hS (lv_sub hl [0, 1, 2, 3, 4] rfl)
set_option maxHeartbeats 4000000 in
set_option maxRecDepth 100000 in
theorem c_X4_takes1 {l : Launch} {D : va_G} {cI cG cC cR : ClassId} {h : Nat → Nat} {now past bef tri tex : Nat → Int32} {pasts typed ati : Int32} : CtI l yX4_takes1 wsX4_takes1 { frames := 4, cells := 0, slots := 0, locals := 92 } D (TY cI cG cC cR) [.ref (h 0)] (MW h cI now past pasts bef tri tex typed ati) (fun (u : Nat → Int32) => MW h cI u past pasts bef tri tex typed ati) (fun (r : Int32) (u : Nat → Int32) => r = o3 (tk now).1 ∧ u = (tk now).2) := by
  refine CtI.of (cc := cX4_takes1) (maxL := 2) (ty := .int) (by decide) rfl (Nat.le_of_ble_eq_true rfl) ?_
  intro P0 e0 s0 m0 a0 b0 t0 c0 A0 Q0 ls F hK hP hD hA RETN hl
  obtain ⟨hx, hb, hml, hown, hts⟩ := id F
  have hS : va_S A0 s0.heap s0.heap [] := va_S.rf
  have hl : lv_has ls 2 [(0, .ref (h 0))] := hl
  refine lv_aload_n hx hb dX4_takes1_0 rfl (lv_at hl 0 rfl) ?_
  refine cl_Vi (b := (h 0)) (As := []) (rest := []) (wc := MW h cI now past pasts bef tri tex typed ati) (wsN := fun (u1 : Nat → Int32) => MW h cI u1 past pasts bef tri tex typed ati) F hK hA hP hD hS (c_X4_goesThrough) (cwV 0 hts gX4_takes1_X4_goesThrough rfl rfl rfl (by decide +kernel) ⟨Nat.le_of_ble_eq_true rfl, Nat.le_of_ble_eq_true rfl⟩) [0, 1, 2, 3, 4, 5] [] [0, 1, 2, 3, 4, 5] ([]) rfl rfl (fun _ => rfl) (by decide) (by decide) 0 rfl rfl rfl hl.1 rfl (Nat.le_of_ble_eq_true rfl) ⟨Nat.zero_le _, Nat.zero_le _⟩ dX4_takes1_1 (fun r1 u1 H locs hw_1 hP hD hS => ?_)
  try dsimp only at hw_1 hP hD
  obtain ⟨hr1, rfl⟩ := hw_1
  have hP : va_P D vwCl (MW h cI ((gt 10 0 now).2) past pasts bef tri tex typed ati) H := hP
  have hD : va_D A0 (MW h cI ((gt 10 0 now).2) past pasts bef tri tex typed ati) := hD
  cases ho : (gt 10 0 now).1 with
  | none =>
    obtain rfl : r1 = -9 := by rw [hr1, ho]; rfl
    refine lv_istore_n (lv' := [(1, .int (-9)), (0, .ref (h 0))]) hx hb dX4_takes1_4 rfl hl (by decide) rfl (fun ls hl => ?_)
    refine lv_iload_n hx hb dX4_takes1_5 rfl (lv_at hl 0 rfl) ?_
    refine lv_bipush (v := (-9)) hx hb dX4_takes1_6 (by decide) ?_
    refine lv_icmp_ne (tgt := 25) hx hb dX4_takes1_8 (by decide) (fun c8 => ?_) (fun c8 => ?_)
    · skip
      exfalso
      exact c8 rfl
    · skip
      refine lv_aload_n hx hb dX4_takes1_11 rfl (lv_at hl 1 rfl) ?_
      refine lv_bipush (v := (nI 10)) hx hb dX4_takes1_12 (by decide) ?_
      have hcn := clN_le (gt 10 0 now).2 10
      refine cl_Vi (b := (h 0)) (As := [.int (nI 10)]) (rest := []) (wc := MW h cI ((gt 10 0 now).2) past pasts bef tri tex typed ati) (wsN := fun (u2 : Nat → Int32) => MW h cI u2 past pasts bef tri tex typed ati) F hK hA hP hD hS (c_X4_clears (by decide) (by decide)) (cwV 1 hts gX4_takes1_X4_clears rfl rfl rfl (by decide +kernel) ⟨Nat.le_of_ble_eq_true rfl, Nat.le_of_ble_eq_true rfl⟩) [0, 1, 2, 3, 4, 5] [] [0, 1, 2, 3, 4, 5] ([]) rfl rfl (fun _ => rfl) (by decide) (by decide) 0 rfl rfl rfl hl.1 rfl (Nat.le_of_ble_eq_true rfl) ⟨Nat.zero_le _, Nat.zero_le _⟩ dX4_takes1_14 (fun r2 u2 H locs hw_3 hP hD hS => ?_)
      try dsimp only at hw_3 hP hD
      obtain ⟨rfl, rfl⟩ := hw_3
      have hP : va_P D vwCl (MW h cI (clF (gt 10 0 now).2 10) past pasts bef tri tex typed ati) H := hP
      have hD : va_D A0 (MW h cI (clF (gt 10 0 now).2 10) past pasts bef tri tex typed ati) := hD
      refine lv_if_le (tgt := 25) hx hb dX4_takes1_17 (by decide) (fun c17 => ?_) (fun c17 => ?_)
      · skip
        replace c17 : (clN (gt 10 0 now).2 10) ≤ 0 := by rw [show (0 : Int32) = nI 0 from rfl, nI_leI (by omega) (by omega)] at c17; exact c17
        refine lv_iload_n hx hb dX4_takes1_25 rfl (lv_at hl 0 rfl) ?_
        refine lv_bipush (v := (-9)) hx hb dX4_takes1_26 (by decide) ?_
        refine lv_icmp_ne (tgt := 36) hx hb dX4_takes1_28 (by decide) (fun c28 => ?_) (fun c28 => ?_)
        · skip
          exfalso
          exact c28 rfl
        · skip
          refine lv_bipush (v := (-3)) hx hb dX4_takes1_31 (by decide) ?_
          refine lv_goto (tgt := 37) hx hb dX4_takes1_33 (by decide) ?_
          exact RETN _ _ (-3) (clF (gt 10 0 now).2 10) _ _ dX4_takes1_37 (rfl) (by first | (rw [tk_1 ho]; exact ⟨rfl, rfl⟩) | (rw [tk_3 ho (by omega)]; exact ⟨rfl, rfl⟩) | (rw [tk_2 ho (by omega)]; exact ⟨by rw [ho3]; rfl, rfl⟩)) hP hD hS
      · skip
        replace c17 : ¬ ((clN (gt 10 0 now).2 10) ≤ 0) := by rw [show (0 : Int32) = nI 0 from rfl, nI_leI (by omega) (by omega)] at c17; exact c17
        refine lv_aload_n hx hb dX4_takes1_20 rfl (lv_at hl 1 rfl) ?_
        refine cl_Vi (b := (h 0)) (As := []) (rest := []) (wc := MW h cI (clF (gt 10 0 now).2 10) past pasts bef tri tex typed ati) (wsN := fun (u3 : Nat → Int32) => MW h cI u3 past pasts bef tri tex typed ati) F hK hA hP hD hS (c_X4_goesThrough) (cwV 0 hts gX4_takes1_X4_goesThrough rfl rfl rfl (by decide +kernel) ⟨Nat.le_of_ble_eq_true rfl, Nat.le_of_ble_eq_true rfl⟩) [0, 1, 2, 3, 4, 5] [] [0, 1, 2, 3, 4, 5] ([]) rfl rfl (fun _ => rfl) (by decide) (by decide) 0 rfl rfl rfl hl.1 rfl (Nat.le_of_ble_eq_true rfl) ⟨Nat.zero_le _, Nat.zero_le _⟩ dX4_takes1_21 (fun r3 u3 H locs hw_5 hP hD hS => ?_)
        try dsimp only at hw_5 hP hD
        obtain ⟨hr3, rfl⟩ := hw_5
        have hP : va_P D vwCl (MW h cI ((gt 10 0 (clF (gt 10 0 now).2 10)).2) past pasts bef tri tex typed ati) H := hP
        have hD : va_D A0 (MW h cI ((gt 10 0 (clF (gt 10 0 now).2 10)).2) past pasts bef tri tex typed ati) := hD
        cases ho3 : (gt 10 0 (clF (gt 10 0 now).2 10)).1 with
        | none =>
          obtain rfl : r3 = -9 := by rw [hr3, ho3]; rfl
          refine lv_istore_n (lv' := [(1, .int (-9)), (0, .ref (h 0))]) hx hb dX4_takes1_24 rfl hl (by decide) rfl (fun ls hl => ?_)
          refine lv_iload_n hx hb dX4_takes1_25 rfl (lv_at hl 0 rfl) ?_
          refine lv_bipush (v := (-9)) hx hb dX4_takes1_26 (by decide) ?_
          refine lv_icmp_ne (tgt := 36) hx hb dX4_takes1_28 (by decide) (fun c28 => ?_) (fun c28 => ?_)
          · skip
            exfalso
            exact c28 rfl
          · skip
            refine lv_bipush (v := (-3)) hx hb dX4_takes1_31 (by decide) ?_
            refine lv_goto (tgt := 37) hx hb dX4_takes1_33 (by decide) ?_
            exact RETN _ _ (-3) ((gt 10 0 (clF (gt 10 0 now).2 10)).2) _ _ dX4_takes1_37 (rfl) (by first | (rw [tk_1 ho]; exact ⟨rfl, rfl⟩) | (rw [tk_3 ho (by omega)]; exact ⟨rfl, rfl⟩) | (rw [tk_2 ho (by omega)]; exact ⟨by rw [ho3]; rfl, rfl⟩)) hP hD hS
        | some sl3 =>
          obtain rfl : r3 = nI sl3 := by rw [hr3, ho3]; rfl
          have hsl := gt_lt ho3
          refine lv_istore_n (lv' := [(1, .int (nI sl3)), (0, .ref (h 0))]) hx hb dX4_takes1_24 rfl hl (by decide) rfl (fun ls hl => ?_)
          refine lv_iload_n hx hb dX4_takes1_25 rfl (lv_at hl 0 rfl) ?_
          refine lv_bipush (v := (-9)) hx hb dX4_takes1_26 (by decide) ?_
          refine lv_icmp_ne (tgt := 36) hx hb dX4_takes1_28 (by decide) (fun c28 => ?_) (fun c28 => ?_)
          · skip
            refine lv_iload_n hx hb dX4_takes1_36 rfl (lv_at hl 0 rfl) ?_
            exact RETN _ _ (nI sl3) ((gt 10 0 (clF (gt 10 0 now).2 10)).2) _ _ dX4_takes1_37 (rfl) (by first | (rw [tk_1 ho]; exact ⟨rfl, rfl⟩) | (rw [tk_3 ho (by omega)]; exact ⟨rfl, rfl⟩) | (rw [tk_2 ho (by omega)]; exact ⟨by rw [ho3]; rfl, rfl⟩)) hP hD hS
          · skip
            exfalso
            exact ne9 (by omega) c28
  | some sl =>
    obtain rfl : r1 = nI sl := by rw [hr1, ho]; rfl
    have hsl := gt_lt ho
    refine lv_istore_n (lv' := [(1, .int (nI sl)), (0, .ref (h 0))]) hx hb dX4_takes1_4 rfl hl (by decide) rfl (fun ls hl => ?_)
    refine lv_iload_n hx hb dX4_takes1_5 rfl (lv_at hl 0 rfl) ?_
    refine lv_bipush (v := (-9)) hx hb dX4_takes1_6 (by decide) ?_
    refine lv_icmp_ne (tgt := 25) hx hb dX4_takes1_8 (by decide) (fun c8 => ?_) (fun c8 => ?_)
    · skip
      refine lv_iload_n hx hb dX4_takes1_25 rfl (lv_at hl 0 rfl) ?_
      refine lv_bipush (v := (-9)) hx hb dX4_takes1_26 (by decide) ?_
      refine lv_icmp_ne (tgt := 36) hx hb dX4_takes1_28 (by decide) (fun c28 => ?_) (fun c28 => ?_)
      · skip
        refine lv_iload_n hx hb dX4_takes1_36 rfl (lv_at hl 0 rfl) ?_
        exact RETN _ _ (nI sl) ((gt 10 0 now).2) _ _ dX4_takes1_37 (rfl) (by first | (rw [tk_1 ho]; exact ⟨rfl, rfl⟩) | (rw [tk_3 ho (by omega)]; exact ⟨rfl, rfl⟩) | (rw [tk_2 ho (by omega)]; exact ⟨by rw [ho3]; rfl, rfl⟩)) hP hD hS
      · skip
        exfalso
        exact ne9 (by omega) c28
    · skip
      exfalso
      exact ne9 (by omega) c8
set_option maxHeartbeats 4000000 in
set_option maxRecDepth 100000 in
theorem c_X4_inAll {l : Launch} {D : va_G} {cI cG cC cR : ClassId} {h : Nat → Nat} {now past bef tri tex : Nat → Int32} {pasts typed ati : Int32} {k : Int32} : CtI l yX4_inAll wsX4_inAll { frames := 1, cells := 0, slots := 0, locals := 24 } D (TY cI cG cC cR) [.ref (h 0), .int k] (MW h cI now past pasts bef tri tex typed ati) (fun (_ : Unit) => MW h cI now past pasts bef tri tex typed ati) (fun (r : Int32) (_ : Unit) => r = nI (tot now k)) := by
  refine CtI.of (cc := cX4_inAll) (maxL := 4) (ty := .int) (by decide) rfl (Nat.le_of_ble_eq_true rfl) ?_
  intro P0 e0 s0 m0 a0 b0 t0 c0 A0 Q0 ls F hK hP hD hA RETN hl
  obtain ⟨hx, hb, hml, hown, hts⟩ := id F
  have hS : va_S A0 s0.heap s0.heap [] := va_S.rf
  have hl : lv_has ls 4 [(0, .ref (h 0)), (1, .int k)] := hl
  refine lv_iconst (v := (nI 0)) hx hb dX4_inAll_0 (by decide) ?_
  refine lv_istore_n (lv' := [(2, .int (nI 0)), (0, .ref (h 0)), (1, .int k)]) hx hb dX4_inAll_1 rfl hl (by decide) rfl (fun ls hl => ?_)
  refine lv_iconst (v := (nI 0)) hx hb dX4_inAll_2 (by decide) ?_
  refine lv_istore_n (lv' := [(3, .int (nI 0)), (2, .int (nI 0)), (0, .ref (h 0)), (1, .int k)]) hx hb dX4_inAll_3 rfl hl (by decide) rfl (fun ls hl => ?_)
  have LP4 : ∀ (nn : Nat) (w : Nat) (n : Nat) (H : Heap) (locs : List Loc) (ls : Array Slot), w ≤ 10 → n = fb_sm (fun w => cw now w k) w → 10 - w < nn → va_P D vwCl (MW h cI now past pasts bef tri tex typed ati) H → va_D A0 (MW h cI now past pasts bef tri tex typed ati) → va_S A0 s0.heap H locs → lv_has ls 4 [(3, .int (nI w)), (2, .int (nI n)), (0, .ref (h 0)), (1, .int k)] → W P0 l e0 { frames := 1, cells := 0, slots := 0, locals := 24 } s0 m0 a0 b0 t0 c0 H locs 0 0 Q0 (F0 m0 4 ls []) := by
    intro nn
    induction nn with
    | zero => intro w n H locs ls hw hn hmu; exact absurd hmu (Nat.not_lt_zero _)
    | succ nn ih4 =>
      intro w n H locs ls hw hn hmu4 hP hD hS hl
      have hnl := tot_le now k w hw
      refine lv_iload_n hx hb dX4_inAll_4 rfl (lv_at hl 0 rfl) ?_
      refine lv_bipush (v := (nI 10)) hx hb dX4_inAll_5 (by decide) ?_
      refine lv_icmp_ge (tgt := 25) hx hb dX4_inAll_7 (by decide) (fun c7 => ?_) (fun c7 => ?_)
      · skip
        replace c7 : 10 ≤ w := by rw [nI_leI (by omega) (by omega)] at c7; exact c7
        refine lv_iload_n hx hb dX4_inAll_25 rfl (lv_at hl 1 rfl) ?_
        exact RETN _ _ (nI n) () _ _ dX4_inAll_26 (rfl) (by rw [hn, show w = 10 by omega]; rfl) hP hD hS
      · skip
        replace c7 : ¬ (10 ≤ w) := by rw [nI_leI (by omega) (by omega)] at c7; exact c7
        refine lv_iload_n hx hb dX4_inAll_10 rfl (lv_at hl 1 rfl) ?_
        refine lv_aload_n hx hb dX4_inAll_11 rfl (lv_at hl 2 rfl) ?_
        refine lv_iload_n hx hb dX4_inAll_12 rfl (lv_at hl 0 rfl) ?_
        refine lv_iload_n hx hb dX4_inAll_13 rfl (lv_at hl 3 rfl) ?_
        have hc := cw_le now w k
        refine cl_Vi (b := (h 0)) (As := [.int (nI w), .int k]) (rest := [.int (nI n)]) (wc := MW h cI now past pasts bef tri tex typed ati) (wsN := fun (_ : Unit) => MW h cI now past pasts bef tri tex typed ati) F hK hA hP hD hS (c_X4_inWord (by omega)) (cwV 2 hts gX4_inAll_X4_inWord rfl rfl rfl (by decide +kernel) ⟨Nat.le_of_ble_eq_true rfl, Nat.le_of_ble_eq_true rfl⟩) [0, 1, 2, 3, 4, 5] [] [0, 1, 2, 3, 4, 5] ([]) rfl rfl (fun _ => rfl) (by decide) (by decide) 0 rfl rfl rfl hl.1 rfl (Nat.le_of_ble_eq_true rfl) ⟨Nat.zero_le _, Nat.zero_le _⟩ dX4_inAll_14 (fun r_2 _ H locs hw_1 hP hD hS => ?_)
        try dsimp only at hw_1 hP hD
        obtain rfl : r_2 = (nI (cw now w k)) := hw_1
        refine lv_iadd hx hb dX4_inAll_17 ?_
        refine n_as (x' := nI (n + (cw now w k))) (nI_add _ _) ?_
        refine lv_istore_n (lv' := [(2, .int (nI (n + (cw now w k)))), (3, .int (nI w)), (0, .ref (h 0)), (1, .int k)]) hx hb dX4_inAll_18 rfl hl (by decide) rfl (fun ls hl => ?_)
        refine lv_iinc (v := (nI (w + 1))) (lv' := [(3, .int (nI (w + 1))), (2, .int (nI (n + (cw now w k)))), (0, .ref (h 0)), (1, .int k)]) hx hb dX4_inAll_19 hl (k := 1) rfl (n_inc1 _) (by decide) rfl (fun ls hl => ?_)
        refine lv_goto (tgt := 4) hx hb dX4_inAll_22 (by decide) ?_
        exact ih4 (w + 1) (n + (cw now w k)) _ _ _ (by omega) (by rw [fb_sm_succ, ← hn]) (by omega) hP hD hS (lv_sub hl [0, 1, 2, 3] rfl)
  exact LP4 _ 0 0 _ _ _ (by omega) (rfl) (Nat.lt_succ_self _) hP hD hS (lv_sub hl [0, 1, 2, 3] rfl)
set_option maxHeartbeats 4000000 in
set_option maxRecDepth 100000 in
theorem c_X4_runFrom {l : Launch} {D : va_G} {cI cG cC cR : ClassId} {h : Nat → Nat} {now past bef tri tex : Nat → Int32} {pasts typed ati : Int32} {m : Nat} (h1 : 1 ≤ m) (h2 : m ≤ 64) : CtI l yX4_runFrom wsX4_runFrom { frames := 0, cells := 0, slots := 0, locals := 0 } D (TY cI cG cC cR) [.ref (h 0), .int (nI m)] (MW h cI now past pasts bef tri tex typed ati) (fun (_ : Unit) => MW h cI now past pasts bef tri tex typed ati) (fun (r : Int32) (_ : Unit) => r = oI (rn now m 320 0 0)) := by
  refine CtI.of (cc := cX4_runFrom) (maxL := 4) (ty := .int) (by decide) rfl (Nat.le_of_ble_eq_true rfl) ?_
  intro P0 e0 s0 m0 a0 b0 t0 c0 A0 Q0 ls F hK hP hD hA RETN hl
  obtain ⟨hx, hb, hml, hown, hts⟩ := id F
  have hS : va_S A0 s0.heap s0.heap [] := va_S.rf
  have hl : lv_has ls 4 [(0, .ref (h 0)), (1, .int (nI m))] := hl
  have lk7 := hts (.fieldLink RX4 7 "SlotMapsModel" "now" "[I") (by decide +kernel)
  have hI4 : ∀ w ∈ u_ws RX4 TX4 8, w ∈ wsX4_runFrom := by decide +kernel
  refine lv_iconst (v := (nI 0)) hx hb dX4_runFrom_0 (by decide) ?_
  refine lv_istore_n (lv' := [(2, .int (nI 0)), (0, .ref (h 0)), (1, .int (nI m))]) hx hb dX4_runFrom_1 rfl hl (by decide) rfl (fun ls hl => ?_)
  refine lv_iconst (v := (nI 0)) hx hb dX4_runFrom_2 (by decide) ?_
  refine lv_istore_n (lv' := [(3, .int (nI 0)), (2, .int (nI 0)), (0, .ref (h 0)), (1, .int (nI m))]) hx hb dX4_runFrom_3 rfl hl (by decide) rfl (fun ls hl => ?_)
  have LP4 : ∀ (nn : Nat) (sl : Nat) (n : Nat) (H : Heap) (locs : List Loc) (ls : Array Slot), sl ≤ 320 → n ≤ sl → rn now m 320 0 0 = rn now m (320 - sl) sl n → 320 - sl < nn → va_P D vwCl (MW h cI now past pasts bef tri tex typed ati) H → va_D A0 (MW h cI now past pasts bef tri tex typed ati) → va_S A0 s0.heap H locs → lv_has ls 4 [(3, .int (nI sl)), (2, .int (nI n)), (0, .ref (h 0)), (1, .int (nI m))] → W P0 l e0 { frames := 0, cells := 0, slots := 0, locals := 0 } s0 m0 a0 b0 t0 c0 H locs 0 0 Q0 (F0 m0 4 ls []) := by
    intro nn
    induction nn with
    | zero => intro sl n H locs ls hs hn ha hmu; exact absurd hmu (Nat.not_lt_zero _)
    | succ nn ih4 =>
      intro sl n H locs ls hs hn ha hmu4 hP hD hS hl
      refine lv_iload_n hx hb dX4_runFrom_4 rfl (lv_at hl 0 rfl) ?_
      refine lv_sipush (v := (nI 320)) hx hb dX4_runFrom_5 (by decide) ?_
      refine lv_icmp_ge (tgt := 45) hx hb dX4_runFrom_8 (by decide) (fun c8 => ?_) (fun c8 => ?_)
      · skip
        replace c8 : 320 ≤ sl := by rw [nI_leI (by omega) (by omega)] at c8; exact c8
        refine lv_bipush (v := (-9)) hx hb dX4_runFrom_45 (by decide) ?_
        exact RETN _ _ (-9) () _ _ dX4_runFrom_47 (rfl) (by rw [ha, rn_end (by omega)]; rfl) hP hD hS
      · skip
        replace c8 : ¬ (320 ≤ sl) := by rw [nI_leI (by omega) (by omega)] at c8; exact c8
        refine lv_aload_n hx hb dX4_runFrom_11 rfl (lv_at hl 2 rfl) ?_
        refine va_get (D := D) (ci := 4) (v := .ref (h 1)) (C := RX4) (T := TX4) (N := 8) hx hb hts hI4 hown hK.1 hP 0 rfl rfl 0 (by decide) lk7 (fun _ h9 => h9) rfl dX4_runFrom_12 ?_
        refine lv_iload_n hx hb dX4_runFrom_15 rfl (lv_at hl 0 rfl) ?_
        refine n_iald hx hb hK hP 1 0 rfl rfl (by decide) (by omega) dX4_runFrom_16 ?_
        refine lv_if_ne (tgt := 26) hx hb dX4_runFrom_17 (by decide) (fun c17 => ?_) (fun c17 => ?_)
        · skip
          replace c17 : ¬ (now sl) = nI 0 := c17
          have hn1 : (if now sl = nI 0 then n + 1 else 0) = 0 := if_neg c17
          refine lv_iconst (v := (nI 0)) hx hb dX4_runFrom_26 (by decide) ?_
          refine lv_istore_n (lv' := [(2, .int (nI 0)), (3, .int (nI sl)), (0, .ref (h 0)), (1, .int (nI m))]) hx hb dX4_runFrom_27 rfl hl (by decide) rfl (fun ls hl => ?_)
          refine lv_iload_n hx hb dX4_runFrom_28 rfl (lv_at hl 0 rfl) ?_
          refine lv_iload_n hx hb dX4_runFrom_29 rfl (lv_at hl 3 rfl) ?_
          refine lv_icmp_ne (tgt := 39) hx hb dX4_runFrom_30 (by decide) (fun c30 => ?_) (fun c30 => ?_)
          · skip
            replace c30 : ¬ 0 = m := by rw [nI_eq (by omega) (by omega)] at c30; exact c30
            refine lv_iinc (v := (nI (sl + 1))) (lv' := [(3, .int (nI (sl + 1))), (2, .int (nI 0)), (0, .ref (h 0)), (1, .int (nI m))]) hx hb dX4_runFrom_39 hl (k := 1) rfl (n_inc1 _) (by decide) rfl (fun ls hl => ?_)
            refine lv_goto (tgt := 4) hx hb dX4_runFrom_42 (by decide) ?_
            exact ih4 (sl + 1) 0 _ _ _ (by omega) (by omega) (by rw [ha, rn_no (by omega) hn1 c30]) (by omega) hP hD hS (lv_sub hl [0, 1, 2, 3] rfl)
          · skip
            replace c30 : 0 = m := by rw [nI_eq (by omega) (by omega)] at c30; exact c30
            refine lv_iload_n hx hb dX4_runFrom_33 rfl (lv_at hl 1 rfl) ?_
            refine lv_iload_n hx hb dX4_runFrom_34 rfl (lv_at hl 3 rfl) ?_
            refine lv_isub hx hb dX4_runFrom_35 ?_
            refine lv_iconst (v := (nI 1)) hx hb dX4_runFrom_36 (by decide) ?_
            refine lv_iadd hx hb dX4_runFrom_37 ?_
            refine n_as (x' := (nI (sl + 1 - m))) (subadd (by omega)) ?_
            exact RETN _ _ (nI (sl + 1 - m)) () _ _ dX4_runFrom_38 (rfl) (by rw [ha, rn_yes (by omega) hn1 c30]; rfl) hP hD hS
        · skip
          replace c17 : (now sl) = nI 0 := c17
          have hn1 : (if now sl = nI 0 then n + 1 else 0) = n + 1 := if_pos c17
          refine lv_iload_n hx hb dX4_runFrom_20 rfl (lv_at hl 1 rfl) ?_
          refine lv_iconst (v := (nI 1)) hx hb dX4_runFrom_21 (by decide) ?_
          refine lv_iadd hx hb dX4_runFrom_22 ?_
          refine n_as (x' := nI (n + 1)) (nI_add _ _) ?_
          refine lv_goto (tgt := 27) hx hb dX4_runFrom_23 (by decide) ?_
          refine lv_istore_n (lv' := [(2, .int (nI (n + 1))), (3, .int (nI sl)), (0, .ref (h 0)), (1, .int (nI m))]) hx hb dX4_runFrom_27 rfl hl (by decide) rfl (fun ls hl => ?_)
          refine lv_iload_n hx hb dX4_runFrom_28 rfl (lv_at hl 0 rfl) ?_
          refine lv_iload_n hx hb dX4_runFrom_29 rfl (lv_at hl 3 rfl) ?_
          refine lv_icmp_ne (tgt := 39) hx hb dX4_runFrom_30 (by decide) (fun c30 => ?_) (fun c30 => ?_)
          · skip
            replace c30 : ¬ (n + 1) = m := by rw [nI_eq (by omega) (by omega)] at c30; exact c30
            refine lv_iinc (v := (nI (sl + 1))) (lv' := [(3, .int (nI (sl + 1))), (2, .int (nI (n + 1))), (0, .ref (h 0)), (1, .int (nI m))]) hx hb dX4_runFrom_39 hl (k := 1) rfl (n_inc1 _) (by decide) rfl (fun ls hl => ?_)
            refine lv_goto (tgt := 4) hx hb dX4_runFrom_42 (by decide) ?_
            exact ih4 (sl + 1) (n + 1) _ _ _ (by omega) (by omega) (by rw [ha, rn_no (by omega) hn1 c30]) (by omega) hP hD hS (lv_sub hl [0, 1, 2, 3] rfl)
          · skip
            replace c30 : (n + 1) = m := by rw [nI_eq (by omega) (by omega)] at c30; exact c30
            refine lv_iload_n hx hb dX4_runFrom_33 rfl (lv_at hl 1 rfl) ?_
            refine lv_iload_n hx hb dX4_runFrom_34 rfl (lv_at hl 3 rfl) ?_
            refine lv_isub hx hb dX4_runFrom_35 ?_
            refine lv_iconst (v := (nI 1)) hx hb dX4_runFrom_36 (by decide) ?_
            refine lv_iadd hx hb dX4_runFrom_37 ?_
            refine n_as (x' := (nI (sl + 1 - m))) (subadd (by omega)) ?_
            exact RETN _ _ (nI (sl + 1 - m)) () _ _ dX4_runFrom_38 (rfl) (by rw [ha, rn_yes (by omega) hn1 c30]; rfl) hP hD hS
  exact LP4 _ 0 0 _ _ _ (by omega) (by omega) (rfl) (Nat.lt_succ_self _) hP hD hS (lv_sub hl [0, 1, 2, 3] rfl)
end
section
/-! the reference's actions: each as an answer and the slots behind it -/
theorem fn_neg {b g p : Nat → Int32} {k : Nat} {a : Int32} (h : a < 0) : fnN b g a = b ∧ fnP p k b a = p ∧ fnK k a = k := ⟨if_pos h, if_pos h, if_pos h⟩
theorem fn_n1 (b g p : Nat → Int32) (k : Nat) : fnN b g (-1) = b ∧ fnP p k b (-1) = p ∧ fnK k (-1) = k := fn_neg (by decide)
theorem fn_n3 (b g p : Nat → Int32) (k : Nat) : fnN b g (-3) = b ∧ fnP p k b (-3) = p ∧ fnK k (-3) = k := fn_neg (by decide)
def tkA (f : Nat → Int32) : Int32 × (Nat → Int32) := (o3 (tk f).1, (tk f).2)
/-- the slots from p on, n of them -/
def rg (p n : Nat) : Nat → Bool := fun j => decide (p ≤ j) && decide (j < p + n)
theorem rg_0 (p j : Nat) : rg p 0 j = false := by unfold rg; simp <;> omega
theorem rg_s (p n j : Nat) : rg p (n + 1) j = (rg p n j || decide (j = p + n)) := by
  unfold rg
  rw [Bool.eq_iff_iff]
  simp only [Bool.and_eq_true, Bool.or_eq_true, decide_eq_true_eq]
  omega
theorem rg_iff {p n j : Nat} : rg p n j = true ↔ p ≤ j ∧ j < p + n := by unfold rg; simp
def trP (f : Nat → Int32) (s m n : Nat) : Nat → Int32 := bec (upd f 666 (f 666 + nI ((s + m - 1) / 32 + 1))) (rg s n) (fun _ => nI 1)
def trF (f : Nat → Int32) (s m : Nat) : Nat → Int32 := trP f s m m
theorem tr_0 (f : Nat → Int32) (s m : Nat) : upd f 666 (f 666 + nI ((s + m - 1) / 32 + 1)) = trP f s m 0 := (bec_none (fun j _ => rg_0 s j)).symm
theorem tr_s {f g : Nat → Int32} {s m n : Nat} (hg : g = trP f s m n) (h : s + n < 320) : bc1 g (s + n) (nI 1) = trP f s m (n + 1) := by
  rw [hg]
  exact bec_add h rfl (fun j _ => rg_s s n j)
def trA (f : Nat → Int32) (v : Int32) : Int32 × (Nat → Int32) := if inB v (nI 1) (nI 64) = true then (match rn f v.toNatClampNeg 320 0 0 with
  | some s => (nI s, trF f s v.toNatClampNeg)
  | none => (-3, f)) else (-1, f)
theorem trA_n {f : Nat → Int32} {v : Int32} (h : inB v (nI 1) (nI 64) = false) : trA f v = (-1, f) := by unfold trA; rw [h]; rfl
theorem trA_0 {f : Nat → Int32} {m : Nat} (h1 : 1 ≤ m) (h2 : m ≤ 64) (h : rn f m 320 0 0 = none) : trA f (nI m) = (-3, f) := by
  unfold trA
  rw [inB_of (by omega) h1 h2, nI_clamp (by omega), h]
  rfl
theorem trA_s {f : Nat → Int32} {m s : Nat} (h1 : 1 ≤ m) (h2 : m ≤ 64) (h : rn f m 320 0 0 = some s) : trA f (nI m) = (nI s, trF f s m) := by
  unfold trA
  rw [inB_of (by omega) h1 h2, nI_clamp (by omega), h]
  rfl
theorem rn_in {f : Nat → Int32} {m : Nat} (hm : 1 ≤ m) : ∀ {k sl n s : Nat}, n ≤ sl → n < m → (∀ j, sl - n ≤ j → j < sl → f j = nI 0) → rn f m k sl n = some s → s + m ≤ sl + k ∧ ∀ j, s ≤ j → j < s + m → f j = nI 0
  | 0, _, _, _, _, _, _, h => by cases h
  | k + 1, sl, n, s, hn, hnm, hf, h => by
    rw [rn] at h
    by_cases c : f sl = nI 0
    · rw [if_pos c] at h
      have hf2 : ∀ j, sl - n ≤ j → j < sl + 1 → f j = nI 0 := fun j h1 h2 => by
        by_cases e : j = sl
        · rw [e]; exact c
        · exact hf j h1 (by omega)
      by_cases e : n + 1 = m
      · rw [if_pos e] at h
        cases h
        exact ⟨by omega, fun j h1 h2 => hf2 j (by omega) (by omega)⟩
      · rw [if_neg e] at h
        obtain ⟨h3, h4⟩ := rn_in hm (by omega) (by omega) (fun j h1 h2 => hf2 j (by omega) h2) h
        exact ⟨by omega, h4⟩
    · rw [if_neg c, if_neg (by omega)] at h
      obtain ⟨h3, h4⟩ := rn_in hm (Nat.zero_le _) (by omega) (fun j h1 h2 => absurd h1 (by omega)) h
      exact ⟨by omega, h4⟩
theorem rn_ok {f : Nat → Int32} {m s : Nat} (hm : 1 ≤ m) (h : rn f m 320 0 0 = some s) : s + m ≤ 320 ∧ ∀ j, s ≤ j → j < s + m → f j = nI 0 := by
  obtain ⟨h1, h2⟩ := rn_in hm (Nat.le_refl _) (by omega) (fun j h1 h2 => absurd h2 (by omega)) h
  exact ⟨by omega, h2⟩
/-- slots given back -/
def gbP (f : Nat → Int32) (a n : Nat) : Nat → Bool := fun j => rg a n j && decide (f j = nI 1)
def gbv (f : Nat → Int32) : Nat → Int32 := fun j => if 0 < f (320 + j) then nI 3 else nI 2
def gbF (f : Nat → Int32) (a n : Nat) : Nat → Int32 := bec f (gbP f a n) (gbv f)
def gbN (f : Nat → Int32) (a n : Nat) : Nat := fb_ct (fun i => decide (f (a + i) = nI 1)) n
theorem gb_0 (f : Nat → Int32) (a : Nat) : f = gbF f a 0 := (bec_none (fun j _ => by unfold gbP; rw [rg_0]; rfl)).symm
theorem gb_slot {f g : Nat → Int32} {a n : Nat} (hg : g = gbF f a n) (h : a + n < 320) : g (a + n) = f (a + n) := by
  rw [hg]
  exact bec_slot_n h (by unfold gbP rg; simp)
theorem gb_own {f g : Nat → Int32} {a n j : Nat} (hg : g = gbF f a n) (h : j < 320) : g (320 + j) = f (320 + j) := by
  rw [hg]
  exact bec_own (by omega) (by omega)
theorem gb_skip {f g : Nat → Int32} {a n : Nat} (hg : g = gbF f a n) (h : ¬ f (a + n) = nI 1) : g = gbF f a (n + 1) := by
  rw [hg]
  refine bec_cong (fun j hj => ?_) (fun _ _ _ => rfl)
  unfold gbP
  rw [rg_s]
  by_cases e : j = a + n
  · rw [e]; simp [h]
  · simp [e]
theorem gb_take {f g : Nat → Int32} {a n : Nat} {x : Int32} (hg : g = gbF f a n) (hs : a + n < 320) (h : f (a + n) = nI 1) (hx : gbv f (a + n) = x) : bc1 g (a + n) x = gbF f a (n + 1) := by
  rw [hg]
  refine bec_add hs hx (fun j hj => ?_)
  unfold gbP
  rw [rg_s]
  by_cases e : j = a + n
  · rw [e]; simp [h]
  · simp [e]
def gbA (f : Nat → Int32) (a b : Int32) : Int32 × (Nat → Int32) := if (inB a (nI 0) (nI 319) && inB b a (nI 319)) = true then (if gbN f a.toNatClampNeg (b.toNatClampNeg + 1 - a.toNatClampNeg) = 0 then -2 else nI (gbN f a.toNatClampNeg (b.toNatClampNeg + 1 - a.toNatClampNeg)), gbF f a.toNatClampNeg (b.toNatClampNeg + 1 - a.toNatClampNeg)) else (-1, f)
theorem gbA_n {f : Nat → Int32} {a b : Int32} (h : inB a (nI 0) (nI 319) = false ∨ inB b a (nI 319) = false) : gbA f a b = (-1, f) := by
  unfold gbA
  rcases h with h | h <;> simp [h]
theorem gbA_s {f : Nat → Int32} {a n : Nat} (h : a + n ≤ 320) (h1 : 1 ≤ n) : gbA f (nI a) (nI (a + n - 1)) = (if gbN f a n = 0 then -2 else nI (gbN f a n), gbF f a n) := by
  unfold gbA
  rw [inB_of (by omega) (by omega) (by omega), inB_of (by omega) (by omega) (by omega), nI_clamp (by omega), nI_clamp (by omega), show a + n - 1 + 1 - a = n by omega]
  rfl
def clA (f : Nat → Int32) (v : Int32) : Int32 × (Nat → Int32) := if inB v (nI 1) (nI 10) = true then (nI (clN f v.toNatClampNeg), clF f v.toNatClampNeg) else (-1, f)
theorem clA_n {f : Nat → Int32} {v : Int32} (h : inB v (nI 1) (nI 10) = false) : clA f v = (-1, f) := by unfold clA; rw [h]; rfl
theorem clA_s {f : Nat → Int32} {n : Nat} (h1 : 1 ≤ n) (h2 : n ≤ 10) : clA f (nI n) = (nI (clN f n), clF f n) := by
  unfold clA
  rw [inB_of (by omega) h1 h2, nI_clamp (by omega)]
  rfl
/-- whether there is a block of this number -/
def isB (f : Nat → Int32) (b : Int32) : Bool := inB b (nI 0) (nI 7) && decide (0 < f (650 + 2 * b.toNatClampNeg + 1))
theorem isB_n {f : Nat → Int32} {b : Int32} (h : inB b (nI 0) (nI 7) = false) : isB f b = false := by unfold isB; rw [h]; rfl
theorem isB_k {f : Nat → Int32} {k : Nat} (h : k ≤ 7) : isB f (nI k) = decide (0 < f (650 + 2 * k + 1)) := by
  unfold isB
  rw [inB_of (by omega) (Nat.zero_le _) h, nI_clamp (by omega)]
  rfl
theorem isB_8 {f : Nat → Int32} : isB f (nI 8) = false := isB_n (by decide)
theorem isB_t {f : Nat → Int32} {b : Int32} (h : isB f b = true) : ∃ k, k ≤ 7 ∧ b = nI k ∧ 0 < f (650 + 2 * k + 1) := by
  have h2 := h
  unfold isB at h
  rw [Bool.and_eq_true] at h
  obtain ⟨k, -, h3, rfl⟩ := inB_nat (by omega) (by omega) h.1
  rw [isB_k h3] at h2
  exact ⟨k, h3, rfl, of_decide_eq_true h2⟩
def szB (v : Int32) : Bool := decide (v = nI 4) || decide (v = nI 8) || decide (v = nI 16) || decide (v = nI 32)
def okz (z : Nat) : Prop := z = 4 ∨ z = 8 ∨ z = 16 ∨ z = 32
theorem szB_t {v : Int32} (h : szB v = true) : ∃ z, v = nI z ∧ okz z := by
  unfold szB at h
  simp only [Bool.or_eq_true, decide_eq_true_eq] at h
  rcases h with ((h | h) | h) | h
  · exact ⟨4, h, Or.inl rfl⟩
  · exact ⟨8, h, Or.inr (Or.inl rfl)⟩
  · exact ⟨16, h, Or.inr (Or.inr (Or.inl rfl))⟩
  · exact ⟨32, h, Or.inr (Or.inr (Or.inr rfl))⟩
theorem szB_of {z : Nat} (h : okz z) : szB (nI z) = true := by rcases h with rfl | rfl | rfl | rfl <;> decide
theorem okz_le {z : Nat} (h : okz z) : 4 ≤ z ∧ z ≤ 32 := by rcases h with rfl | rfl | rfl | rfl <;> omega
/-- the first place of a block -/
def plq (f : Nat → Int32) (z q : Nat) : Bool := decide (fb_ct (fun i => fr f (z * q + i)) z = z)
def pl (f : Nat → Int32) (z : Nat) : Option Nat := (ls1 (plq f z) (320 / z) 0).map (fun q => z * q)
theorem pl_ok {f : Nat → Int32} {z p : Nat} (hz : okz z) (h : pl f z = some p) : p + z ≤ 320 ∧ p % z = 0 ∧ ∀ j, p ≤ j → j < p + z → f j = nI 0 := by
  unfold pl at h
  rw [Option.map_eq_some_iff] at h
  obtain ⟨q, h1, rfl⟩ := h
  obtain ⟨-, h2, h3, -⟩ := ls1_some h1
  have h4 := of_decide_eq_true h3
  rw [fb_ct_all] at h4
  refine ⟨by rcases hz with rfl | rfl | rfl | rfl <;> omega, Nat.mul_mod_right _ _, fun j h5 h6 => ?_⟩
  have h7 := h4 (j - z * q) (by omega)
  rw [show z * q + (j - z * q) = j by omega] at h7
  exact of_decide_eq_true h7
/-- the first number that no block has -/
def ub (f : Nat → Int32) : Option Nat := ls1 (fun k => decide (¬ 0 < f (650 + 2 * k + 1))) 8 0
def blk (f : Nat → Int32) (b p z : Nat) : Nat → Int32 := upd (upd f (650 + 2 * b) (nI p)) (650 + 2 * b + 1) (nI z)
/-- the owners of the slots from p on, n of them -/
def ow (f : Nat → Int32) (p n : Nat) (x : Int32) : Nat → Int32 := fun j => if 320 + p ≤ j ∧ j < 320 + p + n then x else f j
theorem ow_0 (f : Nat → Int32) (p : Nat) (x : Int32) : ow f p 0 x = f := by
  funext j
  unfold ow
  rw [if_neg (by omega)]
theorem ow_s (f : Nat → Int32) (p n : Nat) (x : Int32) : upd (ow f p n x) (320 + (p + n)) x = ow f p (n + 1) x := by
  funext j
  unfold ow upd
  by_cases e : j = 320 + (p + n)
  · rw [if_pos e, if_pos (by omega)]
  · rw [if_neg e]
    show (if 320 + p ≤ j ∧ j < 320 + p + n then x else f j) = _
    by_cases e2 : 320 + p ≤ j ∧ j < 320 + p + n
    · rw [if_pos e2, if_pos (by omega)]
    · rw [if_neg e2, if_neg (by omega)]
theorem upd_bec {f : Nat → Int32} {P : Nat → Bool} {v : Nat → Int32} {j : Nat} {x : Int32} (h : 320 ≤ j) (h2 : j < 640 ∨ 650 ≤ j) : upd (bec f P v) j x = bec (upd f j x) P v := by
  have hs : ∀ i, i < 320 → upd f j x i = f i := fun i hi => upd_n _ _ (by omega)
  have hc : ∀ i, i < 320 → chg f P v i = chg (upd f j x) P v i := fun i hi => by rw [chg_slot hi, chg_slot hi, hs i hi]
  funext i
  by_cases e : i = j
  · rw [e, upd_s, bec_own h h2, upd_s]
  · rw [upd_n _ _ e]
    by_cases h3 : i < 320
    · rw [bec_slot h3, bec_slot h3, hs i h3]
    · by_cases hb : 640 ≤ i ∧ i < 650
      · obtain ⟨k, rfl, hk⟩ : ∃ k, i = 640 + k ∧ k < 10 := ⟨i - 640, by omega, by omega⟩
        rw [bec_bit hk, bec_bit hk, upd_n _ _ e, rt_cong (fun i hi => hc _ (by omega))]
      · rw [bec_own (by omega) (by omega), bec_own (by omega) (by omega), upd_n _ _ e]
def rsF (f : Nat → Int32) (b p n : Nat) : Nat → Int32 := bec (ow f p n (nI (b + 1))) (rg p n) (fun _ => nI 3)
theorem rs_0 (f : Nat → Int32) (b p : Nat) : f = rsF f b p 0 := by
  unfold rsF
  rw [ow_0, bec_none (fun j _ => rg_0 p j)]
theorem rs_s {f g : Nat → Int32} {b p n : Nat} (hg : g = rsF f b p n) (h : p + n < 320) : bc1 (upd g (320 + (p + n)) (nI (b + 1))) (p + n) (nI 3) = rsF f b p (n + 1) := by
  rw [hg]
  unfold rsF
  rw [upd_bec (by omega) (by omega), ow_s]
  exact bec_add h rfl (fun j _ => rg_s p n j)
def rsA (f : Nat → Int32) (v : Int32) : Int32 × (Nat → Int32) := if szB v = true then (match ub f, pl f v.toNatClampNeg with
  | some b, some p => (nI b, rsF (blk f b p v.toNatClampNeg) b p v.toNatClampNeg)
  | _, _ => (-3, f)) else (-1, f)
theorem rsA_n {f : Nat → Int32} {v : Int32} (h : szB v = false) : rsA f v = (-1, f) := by unfold rsA; rw [h]; rfl
theorem rsA_0 {f : Nat → Int32} {z : Nat} (hz : okz z) (h : ub f = none ∨ pl f z = none) : rsA f (nI z) = (-3, f) := by
  have := okz_le hz
  unfold rsA
  rw [szB_of hz, nI_clamp (by omega)]
  rcases h with h | h
  · rw [h]; rfl
  · rw [h]
    cases ub f <;> rfl
theorem rsA_s {f : Nat → Int32} {z b p : Nat} (hz : okz z) (h : ub f = some b) (h2 : pl f z = some p) : rsA f (nI z) = (nI b, rsF (blk f b p z) b p z) := by
  have := okz_le hz
  unfold rsA
  rw [szB_of hz, nI_clamp (by omega), h, h2]
  rfl
/-- the blocks lie in the map -/
def BInv (f : Nat → Int32) : Prop := ∀ k, k < 8 → 0 < f (650 + 2 * k + 1) → ∃ p z, f (650 + 2 * k) = nI p ∧ f (650 + 2 * k + 1) = nI z ∧ okz z ∧ p % z = 0 ∧ p + z ≤ 320
/-- the first kept slot of the n slots from p on -/
def kp (f : Nat → Int32) (p n : Nat) : Option Nat := ls1 (fun s => decide (f s = nI 3)) n p
def tiA (f : Nat → Int32) (b : Int32) : Int32 × (Nat → Int32) := if isB f b = true then (match kp f (f (650 + 2 * b.toNatClampNeg)).toNatClampNeg (f (650 + 2 * b.toNatClampNeg + 1)).toNatClampNeg with
  | some s => (nI s, bc1 f s (nI 1))
  | none => (-3, f)) else (-1, f)
theorem tiA_n {f : Nat → Int32} {b : Int32} (h : isB f b = false) : tiA f b = (-1, f) := by unfold tiA; rw [h]; rfl
theorem tiA_s {f : Nat → Int32} {k p z : Nat} (hk : k ≤ 7) (hb : isB f (nI k) = true) (h1 : f (650 + 2 * k) = nI p) (h2 : f (650 + 2 * k + 1) = nI z) (h3 : p + z ≤ 320) : tiA f (nI k) = (match kp f p z with
  | some s => (nI s, bc1 f s (nI 1))
  | none => (-3, f)) := by
  unfold tiA
  rw [hb, nI_clamp (by omega), h1, h2, nI_clamp (by omega), nI_clamp (by omega)]
  rfl
def guF (f : Nat → Int32) (p n : Nat) : Nat → Int32 := bec (ow f p n (nI 0)) (fun j => rg p n j && decide (f j = nI 3)) (fun _ => nI 0)
def guN (f : Nat → Int32) (p n : Nat) : Nat := fb_ct (fun i => decide (f (p + i) = nI 3)) n
theorem gu_0 (f : Nat → Int32) (p : Nat) : f = guF f p 0 := by
  unfold guF
  rw [ow_0, bec_none (fun j _ => by rw [rg_0]; rfl)]
theorem gu_slot {f g : Nat → Int32} {p n : Nat} (hg : g = guF f p n) (h : p + n < 320) : g (p + n) = f (p + n) := by
  rw [hg]
  unfold guF
  rw [bec_slot_n h (by unfold rg; simp)]
  unfold ow
  rw [if_neg (by omega)]
theorem gu_blk {f g : Nat → Int32} {p n j : Nat} (hg : g = guF f p n) (h : p + n ≤ 320) (hj : 650 ≤ j) : g j = f j := by
  rw [hg]
  unfold guF
  rw [bec_own (by omega) (by omega)]
  unfold ow
  rw [if_neg (by omega)]
theorem gu_skip {f g : Nat → Int32} {p n : Nat} (hg : g = guF f p n) (hs : p + n < 320) (h : ¬ f (p + n) = nI 3) : upd g (320 + (p + n)) (nI 0) = guF f p (n + 1) := by
  rw [hg]
  unfold guF
  rw [upd_bec (by omega) (by omega), ow_s]
  refine bec_cong (fun j hj => ?_) (fun _ _ _ => rfl)
  show (rg p n j && decide (f j = nI 3)) = (rg p (n + 1) j && decide (f j = nI 3))
  rw [rg_s]
  by_cases e : j = p + n
  · rw [e]; simp [h]
  · simp [e]
theorem gu_take {f g : Nat → Int32} {p n : Nat} (hg : g = guF f p n) (hs : p + n < 320) (h : f (p + n) = nI 3) : bc1 (upd g (320 + (p + n)) (nI 0)) (p + n) (nI 0) = guF f p (n + 1) := by
  rw [hg]
  unfold guF
  rw [upd_bec (by omega) (by omega), ow_s]
  refine bec_add hs rfl (fun j hj => ?_)
  show (rg p (n + 1) j && decide (f j = nI 3)) = ((rg p n j && decide (f j = nI 3)) || decide (j = p + n))
  rw [rg_s]
  by_cases e : j = p + n
  · rw [e]; simp [h]
  · simp [e]
def guA (f : Nat → Int32) (b : Int32) : Int32 × (Nat → Int32) := if isB f b = true then (nI (guN f (f (650 + 2 * b.toNatClampNeg)).toNatClampNeg (f (650 + 2 * b.toNatClampNeg + 1)).toNatClampNeg), upd (upd (guF f (f (650 + 2 * b.toNatClampNeg)).toNatClampNeg (f (650 + 2 * b.toNatClampNeg + 1)).toNatClampNeg) (650 + 2 * b.toNatClampNeg) (nI 0)) (650 + 2 * b.toNatClampNeg + 1) (nI 0)) else (-1, f)
theorem guA_n {f : Nat → Int32} {b : Int32} (h : isB f b = false) : guA f b = (-1, f) := by unfold guA; rw [h]; rfl
theorem guA_s {f : Nat → Int32} {k p z : Nat} (hk : k ≤ 7) (hb : isB f (nI k) = true) (h1 : f (650 + 2 * k) = nI p) (h2 : f (650 + 2 * k + 1) = nI z) (h3 : p + z ≤ 320) : guA f (nI k) = (nI (guN f p z), upd (upd (guF f p z) (650 + 2 * k) (nI 0)) (650 + 2 * k + 1) (nI 0)) := by
  unfold guA
  rw [hb, nI_clamp (by omega), h1, h2, nI_clamp (by omega), nI_clamp (by omega)]
  rfl
def dmA (f : Nat → Int32) (w : Int32) : Int32 × (Nat → Int32) := if inB w (nI 0) (nI 9) = true then (nI 1 - f (640 + w.toNatClampNeg), upd f (640 + w.toNatClampNeg) (nI 1 - f (640 + w.toNatClampNeg))) else (-1, f)
theorem dmA_n {f : Nat → Int32} {w : Int32} (h : inB w (nI 0) (nI 9) = false) : dmA f w = (-1, f) := by unfold dmA; rw [h]; rfl
theorem dmA_s {f : Nat → Int32} {w : Nat} (h : w ≤ 9) : dmA f (nI w) = (nI 1 - f (640 + w), upd f (640 + w) (nI 1 - f (640 + w))) := by
  unfold dmA
  rw [inB_of (by omega) (Nat.zero_le _) h, nI_clamp (by omega)]
  rfl
/-- the bits of the words below w are right -/
def rpF (f : Nat → Int32) (w : Nat) : Nat → Int32 := fun j => if 640 ≤ j ∧ j < 640 + w then rt f (j - 640) else f j
def rpN (f : Nat → Int32) (w : Nat) : Nat := fb_ct (fun x => decide (¬ f (640 + x) = rt f x)) w
theorem rp_0 (f : Nat → Int32) : f = rpF f 0 := by
  funext j
  unfold rpF
  rw [if_neg (by omega)]
theorem rp_s {f g : Nat → Int32} {w : Nat} (hg : g = rpF f w) : upd g (640 + w) (rt f w) = rpF f (w + 1) := by
  rw [hg]
  funext j
  unfold rpF upd
  by_cases e : j = 640 + w
  · rw [if_pos e, if_pos (by omega), e, show 640 + w - 640 = w by omega]
  · rw [if_neg e]
    show (if 640 ≤ j ∧ j < 640 + w then rt f (j - 640) else f j) = _
    by_cases e2 : 640 ≤ j ∧ j < 640 + w
    · rw [if_pos e2, if_pos (by omega)]
    · rw [if_neg e2, if_neg (by omega)]
theorem rp_rt {f g : Nat → Int32} {w x : Nat} (hg : g = rpF f w) (h : x < 10) : rt g x = rt f x := by
  rw [hg]
  refine rt_cong (fun i hi => ?_)
  unfold rpF
  rw [if_neg (by omega)]
theorem rp_at {f g : Nat → Int32} {w : Nat} (hg : g = rpF f w) : g (640 + w) = f (640 + w) := by
  rw [hg]
  unfold rpF
  rw [if_neg (by omega)]
def rpA (f : Nat → Int32) : Int32 × (Nat → Int32) := (nI (rpN f 10), rpF f 10)
/-- a state of the history -/
def hsl (p : Nat → Int32) (i : Nat) : Nat → Int32 := fun j => p (667 * i + j)
def unN (f p : Nat → Int32) (k : Nat) : Nat → Int32 := if k = 0 then f else hsl p (k - 1)
def unA (k : Nat) : Int32 := if k = 0 then -2 else nI (k - 1)
def apA (tl : Nat) (c : Int32) : Int32 := if inB c (nI 1) (nI 255) = true then (if tl = 80 then -3 else nI (tl + 1)) else -1
def apT (tex : Nat → Int32) (tl : Nat) (c : Int32) : Nat → Int32 := if inB c (nI 1) (nI 255) = true ∧ ¬ tl = 80 then upd tex tl c else tex
def apL (tl : Nat) (c : Int32) : Nat := if inB c (nI 1) (nI 255) = true ∧ ¬ tl = 80 then tl + 1 else tl
theorem gbv_2 {f : Nat → Int32} {j : Nat} (h : f (320 + j) ≤ 0) : gbv f j = nI 2 := if_neg (by rw [Int32.lt_iff_toInt_lt]; rw [Int32.le_iff_toInt_le] at h; omega)
theorem gbv_3 {f : Nat → Int32} {j : Nat} (h : ¬ f (320 + j) ≤ 0) : gbv f j = nI 3 := if_pos (by rw [Int32.lt_iff_toInt_lt]; rw [Int32.le_iff_toInt_le] at h; omega)
theorem gbN_le (f : Nat → Int32) (a n : Nat) : gbN f a n ≤ n := fb_ct_le _ _
theorem guN_le (f : Nat → Int32) (a n : Nat) : guN f a n ≤ n := fb_ct_le _ _
theorem le0n {x : Int32} (h : ¬ x ≤ 0) : 0 < x := by
  rw [Int32.lt_iff_toInt_lt]
  rw [Int32.le_iff_toInt_le] at h
  omega
theorem le0y {x : Int32} (h : x ≤ 0) : ¬ 0 < x := by
  rw [Int32.lt_iff_toInt_lt]
  rw [Int32.le_iff_toInt_le] at h
  omega
set_option maxHeartbeats 4000000 in
set_option maxRecDepth 100000 in
theorem c_X4_take {l : Launch} {D : va_G} {cI cG cC cR : ClassId} {h : Nat → Nat} {now past bef tri tex : Nat → Int32} {typed ati : Int32} {k : Nat} (hk : k ≤ 5) : CtI l yX4_take wsX4_take { frames := 5, cells := 0, slots := 0, locals := 113 } D (TY cI cG cC cR) [.ref (h 0)] (MW h cI now past (nI k) bef tri tex typed ati) (fun (u : Nat → Int32) => MW h cI (fnN now (tkA now).2 (tkA now).1) (fnP past k now (tkA now).1) (nI (fnK k (tkA now).1)) u tri tex typed ati) (fun (r : Int32) (u : Nat → Int32) => r = (tkA now).1) := by
  refine CtI.of (cc := cX4_take) (maxL := 1) (ty := .int) (by decide) rfl (Nat.le_of_ble_eq_true rfl) ?_
  intro P0 e0 s0 m0 a0 b0 t0 c0 A0 Q0 ls F hK hP hD hA RETN hl
  obtain ⟨hx, hb, hml, hown, hts⟩ := id F
  have hS : va_S A0 s0.heap s0.heap [] := va_S.rf
  have hl : lv_has ls 1 [(0, .ref (h 0))] := hl
  refine lv_aload_n hx hb dX4_take_0 rfl (lv_at hl 0 rfl) ?_
  refine cl_Vv (b := (h 0)) (As := []) (rest := []) (wc := MW h cI now past (nI k) bef tri tex typed ati) (wsN := fun (_ : Unit) => MW h cI now past (nI k) now tri tex typed ati) F hK hA hP hD hS (c_X4_notes) (cwV 0 hts gX4_take_X4_notes rfl rfl rfl (by decide +kernel) ⟨Nat.le_of_ble_eq_true rfl, Nat.le_of_ble_eq_true rfl⟩) [0, 1, 2, 3, 4, 5] [] [0, 1, 2, 3, 4, 5] ([]) rfl rfl (fun _ => rfl) (by decide) (by decide) 0 rfl rfl rfl hl.1 rfl (Nat.le_of_ble_eq_true rfl) ⟨Nat.zero_le _, Nat.zero_le _⟩ dX4_take_1 (fun _ H locs hw_1 hP hD hS => ?_)
  try dsimp only at hw_1 hP hD
  refine lv_aload_n hx hb dX4_take_4 rfl (lv_at hl 0 rfl) ?_
  refine lv_aload_n hx hb dX4_take_5 rfl (lv_at hl 0 rfl) ?_
  refine cl_Vi (b := (h 0)) (As := []) (rest := [.ref (h 0)]) (wc := MW h cI now past (nI k) now tri tex typed ati) (wsN := fun (u1 : Nat → Int32) => MW h cI u1 past (nI k) now tri tex typed ati) F hK hA hP hD hS (c_X4_takes1) (cwV 0 hts gX4_take_X4_takes1 rfl rfl rfl (by decide +kernel) ⟨Nat.le_of_ble_eq_true rfl, Nat.le_of_ble_eq_true rfl⟩) [0, 1, 2, 3, 4, 5] [] [0, 1, 2, 3, 4, 5] ([]) rfl rfl (fun _ => rfl) (by decide) (by decide) 0 rfl rfl rfl hl.1 rfl (Nat.le_of_ble_eq_true rfl) ⟨Nat.zero_le _, Nat.zero_le _⟩ dX4_take_6 (fun r1 u1 H locs hw_3 hP hD hS => ?_)
  try dsimp only at hw_3 hP hD
  obtain ⟨rfl, rfl⟩ := hw_3
  have hP : va_P D vwCl (MW h cI ((tkA now).2) past (nI k) now tri tex typed ati) H := hP
  have hD : va_D A0 (MW h cI ((tkA now).2) past (nI k) now tri tex typed ati) := hD
  refine cl_Vi (b := (h 0)) (As := [.int ((tkA now).1)]) (rest := []) (wc := MW h cI ((tkA now).2) past (nI k) now tri tex typed ati) (wsN := fun (_ : Unit) => MW h cI (fnN now (tkA now).2 (tkA now).1) (fnP past k now (tkA now).1) (nI (fnK k (tkA now).1)) now tri tex typed ati) F hK hA hP hD hS (c_X4_ends hk) (cwV 1 hts gX4_take_X4_ends rfl rfl rfl (by decide +kernel) ⟨Nat.le_of_ble_eq_true rfl, Nat.le_of_ble_eq_true rfl⟩) [0, 1, 2, 3, 4, 5] [] [0, 1, 2, 3, 4, 5] ([]) rfl rfl (fun _ => rfl) (by decide) (by decide) 0 rfl rfl rfl hl.1 rfl (Nat.le_of_ble_eq_true rfl) ⟨Nat.zero_le _, Nat.zero_le _⟩ dX4_take_9 (fun r_6 _ H locs hw_5 hP hD hS => ?_)
  try dsimp only at hw_5 hP hD
  obtain rfl : r_6 = ((tkA now).1) := hw_5
  exact RETN _ _ ((tkA now).1) now _ _ dX4_take_12 (rfl) (rfl) hP hD hS
set_option maxHeartbeats 4000000 in
set_option maxRecDepth 100000 in
theorem c_X4_takeRun {l : Launch} {D : va_G} {cI cG cC cR : ClassId} {h : Nat → Nat} {now past bef tri tex : Nat → Int32} {typed ati : Int32} {k : Nat} (hk : k ≤ 5) {v : Int32} : CtI l yX4_takeRun wsX4_takeRun { frames := 3, cells := 0, slots := 0, locals := 67 } D (TY cI cG cC cR) [.ref (h 0), .int v] (MW h cI now past (nI k) bef tri tex typed ati) (fun (u : Nat → Int32) => MW h cI (fnN now (trA now v).2 (trA now v).1) (fnP past k now (trA now v).1) (nI (fnK k (trA now v).1)) u tri tex typed ati) (fun (r : Int32) (u : Nat → Int32) => r = (trA now v).1) := by
  refine CtI.of (cc := cX4_takeRun) (maxL := 4) (ty := .int) (by decide) rfl (Nat.le_of_ble_eq_true rfl) ?_
  intro P0 e0 s0 m0 a0 b0 t0 c0 A0 Q0 ls F hK hP hD hA RETN hl
  obtain ⟨hx, hb, hml, hown, hts⟩ := id F
  have hS : va_S A0 s0.heap s0.heap [] := va_S.rf
  have hl : lv_has ls 4 [(0, .ref (h 0)), (1, .int v)] := hl
  have lk7 := hts (.fieldLink RX4 7 "SlotMapsModel" "now" "[I") (by decide +kernel)
  have hI4 : ∀ w ∈ u_ws RX4 TX4 8, w ∈ wsX4_takeRun := by decide +kernel
  refine lv_iload_n hx hb dX4_takeRun_0 rfl (lv_at hl 1 rfl) ?_
  refine lv_iconst (v := (nI 1)) hx hb dX4_takeRun_1 (by decide) ?_
  refine lv_bipush (v := (nI 64)) hx hb dX4_takeRun_2 (by decide) ?_
  refine cl_S0 (As := [.int v, .int (nI 1), .int (nI 64)]) (rest := []) F hK hA hP hD hS (c_X4_in) (va_cwS 3 hts gX4_takeRun_X4_in rfl rfl rfl (by decide +kernel) ⟨Nat.le_of_ble_eq_true rfl, Nat.le_of_ble_eq_true rfl⟩) rfl hl.1 rfl (Nat.le_of_ble_eq_true rfl) ⟨Nat.zero_le _, Nat.zero_le _⟩ dX4_takeRun_4 (fun r_1 H locs hw_2 hP hS => ?_)
  try dsimp only at hw_2
  obtain rfl : r_1 = (bI (inB v (nI 1) (nI 64))) := hw_2
  refine lv_if_ne (tgt := 12) hx hb dX4_takeRun_7 (by decide) (fun c7 => ?_) (fun c7 => ?_)
  · skip
    replace c7 : ¬ (bI (inB v (nI 1) (nI 64))) = nI 0 := c7
    obtain ⟨m, hlo_m, hhi_m, rfl⟩ := inB_nat (by omega) (by omega) (bI_ct c7)
    refine lv_aload_n hx hb dX4_takeRun_12 rfl (lv_at hl 0 rfl) ?_
    refine lv_iload_n hx hb dX4_takeRun_13 rfl (lv_at hl 1 rfl) ?_
    refine cl_Vi (b := (h 0)) (As := [.int (nI m)]) (rest := []) (wc := MW h cI now past (nI k) bef tri tex typed ati) (wsN := fun (_ : Unit) => MW h cI now past (nI k) bef tri tex typed ati) F hK hA hP hD hS (c_X4_runFrom (by omega) (by omega)) (cwV 1 hts gX4_takeRun_X4_runFrom rfl rfl rfl (by decide +kernel) ⟨Nat.le_of_ble_eq_true rfl, Nat.le_of_ble_eq_true rfl⟩) [0, 1, 2, 3, 4, 5] [] [0, 1, 2, 3, 4, 5] ([]) rfl rfl (fun _ => rfl) (by decide) (by decide) 0 rfl rfl rfl hl.1 rfl (Nat.le_of_ble_eq_true rfl) ⟨Nat.zero_le _, Nat.zero_le _⟩ dX4_takeRun_14 (fun rr _ H locs hw_3 hP hD hS => ?_)
    try dsimp only at hw_3 hP hD
    have hrr : rr = oI (rn now m 320 0 0) := hw_3
    cases ho : rn now m 320 0 0 with
    | none =>
      obtain rfl : rr = -9 := by rw [hrr, ho]; rfl
      refine lv_istore_n (lv' := [(2, .int (-9)), (0, .ref (h 0)), (1, .int (nI m))]) hx hb dX4_takeRun_17 rfl hl (by decide) rfl (fun ls hl => ?_)
      refine lv_iload_n hx hb dX4_takeRun_18 rfl (lv_at hl 0 rfl) ?_
      refine lv_bipush (v := (-9)) hx hb dX4_takeRun_19 (by decide) ?_
      refine lv_icmp_ne (tgt := 27) hx hb dX4_takeRun_21 (by decide) (fun c21 => ?_) (fun c21 => ?_)
      · skip
        exfalso
        exact c21 rfl
      · skip
        refine lv_bipush (v := (-3)) hx hb dX4_takeRun_24 (by decide) ?_
        have eA : trA now (nI m) = (-3, now) := trA_0 (by omega) (by omega) ho
        obtain ⟨e1, e2, e3⟩ := fn_n3 now now past k
        have hP : va_P D vwCl (MW h cI (fnN now (trA now (nI m)).2 (trA now (nI m)).1) (fnP past k now (trA now (nI m)).1) (nI (fnK k (trA now (nI m)).1)) bef tri tex typed ati) H := by rw [eA]; dsimp only; rw [e1, e2, e3]; exact hP
        have hD : va_D A0 (MW h cI (fnN now (trA now (nI m)).2 (trA now (nI m)).1) (fnP past k now (trA now (nI m)).1) (nI (fnK k (trA now (nI m)).1)) bef tri tex typed ati) := by rw [eA]; dsimp only; rw [e1, e2, e3]; exact hD
        exact RETN _ _ (-3) bef _ _ dX4_takeRun_26 (rfl) (by rw [eA]) hP hD hS
    | some sl =>
      obtain rfl : rr = nI sl := by rw [hrr, ho]; rfl
      obtain ⟨hsl, hfree⟩ := rn_ok (by omega) ho
      have eA : trA now (nI m) = (nI sl, trF now sl m) := trA_s (by omega) (by omega) ho
      refine lv_istore_n (lv' := [(2, .int (nI sl)), (0, .ref (h 0)), (1, .int (nI m))]) hx hb dX4_takeRun_17 rfl hl (by decide) rfl (fun ls hl => ?_)
      refine lv_iload_n hx hb dX4_takeRun_18 rfl (lv_at hl 0 rfl) ?_
      refine lv_bipush (v := (-9)) hx hb dX4_takeRun_19 (by decide) ?_
      refine lv_icmp_ne (tgt := 27) hx hb dX4_takeRun_21 (by decide) (fun c21 => ?_) (fun c21 => ?_)
      · skip
        refine lv_aload_n hx hb dX4_takeRun_27 rfl (lv_at hl 1 rfl) ?_
        refine cl_Vv (b := (h 0)) (As := []) (rest := []) (wc := MW h cI now past (nI k) bef tri tex typed ati) (wsN := fun (_ : Unit) => MW h cI now past (nI k) now tri tex typed ati) F hK hA hP hD hS (c_X4_notes) (cwV 0 hts gX4_takeRun_X4_notes rfl rfl rfl (by decide +kernel) ⟨Nat.le_of_ble_eq_true rfl, Nat.le_of_ble_eq_true rfl⟩) [0, 1, 2, 3, 4, 5] [] [0, 1, 2, 3, 4, 5] ([]) rfl rfl (fun _ => rfl) (by decide) (by decide) 0 rfl rfl rfl hl.1 rfl (Nat.le_of_ble_eq_true rfl) ⟨Nat.zero_le _, Nat.zero_le _⟩ dX4_takeRun_28 (fun _ H locs hw_5 hP hD hS => ?_)
        try dsimp only at hw_5 hP hD
        refine lv_aload_n hx hb dX4_takeRun_31 rfl (lv_at hl 1 rfl) ?_
        refine va_get (D := D) (ci := 4) (v := .ref (h 1)) (C := RX4) (T := TX4) (N := 8) hx hb hts hI4 hown hK.1 hP 0 rfl rfl 0 (by decide) lk7 (fun _ h9 => h9) rfl dX4_takeRun_32 ?_
        refine lv_sipush (v := (nI 666)) hx hb dX4_takeRun_35 (by decide) ?_
        refine lv_dup2_11 hx hb dX4_takeRun_38 rfl rfl ?_
        refine n_iald hx hb hK hP 1 0 rfl rfl (by decide) (by omega) dX4_takeRun_39 ?_
        refine lv_iload_n hx hb dX4_takeRun_40 rfl (lv_at hl 0 rfl) ?_
        refine lv_iload_n hx hb dX4_takeRun_41 rfl (lv_at hl 2 rfl) ?_
        refine lv_iadd hx hb dX4_takeRun_42 ?_
        refine n_as (x' := nI (sl + m)) (nI_add _ _) ?_
        refine lv_iconst (v := (nI 1)) hx hb dX4_takeRun_43 (by decide) ?_
        refine lv_isub hx hb dX4_takeRun_44 ?_
        refine n_as (x' := nI ((sl + m) - 1)) (pk_sub (by omega)) ?_
        refine lv_bipush (v := (nI 32)) hx hb dX4_takeRun_45 (by decide) ?_
        refine lv_idiv hx hb dX4_takeRun_47 (nI_ne0 (by omega) (by omega)) ?_
        refine n_as (x' := nI (((sl + m) - 1) / 32)) (pk_div (by omega) (by omega) (by omega)) ?_
        refine lv_iconst (v := (nI 1)) hx hb dX4_takeRun_48 (by decide) ?_
        refine lv_iadd hx hb dX4_takeRun_49 ?_
        refine n_as (x' := nI ((((sl + m) - 1) / 32) + 1)) (nI_add _ _) ?_
        refine lv_iadd hx hb dX4_takeRun_50 ?_
        refine n_iast hx hb hK hP hD hS 1 0 rfl rfl (by decide) (by omega) dX4_takeRun_51 (wsN := MW h cI (upd now 666 ((now 666) + (nI ((((sl + m) - 1) / 32) + 1)))) past (nI k) now tri tex typed ati) rfl (fun H locs hP hD hS => ?_)
        refine lv_iload_n hx hb dX4_takeRun_52 rfl (lv_at hl 0 rfl) ?_
        refine lv_istore_n (lv' := [(3, .int (nI sl)), (2, .int (nI sl)), (0, .ref (h 0)), (1, .int (nI m))]) hx hb dX4_takeRun_53 rfl hl (by decide) rfl (fun ls hl => ?_)
        have LP54 : ∀ (nn : Nat) (i : Nat) (g : Nat → Int32) (H : Heap) (locs : List Loc) (ls : Array Slot), i ≤ m → g = trP now sl m i → m - i < nn → va_P D vwCl (MW h cI g past (nI k) now tri tex typed ati) H → va_D A0 (MW h cI g past (nI k) now tri tex typed ati) → va_S A0 s0.heap H locs → lv_has ls 4 [(3, .int (nI (sl + i))), (2, .int (nI sl)), (0, .ref (h 0)), (1, .int (nI m))] → W P0 l e0 { frames := 3, cells := 0, slots := 0, locals := 67 } s0 m0 a0 b0 t0 c0 H locs 0 0 Q0 (F0 m0 54 ls []) := by
          intro nn
          induction nn with
          | zero => intro i g H locs ls hi hg hmu; exact absurd hmu (Nat.not_lt_zero _)
          | succ nn ih54 =>
            intro i g H locs ls hi hg hmu54 hP hD hS hl
            refine lv_iload_n hx hb dX4_takeRun_54 rfl (lv_at hl 0 rfl) ?_
            refine lv_iload_n hx hb dX4_takeRun_55 rfl (lv_at hl 1 rfl) ?_
            refine lv_iload_n hx hb dX4_takeRun_56 rfl (lv_at hl 3 rfl) ?_
            refine lv_iadd hx hb dX4_takeRun_57 ?_
            refine n_as (x' := nI (sl + m)) (nI_add _ _) ?_
            refine lv_icmp_ge (tgt := 73) hx hb dX4_takeRun_58 (by decide) (fun c58 => ?_) (fun c58 => ?_)
            · skip
              replace c58 : (sl + m) ≤ (sl + i) := by rw [nI_leI (by omega) (by omega)] at c58; exact c58
              have eg : g = (trA now (nI m)).2 := by rw [eA, hg, show i = m by omega]; rfl
              subst eg
              have hP : va_P D vwCl (MW h cI ((trA now (nI m)).2) past (nI k) now tri tex typed ati) H := hP
              have hD : va_D A0 (MW h cI ((trA now (nI m)).2) past (nI k) now tri tex typed ati) := hD
              refine lv_aload_n hx hb dX4_takeRun_73 rfl (lv_at hl 2 rfl) ?_
              refine lv_iload_n hx hb dX4_takeRun_74 rfl (lv_at hl 1 rfl) ?_
              refine n_as (x' := ((trA now (nI m)).1)) (by rw [eA]) ?_
              refine cl_Vi (b := (h 0)) (As := [.int ((trA now (nI m)).1)]) (rest := []) (wc := MW h cI ((trA now (nI m)).2) past (nI k) now tri tex typed ati) (wsN := fun (_ : Unit) => MW h cI (fnN now (trA now (nI m)).2 (trA now (nI m)).1) (fnP past k now (trA now (nI m)).1) (nI (fnK k (trA now (nI m)).1)) now tri tex typed ati) F hK hA hP hD hS (c_X4_ends hk) (cwV 1 hts gX4_takeRun_X4_ends rfl rfl rfl (by decide +kernel) ⟨Nat.le_of_ble_eq_true rfl, Nat.le_of_ble_eq_true rfl⟩) [0, 1, 2, 3, 4, 5] [] [0, 1, 2, 3, 4, 5] ([]) rfl rfl (fun _ => rfl) (by decide) (by decide) 0 rfl rfl rfl hl.1 rfl (Nat.le_of_ble_eq_true rfl) ⟨Nat.zero_le _, Nat.zero_le _⟩ dX4_takeRun_75 (fun r_8 _ H locs hw_7 hP hD hS => ?_)
              try dsimp only at hw_7 hP hD
              obtain rfl : r_8 = ((trA now (nI m)).1) := hw_7
              exact RETN _ _ ((trA now (nI m)).1) now _ _ dX4_takeRun_78 (rfl) (rfl) hP hD hS
            · skip
              replace c58 : ¬ ((sl + m) ≤ (sl + i)) := by rw [nI_leI (by omega) (by omega)] at c58; exact c58
              refine lv_aload_n hx hb dX4_takeRun_61 rfl (lv_at hl 2 rfl) ?_
              refine lv_iload_n hx hb dX4_takeRun_62 rfl (lv_at hl 0 rfl) ?_
              refine lv_iconst (v := (nI 1)) hx hb dX4_takeRun_63 (by decide) ?_
              refine cl_Vv (b := (h 0)) (As := [.int (nI (sl + i)), .int (nI 1)]) (rest := []) (wc := MW h cI g past (nI k) now tri tex typed ati) (wsN := fun (_ : Unit) => MW h cI (bc1 g (sl + i) (nI 1)) past (nI k) now tri tex typed ati) F hK hA hP hD hS (c_X4_becomes (by omega)) (cwV 2 hts gX4_takeRun_X4_becomes rfl rfl rfl (by decide +kernel) ⟨Nat.le_of_ble_eq_true rfl, Nat.le_of_ble_eq_true rfl⟩) [0, 1, 2, 3, 4, 5] [] [0, 1, 2, 3, 4, 5] ([]) rfl rfl (fun _ => rfl) (by decide) (by decide) 0 rfl rfl rfl hl.1 rfl (Nat.le_of_ble_eq_true rfl) ⟨Nat.zero_le _, Nat.zero_le _⟩ dX4_takeRun_64 (fun _ H locs hw_9 hP hD hS => ?_)
              try dsimp only at hw_9 hP hD
              refine lv_iinc (v := (nI ((sl + i) + 1))) (lv' := [(3, .int (nI ((sl + i) + 1))), (2, .int (nI sl)), (0, .ref (h 0)), (1, .int (nI m))]) hx hb dX4_takeRun_67 hl (k := 0) rfl (n_inc1 _) (by decide) rfl (fun ls hl => ?_)
              refine lv_goto (tgt := 54) hx hb dX4_takeRun_70 (by decide) ?_
              exact ih54 (i + 1) (bc1 g (sl + i) (nI 1)) _ _ _ (by omega) (tr_s hg (by omega)) (by omega) hP hD hS (lv_sub hl [0, 1, 2, 3] rfl)
        exact LP54 _ 0 (upd now 666 ((now 666) + (nI ((((sl + m) - 1) / 32) + 1)))) _ _ _ (by omega) (tr_0 now sl m) (Nat.lt_succ_self _) hP hD hS (lv_sub hl [0, 1, 2, 3] rfl)
      · skip
        exfalso
        exact ne9 (by omega) c21
  · skip
    replace c7 : (bI (inB v (nI 1) (nI 64))) = nI 0 := c7
    refine lv_iconst (v := (-1)) hx hb dX4_takeRun_10 (by decide) ?_
    have eA : trA now v = (-1, now) := trA_n (bI_cf c7)
    obtain ⟨e1, e2, e3⟩ := fn_n1 now now past k
    have hP : va_P D vwCl (MW h cI (fnN now (trA now v).2 (trA now v).1) (fnP past k now (trA now v).1) (nI (fnK k (trA now v).1)) bef tri tex typed ati) H := by rw [eA]; dsimp only; rw [e1, e2, e3]; exact hP
    have hD : va_D A0 (MW h cI (fnN now (trA now v).2 (trA now v).1) (fnP past k now (trA now v).1) (nI (fnK k (trA now v).1)) bef tri tex typed ati) := by rw [eA]; dsimp only; rw [e1, e2, e3]; exact hD
    exact RETN _ _ (-1) bef _ _ dX4_takeRun_11 (rfl) (by rw [eA]) hP hD hS
set_option maxHeartbeats 4000000 in
set_option maxRecDepth 100000 in
theorem c_X4_givesBack {l : Launch} {D : va_G} {cI cG cC cR : ClassId} {h : Nat → Nat} {now past bef tri tex : Nat → Int32} {pasts typed ati : Int32} {va vb : Int32} : CtI l yX4_givesBack wsX4_givesBack { frames := 3, cells := 0, slots := 0, locals := 67 } D (TY cI cG cC cR) [.ref (h 0), .int va, .int vb] (MW h cI now past pasts bef tri tex typed ati) (fun (u : Nat → Int32) => MW h cI u past pasts bef tri tex typed ati) (fun (r : Int32) (u : Nat → Int32) => r = (gbA now va vb).1 ∧ u = (gbA now va vb).2) := by
  refine CtI.of (cc := cX4_givesBack) (maxL := 5) (ty := .int) (by decide) rfl (Nat.le_of_ble_eq_true rfl) ?_
  intro P0 e0 s0 m0 a0 b0 t0 c0 A0 Q0 ls F hK hP hD hA RETN hl
  obtain ⟨hx, hb, hml, hown, hts⟩ := id F
  have hS : va_S A0 s0.heap s0.heap [] := va_S.rf
  have hl : lv_has ls 5 [(0, .ref (h 0)), (1, .int va), (2, .int vb)] := hl
  have lk7 := hts (.fieldLink RX4 7 "SlotMapsModel" "now" "[I") (by decide +kernel)
  have hI4 : ∀ w ∈ u_ws RX4 TX4 8, w ∈ wsX4_givesBack := by decide +kernel
  refine lv_iload_n hx hb dX4_givesBack_0 rfl (lv_at hl 1 rfl) ?_
  refine lv_iconst (v := (nI 0)) hx hb dX4_givesBack_1 (by decide) ?_
  refine lv_sipush (v := (nI 319)) hx hb dX4_givesBack_2 (by decide) ?_
  refine cl_S0 (As := [.int va, .int (nI 0), .int (nI 319)]) (rest := []) F hK hA hP hD hS (c_X4_in) (va_cwS 3 hts gX4_givesBack_X4_in rfl rfl rfl (by decide +kernel) ⟨Nat.le_of_ble_eq_true rfl, Nat.le_of_ble_eq_true rfl⟩) rfl hl.1 rfl (Nat.le_of_ble_eq_true rfl) ⟨Nat.zero_le _, Nat.zero_le _⟩ dX4_givesBack_5 (fun r_1 H locs hw_2 hP hS => ?_)
  try dsimp only at hw_2
  obtain rfl : r_1 = (bI (inB va (nI 0) (nI 319))) := hw_2
  refine lv_if_eq (tgt := 22) hx hb dX4_givesBack_8 (by decide) (fun c8 => ?_) (fun c8 => ?_)
  · skip
    replace c8 : (bI (inB va (nI 0) (nI 319))) = nI 0 := c8
    refine lv_iconst (v := (-1)) hx hb dX4_givesBack_22 (by decide) ?_
    exact RETN _ _ (-1) now _ _ dX4_givesBack_23 (rfl) (by first | (rw [gbA_n (Or.inl (bI_cf c8))]; exact ⟨rfl, rfl⟩) | (rw [gbA_n (Or.inr (bI_cf c19))]; exact ⟨rfl, rfl⟩)) hP hD hS
  · skip
    replace c8 : ¬ (bI (inB va (nI 0) (nI 319))) = nI 0 := c8
    obtain ⟨a, hlo_a, hhi_a, rfl⟩ := inB_nat (by omega) (by omega) (bI_ct c8)
    refine lv_iload_n hx hb dX4_givesBack_11 rfl (lv_at hl 2 rfl) ?_
    refine lv_iload_n hx hb dX4_givesBack_12 rfl (lv_at hl 1 rfl) ?_
    refine lv_sipush (v := (nI 319)) hx hb dX4_givesBack_13 (by decide) ?_
    refine cl_S0 (As := [.int vb, .int (nI a), .int (nI 319)]) (rest := []) F hK hA hP hD hS (c_X4_in) (va_cwS 3 hts gX4_givesBack_X4_in rfl rfl rfl (by decide +kernel) ⟨Nat.le_of_ble_eq_true rfl, Nat.le_of_ble_eq_true rfl⟩) rfl hl.1 rfl (Nat.le_of_ble_eq_true rfl) ⟨Nat.zero_le _, Nat.zero_le _⟩ dX4_givesBack_16 (fun r_3 H locs hw_4 hP hS => ?_)
    try dsimp only at hw_4
    obtain rfl : r_3 = (bI (inB vb (nI a) (nI 319))) := hw_4
    refine lv_if_ne (tgt := 24) hx hb dX4_givesBack_19 (by decide) (fun c19 => ?_) (fun c19 => ?_)
    · skip
      replace c19 : ¬ (bI (inB vb (nI a) (nI 319))) = nI 0 := c19
      obtain ⟨b2, hlo_b2, hhi_b2, rfl⟩ := inB_nat (by omega) (by omega) (bI_ct c19)
      refine lv_iconst (v := (nI 0)) hx hb dX4_givesBack_24 (by decide) ?_
      refine lv_istore_n (lv' := [(3, .int (nI 0)), (0, .ref (h 0)), (1, .int (nI a)), (2, .int (nI b2))]) hx hb dX4_givesBack_25 rfl hl (by decide) rfl (fun ls hl => ?_)
      refine lv_iload_n hx hb dX4_givesBack_26 rfl (lv_at hl 2 rfl) ?_
      refine lv_istore (lv' := [(4, .int (nI a)), (3, .int (nI 0)), (0, .ref (h 0)), (1, .int (nI a)), (2, .int (nI b2))]) hx hb dX4_givesBack_27 hl (by decide) rfl (fun ls hl => ?_)
      have LP29 : ∀ (nn : Nat) (i : Nat) (n : Nat) (g : Nat → Int32) (H : Heap) (locs : List Loc) (ls : Array Slot), i ≤ b2 + 1 - a → n = gbN now a i → g = gbF now a i → b2 + 1 - a - i < nn → va_P D vwCl (MW h cI g past pasts bef tri tex typed ati) H → va_D A0 (MW h cI g past pasts bef tri tex typed ati) → va_S A0 s0.heap H locs → lv_has ls 5 [(4, .int (nI (a + i))), (3, .int (nI n)), (0, .ref (h 0)), (1, .int (nI a)), (2, .int (nI b2))] → W P0 l e0 { frames := 3, cells := 0, slots := 0, locals := 67 } s0 m0 a0 b0 t0 c0 H locs 0 0 Q0 (F0 m0 29 ls []) := by
        intro nn
        induction nn with
        | zero => intro i n g H locs ls hi hn hg hmu; exact absurd hmu (Nat.not_lt_zero _)
        | succ nn ih29 =>
          intro i n g H locs ls hi hn hg hmu29 hP hD hS hl
          have hnl := gbN_le now a i
          refine lv_iload hx hb dX4_givesBack_29 (lv_at hl 0 rfl) ?_
          refine lv_iload_n hx hb dX4_givesBack_31 rfl (lv_at hl 4 rfl) ?_
          refine lv_icmp_gt (tgt := 80) hx hb dX4_givesBack_32 (by decide) (fun c32 => ?_) (fun c32 => ?_)
          · skip
            replace c32 : b2 < (a + i) := by rw [nI_ltI (by omega) (by omega)] at c32; exact c32
            refine lv_iload_n hx hb dX4_givesBack_80 rfl (lv_at hl 1 rfl) ?_
            refine lv_if_ne (tgt := 89) hx hb dX4_givesBack_81 (by decide) (fun c81 => ?_) (fun c81 => ?_)
            · skip
              replace c81 : ¬ n = 0 := by rw [show (0 : Int32) = nI 0 from rfl, nI_eq (by omega) (by omega)] at c81; exact c81
              refine lv_iload_n hx hb dX4_givesBack_89 rfl (lv_at hl 1 rfl) ?_
              exact RETN _ _ (nI n) g _ _ dX4_givesBack_90 (rfl) (by rw [show b2 = a + i - 1 by omega, gbA_s (by omega) (by omega)]; first | exact ⟨by rw [if_neg (by omega), hn], hg⟩ | exact ⟨by rw [if_pos (by omega)], hg⟩) hP hD hS
            · skip
              replace c81 : n = 0 := by rw [show (0 : Int32) = nI 0 from rfl, nI_eq (by omega) (by omega)] at c81; exact c81
              refine lv_bipush (v := (-2)) hx hb dX4_givesBack_84 (by decide) ?_
              refine lv_goto (tgt := 90) hx hb dX4_givesBack_86 (by decide) ?_
              exact RETN _ _ (-2) g _ _ dX4_givesBack_90 (rfl) (by rw [show b2 = a + i - 1 by omega, gbA_s (by omega) (by omega)]; first | exact ⟨by rw [if_neg (by omega), hn], hg⟩ | exact ⟨by rw [if_pos (by omega)], hg⟩) hP hD hS
          · skip
            replace c32 : ¬ (b2 < (a + i)) := by rw [nI_ltI (by omega) (by omega)] at c32; exact c32
            refine lv_aload_n hx hb dX4_givesBack_35 rfl (lv_at hl 2 rfl) ?_
            refine va_get (D := D) (ci := 4) (v := .ref (h 1)) (C := RX4) (T := TX4) (N := 8) hx hb hts hI4 hown hK.1 hP 0 rfl rfl 0 (by decide) lk7 (fun _ h9 => h9) rfl dX4_givesBack_36 ?_
            refine lv_iload hx hb dX4_givesBack_39 (lv_at hl 0 rfl) ?_
            refine n_iald hx hb hK hP 1 0 rfl rfl (by decide) (by omega) dX4_givesBack_41 ?_
            have hgs : g (a + i) = now (a + i) := gb_slot hg (by omega)
            refine lv_iconst (v := (nI 1)) hx hb dX4_givesBack_42 (by decide) ?_
            refine lv_icmp_ne (tgt := 74) hx hb dX4_givesBack_43 (by decide) (fun c43 => ?_) (fun c43 => ?_)
            · skip
              rw [hgs] at c43
              refine lv_iinc (v := (nI ((a + i) + 1))) (lv' := [(4, .int (nI ((a + i) + 1))), (3, .int (nI n)), (0, .ref (h 0)), (1, .int (nI a)), (2, .int (nI b2))]) hx hb dX4_givesBack_74 hl (k := 0) rfl (n_inc1 _) (by decide) rfl (fun ls hl => ?_)
              refine lv_goto (tgt := 29) hx hb dX4_givesBack_77 (by decide) ?_
              exact ih29 (i + 1) n g _ _ _ (by omega) (by rw [hn]; unfold gbN; rw [fb_ct_succ]; simp [c43]) (by first | exact gb_take hg (by omega) c43 rfl | exact gb_skip hg c43) (by omega) hP hD hS (lv_sub hl [0, 1, 2, 3, 4] rfl)
            · skip
              rw [hgs] at c43
              refine lv_aload_n hx hb dX4_givesBack_46 rfl (lv_at hl 2 rfl) ?_
              refine lv_iload hx hb dX4_givesBack_47 (lv_at hl 0 rfl) ?_
              refine lv_aload_n hx hb dX4_givesBack_49 rfl (lv_at hl 2 rfl) ?_
              refine va_get (D := D) (ci := 4) (v := .ref (h 1)) (C := RX4) (T := TX4) (N := 8) hx hb hts hI4 hown hK.1 hP 0 rfl rfl 0 (by decide) lk7 (fun _ h9 => h9) rfl dX4_givesBack_50 ?_
              refine lv_sipush (v := (nI 320)) hx hb dX4_givesBack_53 (by decide) ?_
              refine lv_iload hx hb dX4_givesBack_56 (lv_at hl 0 rfl) ?_
              refine lv_iadd hx hb dX4_givesBack_58 ?_
              refine n_as (x' := nI (320 + (a + i))) (nI_add _ _) ?_
              refine n_iald hx hb hK hP 1 0 rfl rfl (by decide) (by omega) dX4_givesBack_59 ?_
              refine lv_if_le (tgt := 67) hx hb dX4_givesBack_60 (by decide) (fun c60 => ?_) (fun c60 => ?_)
              · skip
                rw [gb_own hg (by omega)] at c60
                have hx1 := gbv_2 c60
                refine lv_iconst (v := (nI 2)) hx hb dX4_givesBack_67 (by decide) ?_
                refine n_as (x' := (gbv now (a + i))) (hx1.symm) ?_
                refine cl_Vv (b := (h 0)) (As := [.int (nI (a + i)), .int (gbv now (a + i))]) (rest := []) (wc := MW h cI g past pasts bef tri tex typed ati) (wsN := fun (_ : Unit) => MW h cI (bc1 g (a + i) (gbv now (a + i))) past pasts bef tri tex typed ati) F hK hA hP hD hS (c_X4_becomes (by omega)) (cwV 2 hts gX4_givesBack_X4_becomes rfl rfl rfl (by decide +kernel) ⟨Nat.le_of_ble_eq_true rfl, Nat.le_of_ble_eq_true rfl⟩) [0, 1, 2, 3, 4, 5] [] [0, 1, 2, 3, 4, 5] ([]) rfl rfl (fun _ => rfl) (by decide) (by decide) 0 rfl rfl rfl hl.1 rfl (Nat.le_of_ble_eq_true rfl) ⟨Nat.zero_le _, Nat.zero_le _⟩ dX4_givesBack_68 (fun _ H locs hw_5 hP hD hS => ?_)
                try dsimp only at hw_5 hP hD
                refine lv_iinc (v := (nI (n + 1))) (lv' := [(3, .int (nI (n + 1))), (4, .int (nI (a + i))), (0, .ref (h 0)), (1, .int (nI a)), (2, .int (nI b2))]) hx hb dX4_givesBack_71 hl (k := 1) rfl (n_inc1 _) (by decide) rfl (fun ls hl => ?_)
                refine lv_iinc (v := (nI ((a + i) + 1))) (lv' := [(4, .int (nI ((a + i) + 1))), (3, .int (nI (n + 1))), (0, .ref (h 0)), (1, .int (nI a)), (2, .int (nI b2))]) hx hb dX4_givesBack_74 hl (k := 1) rfl (n_inc1 _) (by decide) rfl (fun ls hl => ?_)
                refine lv_goto (tgt := 29) hx hb dX4_givesBack_77 (by decide) ?_
                exact ih29 (i + 1) (n + 1) (bc1 g (a + i) (gbv now (a + i))) _ _ _ (by omega) (by rw [hn]; unfold gbN; rw [fb_ct_succ]; simp [c43]) (by first | exact gb_take hg (by omega) c43 rfl | exact gb_skip hg c43) (by omega) hP hD hS (lv_sub hl [0, 1, 2, 3, 4] rfl)
              · skip
                rw [gb_own hg (by omega)] at c60
                have hx1 := gbv_3 c60
                refine lv_iconst (v := (nI 3)) hx hb dX4_givesBack_63 (by decide) ?_
                refine n_as (x' := (gbv now (a + i))) (hx1.symm) ?_
                refine lv_goto (tgt := 68) hx hb dX4_givesBack_64 (by decide) ?_
                refine cl_Vv (b := (h 0)) (As := [.int (nI (a + i)), .int (gbv now (a + i))]) (rest := []) (wc := MW h cI g past pasts bef tri tex typed ati) (wsN := fun (_ : Unit) => MW h cI (bc1 g (a + i) (gbv now (a + i))) past pasts bef tri tex typed ati) F hK hA hP hD hS (c_X4_becomes (by omega)) (cwV 2 hts gX4_givesBack_X4_becomes rfl rfl rfl (by decide +kernel) ⟨Nat.le_of_ble_eq_true rfl, Nat.le_of_ble_eq_true rfl⟩) [0, 1, 2, 3, 4, 5] [] [0, 1, 2, 3, 4, 5] ([]) rfl rfl (fun _ => rfl) (by decide) (by decide) 0 rfl rfl rfl hl.1 rfl (Nat.le_of_ble_eq_true rfl) ⟨Nat.zero_le _, Nat.zero_le _⟩ dX4_givesBack_68 (fun _ H locs hw_7 hP hD hS => ?_)
                try dsimp only at hw_7 hP hD
                refine lv_iinc (v := (nI (n + 1))) (lv' := [(3, .int (nI (n + 1))), (4, .int (nI (a + i))), (0, .ref (h 0)), (1, .int (nI a)), (2, .int (nI b2))]) hx hb dX4_givesBack_71 hl (k := 1) rfl (n_inc1 _) (by decide) rfl (fun ls hl => ?_)
                refine lv_iinc (v := (nI ((a + i) + 1))) (lv' := [(4, .int (nI ((a + i) + 1))), (3, .int (nI (n + 1))), (0, .ref (h 0)), (1, .int (nI a)), (2, .int (nI b2))]) hx hb dX4_givesBack_74 hl (k := 1) rfl (n_inc1 _) (by decide) rfl (fun ls hl => ?_)
                refine lv_goto (tgt := 29) hx hb dX4_givesBack_77 (by decide) ?_
                exact ih29 (i + 1) (n + 1) (bc1 g (a + i) (gbv now (a + i))) _ _ _ (by omega) (by rw [hn]; unfold gbN; rw [fb_ct_succ]; simp [c43]) (by first | exact gb_take hg (by omega) c43 rfl | exact gb_skip hg c43) (by omega) hP hD hS (lv_sub hl [0, 1, 2, 3, 4] rfl)
      exact LP29 _ 0 0 now _ _ _ (by omega) (rfl) (gb_0 now a) (Nat.lt_succ_self _) hP hD hS (lv_sub hl [0, 1, 2, 3, 4] rfl)
    · skip
      replace c19 : (bI (inB vb (nI a) (nI 319))) = nI 0 := c19
      refine lv_iconst (v := (-1)) hx hb dX4_givesBack_22 (by decide) ?_
      exact RETN _ _ (-1) now _ _ dX4_givesBack_23 (rfl) (by first | (rw [gbA_n (Or.inl (bI_cf c8))]; exact ⟨rfl, rfl⟩) | (rw [gbA_n (Or.inr (bI_cf c19))]; exact ⟨rfl, rfl⟩)) hP hD hS
set_option maxHeartbeats 4000000 in
set_option maxRecDepth 100000 in
theorem c_X4_giveBack {l : Launch} {D : va_G} {cI cG cC cR : ClassId} {h : Nat → Nat} {now past bef tri tex : Nat → Int32} {typed ati : Int32} {k : Nat} (hk : k ≤ 5) {va vb : Int32} : CtI l yX4_giveBack wsX4_giveBack { frames := 4, cells := 0, slots := 0, locals := 91 } D (TY cI cG cC cR) [.ref (h 0), .int va, .int vb] (MW h cI now past (nI k) bef tri tex typed ati) (fun (u : Nat → Int32) => MW h cI (fnN now (gbA now va vb).2 (gbA now va vb).1) (fnP past k now (gbA now va vb).1) (nI (fnK k (gbA now va vb).1)) u tri tex typed ati) (fun (r : Int32) (u : Nat → Int32) => r = (gbA now va vb).1) := by
  refine CtI.of (cc := cX4_giveBack) (maxL := 3) (ty := .int) (by decide) rfl (Nat.le_of_ble_eq_true rfl) ?_
  intro P0 e0 s0 m0 a0 b0 t0 c0 A0 Q0 ls F hK hP hD hA RETN hl
  obtain ⟨hx, hb, hml, hown, hts⟩ := id F
  have hS : va_S A0 s0.heap s0.heap [] := va_S.rf
  have hl : lv_has ls 3 [(0, .ref (h 0)), (1, .int va), (2, .int vb)] := hl
  refine lv_aload_n hx hb dX4_giveBack_0 rfl (lv_at hl 0 rfl) ?_
  refine cl_Vv (b := (h 0)) (As := []) (rest := []) (wc := MW h cI now past (nI k) bef tri tex typed ati) (wsN := fun (_ : Unit) => MW h cI now past (nI k) now tri tex typed ati) F hK hA hP hD hS (c_X4_notes) (cwV 0 hts gX4_giveBack_X4_notes rfl rfl rfl (by decide +kernel) ⟨Nat.le_of_ble_eq_true rfl, Nat.le_of_ble_eq_true rfl⟩) [0, 1, 2, 3, 4, 5] [] [0, 1, 2, 3, 4, 5] ([]) rfl rfl (fun _ => rfl) (by decide) (by decide) 0 rfl rfl rfl hl.1 rfl (Nat.le_of_ble_eq_true rfl) ⟨Nat.zero_le _, Nat.zero_le _⟩ dX4_giveBack_1 (fun _ H locs hw_1 hP hD hS => ?_)
  try dsimp only at hw_1 hP hD
  refine lv_aload_n hx hb dX4_giveBack_4 rfl (lv_at hl 0 rfl) ?_
  refine lv_aload_n hx hb dX4_giveBack_5 rfl (lv_at hl 0 rfl) ?_
  refine lv_iload_n hx hb dX4_giveBack_6 rfl (lv_at hl 1 rfl) ?_
  refine lv_iload_n hx hb dX4_giveBack_7 rfl (lv_at hl 2 rfl) ?_
  refine cl_Vi (b := (h 0)) (As := [.int va, .int vb]) (rest := [.ref (h 0)]) (wc := MW h cI now past (nI k) now tri tex typed ati) (wsN := fun (u1 : Nat → Int32) => MW h cI u1 past (nI k) now tri tex typed ati) F hK hA hP hD hS (c_X4_givesBack) (cwV 2 hts gX4_giveBack_X4_givesBack rfl rfl rfl (by decide +kernel) ⟨Nat.le_of_ble_eq_true rfl, Nat.le_of_ble_eq_true rfl⟩) [0, 1, 2, 3, 4, 5] [] [0, 1, 2, 3, 4, 5] ([]) rfl rfl (fun _ => rfl) (by decide) (by decide) 0 rfl rfl rfl hl.1 rfl (Nat.le_of_ble_eq_true rfl) ⟨Nat.zero_le _, Nat.zero_le _⟩ dX4_giveBack_8 (fun r1 u1 H locs hw_3 hP hD hS => ?_)
  try dsimp only at hw_3 hP hD
  obtain ⟨rfl, rfl⟩ := hw_3
  have hP : va_P D vwCl (MW h cI ((gbA now va vb).2) past (nI k) now tri tex typed ati) H := hP
  have hD : va_D A0 (MW h cI ((gbA now va vb).2) past (nI k) now tri tex typed ati) := hD
  refine cl_Vi (b := (h 0)) (As := [.int ((gbA now va vb).1)]) (rest := []) (wc := MW h cI ((gbA now va vb).2) past (nI k) now tri tex typed ati) (wsN := fun (_ : Unit) => MW h cI (fnN now (gbA now va vb).2 (gbA now va vb).1) (fnP past k now (gbA now va vb).1) (nI (fnK k (gbA now va vb).1)) now tri tex typed ati) F hK hA hP hD hS (c_X4_ends hk) (cwV 1 hts gX4_giveBack_X4_ends rfl rfl rfl (by decide +kernel) ⟨Nat.le_of_ble_eq_true rfl, Nat.le_of_ble_eq_true rfl⟩) [0, 1, 2, 3, 4, 5] [] [0, 1, 2, 3, 4, 5] ([]) rfl rfl (fun _ => rfl) (by decide) (by decide) 0 rfl rfl rfl hl.1 rfl (Nat.le_of_ble_eq_true rfl) ⟨Nat.zero_le _, Nat.zero_le _⟩ dX4_giveBack_11 (fun r_6 _ H locs hw_5 hP hD hS => ?_)
  try dsimp only at hw_5 hP hD
  obtain rfl : r_6 = ((gbA now va vb).1) := hw_5
  exact RETN _ _ ((gbA now va vb).1) now _ _ dX4_giveBack_14 (rfl) (rfl) hP hD hS
set_option maxHeartbeats 4000000 in
set_option maxRecDepth 100000 in
theorem c_X4_clearsSome {l : Launch} {D : va_G} {cI cG cC cR : ClassId} {h : Nat → Nat} {now past bef tri tex : Nat → Int32} {pasts typed ati : Int32} {v : Int32} : CtI l yX4_clearsSome wsX4_clearsSome { frames := 4, cells := 0, slots := 0, locals := 92 } D (TY cI cG cC cR) [.ref (h 0), .int v] (MW h cI now past pasts bef tri tex typed ati) (fun (u : Nat → Int32) => MW h cI u past pasts bef tri tex typed ati) (fun (r : Int32) (u : Nat → Int32) => r = (clA now v).1 ∧ u = (clA now v).2) := by
  refine CtI.of (cc := cX4_clearsSome) (maxL := 2) (ty := .int) (by decide) rfl (Nat.le_of_ble_eq_true rfl) ?_
  intro P0 e0 s0 m0 a0 b0 t0 c0 A0 Q0 ls F hK hP hD hA RETN hl
  obtain ⟨hx, hb, hml, hown, hts⟩ := id F
  have hS : va_S A0 s0.heap s0.heap [] := va_S.rf
  have hl : lv_has ls 2 [(0, .ref (h 0)), (1, .int v)] := hl
  refine lv_iload_n hx hb dX4_clearsSome_0 rfl (lv_at hl 1 rfl) ?_
  refine lv_iconst (v := (nI 1)) hx hb dX4_clearsSome_1 (by decide) ?_
  refine lv_bipush (v := (nI 10)) hx hb dX4_clearsSome_2 (by decide) ?_
  refine cl_S0 (As := [.int v, .int (nI 1), .int (nI 10)]) (rest := []) F hK hA hP hD hS (c_X4_in) (va_cwS 3 hts gX4_clearsSome_X4_in rfl rfl rfl (by decide +kernel) ⟨Nat.le_of_ble_eq_true rfl, Nat.le_of_ble_eq_true rfl⟩) rfl hl.1 rfl (Nat.le_of_ble_eq_true rfl) ⟨Nat.zero_le _, Nat.zero_le _⟩ dX4_clearsSome_4 (fun r_1 H locs hw_2 hP hS => ?_)
  try dsimp only at hw_2
  obtain rfl : r_1 = (bI (inB v (nI 1) (nI 10))) := hw_2
  refine lv_if_eq (tgt := 18) hx hb dX4_clearsSome_7 (by decide) (fun c7 => ?_) (fun c7 => ?_)
  · skip
    replace c7 : (bI (inB v (nI 1) (nI 10))) = nI 0 := c7
    refine lv_iconst (v := (-1)) hx hb dX4_clearsSome_18 (by decide) ?_
    exact RETN _ _ (-1) now _ _ dX4_clearsSome_19 (rfl) (by first | (rw [clA_n (bI_cf c7)]; exact ⟨rfl, rfl⟩) | (rw [clA_s (by omega) (by omega)]; exact ⟨rfl, rfl⟩)) hP hD hS
  · skip
    replace c7 : ¬ (bI (inB v (nI 1) (nI 10))) = nI 0 := c7
    obtain ⟨m, hlo_m, hhi_m, rfl⟩ := inB_nat (by omega) (by omega) (bI_ct c7)
    refine lv_aload_n hx hb dX4_clearsSome_10 rfl (lv_at hl 0 rfl) ?_
    refine lv_iload_n hx hb dX4_clearsSome_11 rfl (lv_at hl 1 rfl) ?_
    refine cl_Vi (b := (h 0)) (As := [.int (nI m)]) (rest := []) (wc := MW h cI now past pasts bef tri tex typed ati) (wsN := fun (u1 : Nat → Int32) => MW h cI u1 past pasts bef tri tex typed ati) F hK hA hP hD hS (c_X4_clears (by omega) (by omega)) (cwV 1 hts gX4_clearsSome_X4_clears rfl rfl rfl (by decide +kernel) ⟨Nat.le_of_ble_eq_true rfl, Nat.le_of_ble_eq_true rfl⟩) [0, 1, 2, 3, 4, 5] [] [0, 1, 2, 3, 4, 5] ([]) rfl rfl (fun _ => rfl) (by decide) (by decide) 0 rfl rfl rfl hl.1 rfl (Nat.le_of_ble_eq_true rfl) ⟨Nat.zero_le _, Nat.zero_le _⟩ dX4_clearsSome_12 (fun r1 u1 H locs hw_3 hP hD hS => ?_)
    try dsimp only at hw_3 hP hD
    obtain ⟨rfl, rfl⟩ := hw_3
    have hP : va_P D vwCl (MW h cI (clF now m) past pasts bef tri tex typed ati) H := hP
    have hD : va_D A0 (MW h cI (clF now m) past pasts bef tri tex typed ati) := hD
    refine lv_goto (tgt := 19) hx hb dX4_clearsSome_15 (by decide) ?_
    exact RETN _ _ (nI (clN now m)) (clF now m) _ _ dX4_clearsSome_19 (rfl) (by first | (rw [clA_n (bI_cf c7)]; exact ⟨rfl, rfl⟩) | (rw [clA_s (by omega) (by omega)]; exact ⟨rfl, rfl⟩)) hP hD hS
set_option maxHeartbeats 4000000 in
set_option maxRecDepth 100000 in
theorem c_X4_clear {l : Launch} {D : va_G} {cI cG cC cR : ClassId} {h : Nat → Nat} {now past bef tri tex : Nat → Int32} {typed ati : Int32} {k : Nat} (hk : k ≤ 5) {v : Int32} : CtI l yX4_clear wsX4_clear { frames := 5, cells := 0, slots := 0, locals := 113 } D (TY cI cG cC cR) [.ref (h 0), .int v] (MW h cI now past (nI k) bef tri tex typed ati) (fun (u : Nat → Int32) => MW h cI (fnN now (clA now v).2 (clA now v).1) (fnP past k now (clA now v).1) (nI (fnK k (clA now v).1)) u tri tex typed ati) (fun (r : Int32) (u : Nat → Int32) => r = (clA now v).1) := by
  refine CtI.of (cc := cX4_clear) (maxL := 2) (ty := .int) (by decide) rfl (Nat.le_of_ble_eq_true rfl) ?_
  intro P0 e0 s0 m0 a0 b0 t0 c0 A0 Q0 ls F hK hP hD hA RETN hl
  obtain ⟨hx, hb, hml, hown, hts⟩ := id F
  have hS : va_S A0 s0.heap s0.heap [] := va_S.rf
  have hl : lv_has ls 2 [(0, .ref (h 0)), (1, .int v)] := hl
  refine lv_aload_n hx hb dX4_clear_0 rfl (lv_at hl 0 rfl) ?_
  refine cl_Vv (b := (h 0)) (As := []) (rest := []) (wc := MW h cI now past (nI k) bef tri tex typed ati) (wsN := fun (_ : Unit) => MW h cI now past (nI k) now tri tex typed ati) F hK hA hP hD hS (c_X4_notes) (cwV 0 hts gX4_clear_X4_notes rfl rfl rfl (by decide +kernel) ⟨Nat.le_of_ble_eq_true rfl, Nat.le_of_ble_eq_true rfl⟩) [0, 1, 2, 3, 4, 5] [] [0, 1, 2, 3, 4, 5] ([]) rfl rfl (fun _ => rfl) (by decide) (by decide) 0 rfl rfl rfl hl.1 rfl (Nat.le_of_ble_eq_true rfl) ⟨Nat.zero_le _, Nat.zero_le _⟩ dX4_clear_1 (fun _ H locs hw_1 hP hD hS => ?_)
  try dsimp only at hw_1 hP hD
  refine lv_aload_n hx hb dX4_clear_4 rfl (lv_at hl 0 rfl) ?_
  refine lv_aload_n hx hb dX4_clear_5 rfl (lv_at hl 0 rfl) ?_
  refine lv_iload_n hx hb dX4_clear_6 rfl (lv_at hl 1 rfl) ?_
  refine cl_Vi (b := (h 0)) (As := [.int v]) (rest := [.ref (h 0)]) (wc := MW h cI now past (nI k) now tri tex typed ati) (wsN := fun (u1 : Nat → Int32) => MW h cI u1 past (nI k) now tri tex typed ati) F hK hA hP hD hS (c_X4_clearsSome) (cwV 1 hts gX4_clear_X4_clearsSome rfl rfl rfl (by decide +kernel) ⟨Nat.le_of_ble_eq_true rfl, Nat.le_of_ble_eq_true rfl⟩) [0, 1, 2, 3, 4, 5] [] [0, 1, 2, 3, 4, 5] ([]) rfl rfl (fun _ => rfl) (by decide) (by decide) 0 rfl rfl rfl hl.1 rfl (Nat.le_of_ble_eq_true rfl) ⟨Nat.zero_le _, Nat.zero_le _⟩ dX4_clear_7 (fun r1 u1 H locs hw_3 hP hD hS => ?_)
  try dsimp only at hw_3 hP hD
  obtain ⟨rfl, rfl⟩ := hw_3
  have hP : va_P D vwCl (MW h cI ((clA now v).2) past (nI k) now tri tex typed ati) H := hP
  have hD : va_D A0 (MW h cI ((clA now v).2) past (nI k) now tri tex typed ati) := hD
  refine cl_Vi (b := (h 0)) (As := [.int ((clA now v).1)]) (rest := []) (wc := MW h cI ((clA now v).2) past (nI k) now tri tex typed ati) (wsN := fun (_ : Unit) => MW h cI (fnN now (clA now v).2 (clA now v).1) (fnP past k now (clA now v).1) (nI (fnK k (clA now v).1)) now tri tex typed ati) F hK hA hP hD hS (c_X4_ends hk) (cwV 1 hts gX4_clear_X4_ends rfl rfl rfl (by decide +kernel) ⟨Nat.le_of_ble_eq_true rfl, Nat.le_of_ble_eq_true rfl⟩) [0, 1, 2, 3, 4, 5] [] [0, 1, 2, 3, 4, 5] ([]) rfl rfl (fun _ => rfl) (by decide) (by decide) 0 rfl rfl rfl hl.1 rfl (Nat.le_of_ble_eq_true rfl) ⟨Nat.zero_le _, Nat.zero_le _⟩ dX4_clear_10 (fun r_6 _ H locs hw_5 hP hD hS => ?_)
  try dsimp only at hw_5 hP hD
  obtain rfl : r_6 = ((clA now v).1) := hw_5
  exact RETN _ _ ((clA now v).1) now _ _ dX4_clear_13 (rfl) (rfl) hP hD hS
set_option maxHeartbeats 4000000 in
set_option maxRecDepth 100000 in
theorem c_X4_isBlock {l : Launch} {D : va_G} {cI cG cC cR : ClassId} {h : Nat → Nat} {now past bef tri tex : Nat → Int32} {pasts typed ati : Int32} {v : Int32} : CtI l yX4_isBlock wsX4_isBlock { frames := 1, cells := 0, slots := 0, locals := 22 } D (TY cI cG cC cR) [.ref (h 0), .int v] (MW h cI now past pasts bef tri tex typed ati) (fun (_ : Unit) => MW h cI now past pasts bef tri tex typed ati) (fun (r : Int32) (_ : Unit) => r = bI (isB now v)) := by
  refine CtI.of (cc := cX4_isBlock) (maxL := 2) (ty := .boolean) (by decide) rfl (Nat.le_of_ble_eq_true rfl) ?_
  intro P0 e0 s0 m0 a0 b0 t0 c0 A0 Q0 ls F hK hP hD hA RETN hl
  obtain ⟨hx, hb, hml, hown, hts⟩ := id F
  have hS : va_S A0 s0.heap s0.heap [] := va_S.rf
  have hl : lv_has ls 2 [(0, .ref (h 0)), (1, .int v)] := hl
  have lk7 := hts (.fieldLink RX4 7 "SlotMapsModel" "now" "[I") (by decide +kernel)
  have hI4 : ∀ w ∈ u_ws RX4 TX4 8, w ∈ wsX4_isBlock := by decide +kernel
  refine lv_iload_n hx hb dX4_isBlock_0 rfl (lv_at hl 1 rfl) ?_
  refine lv_iconst (v := (nI 0)) hx hb dX4_isBlock_1 (by decide) ?_
  refine lv_bipush (v := (nI 7)) hx hb dX4_isBlock_2 (by decide) ?_
  refine cl_S0 (As := [.int v, .int (nI 0), .int (nI 7)]) (rest := []) F hK hA hP hD hS (c_X4_in) (va_cwS 3 hts gX4_isBlock_X4_in rfl rfl rfl (by decide +kernel) ⟨Nat.le_of_ble_eq_true rfl, Nat.le_of_ble_eq_true rfl⟩) rfl hl.1 rfl (Nat.le_of_ble_eq_true rfl) ⟨Nat.zero_le _, Nat.zero_le _⟩ dX4_isBlock_4 (fun r_1 H locs hw_2 hP hS => ?_)
  try dsimp only at hw_2
  obtain rfl : r_1 = (bI (inB v (nI 0) (nI 7))) := hw_2
  refine lv_if_eq (tgt := 31) hx hb dX4_isBlock_7 (by decide) (fun c7 => ?_) (fun c7 => ?_)
  · skip
    replace c7 : (bI (inB v (nI 0) (nI 7))) = nI 0 := c7
    refine lv_iconst (v := (nI 0)) hx hb dX4_isBlock_31 (by decide) ?_
    exact RETN _ _ (nI 0) () _ _ dX4_isBlock_32 (rfl) (bI_f (isB_n (bI_cf c7))) hP hD hS
  · skip
    replace c7 : ¬ (bI (inB v (nI 0) (nI 7))) = nI 0 := c7
    obtain ⟨kb, hlo_kb, hhi_kb, rfl⟩ := inB_nat (by omega) (by omega) (bI_ct c7)
    refine lv_aload_n hx hb dX4_isBlock_10 rfl (lv_at hl 0 rfl) ?_
    refine va_get (D := D) (ci := 4) (v := .ref (h 1)) (C := RX4) (T := TX4) (N := 8) hx hb hts hI4 hown hK.1 hP 0 rfl rfl 0 (by decide) lk7 (fun _ h9 => h9) rfl dX4_isBlock_11 ?_
    refine lv_sipush (v := (nI 650)) hx hb dX4_isBlock_14 (by decide) ?_
    refine lv_iconst (v := (nI 2)) hx hb dX4_isBlock_17 (by decide) ?_
    refine lv_iload_n hx hb dX4_isBlock_18 rfl (lv_at hl 1 rfl) ?_
    refine lv_imul hx hb dX4_isBlock_19 ?_
    refine n_as (x' := nI (2 * kb)) (pk_mul _ _) ?_
    refine lv_iadd hx hb dX4_isBlock_20 ?_
    refine n_as (x' := nI (650 + (2 * kb))) (nI_add _ _) ?_
    refine lv_iconst (v := (nI 1)) hx hb dX4_isBlock_21 (by decide) ?_
    refine lv_iadd hx hb dX4_isBlock_22 ?_
    refine n_as (x' := nI ((650 + (2 * kb)) + 1)) (nI_add _ _) ?_
    refine n_iald hx hb hK hP 1 0 rfl rfl (by decide) (by omega) dX4_isBlock_23 ?_
    refine lv_if_le (tgt := 31) hx hb dX4_isBlock_24 (by decide) (fun c24 => ?_) (fun c24 => ?_)
    · skip
      refine lv_iconst (v := (nI 0)) hx hb dX4_isBlock_31 (by decide) ?_
      exact RETN _ _ (nI 0) () _ _ dX4_isBlock_32 (rfl) (bI_f (by rw [isB_k (by omega)]; exact decide_eq_false (le0y c24))) hP hD hS
    · skip
      refine lv_iconst (v := (nI 1)) hx hb dX4_isBlock_27 (by decide) ?_
      refine lv_goto (tgt := 32) hx hb dX4_isBlock_28 (by decide) ?_
      exact RETN _ _ (nI 1) () _ _ dX4_isBlock_32 (rfl) (bI_t (by rw [isB_k (by omega)]; exact decide_eq_true (le0n c24))) hP hD hS
set_option maxHeartbeats 4000000 in
set_option maxRecDepth 100000 in
theorem c_X4_isSize {l : Launch} {D : va_G} {cI cG cC cR : ClassId} {v : Int32} : CtI l yX4_isSize wsX4_isSize { frames := 0, cells := 0, slots := 0, locals := 0 } D (TY cI cG cC cR) [.int v] ([]) (fun (_ : Unit) => []) (fun (r : Int32) (_ : Unit) => r = bI (szB v)) := by
  refine CtI.of (cc := cX4_isSize) (maxL := 1) (ty := .boolean) (by decide) rfl (Nat.le_of_ble_eq_true rfl) ?_
  intro P0 e0 s0 m0 a0 b0 t0 c0 A0 Q0 ls F hK hP hD hA RETN hl
  obtain ⟨hx, hb, hml, hown, hts⟩ := id F
  have hS : va_S A0 s0.heap s0.heap [] := va_S.rf
  have hl : lv_has ls 1 [(0, .int v)] := hl
  refine lv_iload_n hx hb dX4_isSize_0 rfl (lv_at hl 0 rfl) ?_
  refine lv_iconst (v := (nI 4)) hx hb dX4_isSize_1 (by decide) ?_
  refine lv_icmp_eq (tgt := 23) hx hb dX4_isSize_2 (by decide) (fun c2 => ?_) (fun c2 => ?_)
  · skip
    refine lv_iconst (v := (nI 1)) hx hb dX4_isSize_23 (by decide) ?_
    refine lv_goto (tgt := 28) hx hb dX4_isSize_24 (by decide) ?_
    exact RETN _ _ (nI 1) () _ _ dX4_isSize_28 (rfl) (bI_t (by simp [szB, c2])) hP hD hS
  · skip
    refine lv_iload_n hx hb dX4_isSize_5 rfl (lv_at hl 0 rfl) ?_
    refine lv_bipush (v := (nI 8)) hx hb dX4_isSize_6 (by decide) ?_
    refine lv_icmp_eq (tgt := 23) hx hb dX4_isSize_8 (by decide) (fun c8 => ?_) (fun c8 => ?_)
    · skip
      refine lv_iconst (v := (nI 1)) hx hb dX4_isSize_23 (by decide) ?_
      refine lv_goto (tgt := 28) hx hb dX4_isSize_24 (by decide) ?_
      exact RETN _ _ (nI 1) () _ _ dX4_isSize_28 (rfl) (bI_t (by simp [szB, c8])) hP hD hS
    · skip
      refine lv_iload_n hx hb dX4_isSize_11 rfl (lv_at hl 0 rfl) ?_
      refine lv_bipush (v := (nI 16)) hx hb dX4_isSize_12 (by decide) ?_
      refine lv_icmp_eq (tgt := 23) hx hb dX4_isSize_14 (by decide) (fun c14 => ?_) (fun c14 => ?_)
      · skip
        refine lv_iconst (v := (nI 1)) hx hb dX4_isSize_23 (by decide) ?_
        refine lv_goto (tgt := 28) hx hb dX4_isSize_24 (by decide) ?_
        exact RETN _ _ (nI 1) () _ _ dX4_isSize_28 (rfl) (bI_t (by simp [szB, c14])) hP hD hS
      · skip
        refine lv_iload_n hx hb dX4_isSize_17 rfl (lv_at hl 0 rfl) ?_
        refine lv_bipush (v := (nI 32)) hx hb dX4_isSize_18 (by decide) ?_
        refine lv_icmp_ne (tgt := 27) hx hb dX4_isSize_20 (by decide) (fun c20 => ?_) (fun c20 => ?_)
        · skip
          refine lv_iconst (v := (nI 0)) hx hb dX4_isSize_27 (by decide) ?_
          exact RETN _ _ (nI 0) () _ _ dX4_isSize_28 (rfl) (bI_f (by simp [szB, c2, c8, c14, c20])) hP hD hS
        · skip
          refine lv_iconst (v := (nI 1)) hx hb dX4_isSize_23 (by decide) ?_
          refine lv_goto (tgt := 28) hx hb dX4_isSize_24 (by decide) ?_
          exact RETN _ _ (nI 1) () _ _ dX4_isSize_28 (rfl) (bI_t (by simp [szB, c20])) hP hD hS
set_option maxHeartbeats 4000000 in
set_option maxRecDepth 100000 in
theorem c_X4_placeOf {l : Launch} {D : va_G} {cI cG cC cR : ClassId} {h : Nat → Nat} {now past bef tri tex : Nat → Int32} {pasts typed ati : Int32} {z : Nat} (hz : okz z) : CtI l yX4_placeOf wsX4_placeOf { frames := 0, cells := 0, slots := 0, locals := 0 } D (TY cI cG cC cR) [.ref (h 0), .int (nI z)] (MW h cI now past pasts bef tri tex typed ati) (fun (_ : Unit) => MW h cI now past pasts bef tri tex typed ati) (fun (r : Int32) (_ : Unit) => r = oI (pl now z)) := by
  refine CtI.of (cc := cX4_placeOf) (maxL := 5) (ty := .int) (by decide) rfl (Nat.le_of_ble_eq_true rfl) ?_
  intro P0 e0 s0 m0 a0 b0 t0 c0 A0 Q0 ls F hK hP hD hA RETN hl
  obtain ⟨hx, hb, hml, hown, hts⟩ := id F
  have hS : va_S A0 s0.heap s0.heap [] := va_S.rf
  have hl : lv_has ls 5 [(0, .ref (h 0)), (1, .int (nI z))] := hl
  have lk7 := hts (.fieldLink RX4 7 "SlotMapsModel" "now" "[I") (by decide +kernel)
  have hI4 : ∀ w ∈ u_ws RX4 TX4 8, w ∈ wsX4_placeOf := by decide +kernel
  rcases hz with rfl | rfl | rfl | rfl
  ·
    skip
    refine lv_iconst (v := (nI 0)) hx hb dX4_placeOf_0 (by decide) ?_
    refine lv_istore_n (lv' := [(2, .int (nI 0)), (0, .ref (h 0)), (1, .int (nI 4))]) hx hb dX4_placeOf_1 rfl hl (by decide) rfl (fun ls hl => ?_)
    have LP2 : ∀ (nn : Nat) (q : Nat) (H : Heap) (locs : List Loc) (ls : Array Slot), q ≤ 80 → ls1 (plq now 4) 80 0 = ls1 (plq now 4) (80 - q) q → 80 - q < nn → va_P D vwCl (MW h cI now past pasts bef tri tex typed ati) H → va_D A0 (MW h cI now past pasts bef tri tex typed ati) → va_S A0 s0.heap H locs → lv_has ls 5 [(2, .int (nI (4 * q))), (0, .ref (h 0)), (1, .int (nI 4))] → W P0 l e0 { frames := 0, cells := 0, slots := 0, locals := 0 } s0 m0 a0 b0 t0 c0 H locs 0 0 Q0 (F0 m0 2 ls []) := by
      intro nn
      induction nn with
      | zero => intro q H locs ls hq ha hmu; exact absurd hmu (Nat.not_lt_zero _)
      | succ nn ih2 =>
        intro q H locs ls hq ha hmu2 hP hD hS hl
        refine lv_iload_n hx hb dX4_placeOf_2 rfl (lv_at hl 0 rfl) ?_
        refine lv_sipush (v := (nI 320)) hx hb dX4_placeOf_3 (by decide) ?_
        refine lv_icmp_ge (tgt := 60) hx hb dX4_placeOf_6 (by decide) (fun c6 => ?_) (fun c6 => ?_)
        · skip
          replace c6 : 320 ≤ (4 * q) := by rw [nI_leI (by omega) (by omega)] at c6; exact c6
          refine lv_bipush (v := (-9)) hx hb dX4_placeOf_60 (by decide) ?_
          exact RETN _ _ (-9) () _ _ dX4_placeOf_62 (rfl) (by unfold pl; rw [show 320 / 4 = 80 from rfl, ha, ls1_end _ (by omega)]; rfl) hP hD hS
        · skip
          replace c6 : ¬ (320 ≤ (4 * q)) := by rw [nI_leI (by omega) (by omega)] at c6; exact c6
          refine lv_iconst (v := (nI 0)) hx hb dX4_placeOf_9 (by decide) ?_
          refine lv_istore_n (lv' := [(3, .int (nI 0)), (2, .int (nI (4 * q))), (0, .ref (h 0)), (1, .int (nI 4))]) hx hb dX4_placeOf_10 rfl hl (by decide) rfl (fun ls hl => ?_)
          refine lv_iload_n hx hb dX4_placeOf_11 rfl (lv_at hl 1 rfl) ?_
          refine lv_istore (lv' := [(4, .int (nI (4 * q))), (3, .int (nI 0)), (2, .int (nI (4 * q))), (0, .ref (h 0)), (1, .int (nI 4))]) hx hb dX4_placeOf_12 hl (by decide) rfl (fun ls hl => ?_)
          have LP14 : ∀ (nn : Nat) (i : Nat) (n : Nat) (H : Heap) (locs : List Loc) (ls : Array Slot), i ≤ 4 → n = fb_ct (fun i => fr now (4 * q + i)) i → 4 - i < nn → va_P D vwCl (MW h cI now past pasts bef tri tex typed ati) H → va_D A0 (MW h cI now past pasts bef tri tex typed ati) → va_S A0 s0.heap H locs → lv_has ls 5 [(4, .int (nI (4 * q + i))), (3, .int (nI n)), (2, .int (nI (4 * q))), (0, .ref (h 0)), (1, .int (nI 4))] → W P0 l e0 { frames := 0, cells := 0, slots := 0, locals := 0 } s0 m0 a0 b0 t0 c0 H locs 0 0 Q0 (F0 m0 14 ls []) := by
            intro nn
            induction nn with
            | zero => intro i n H locs ls hi hn hmu; exact absurd hmu (Nat.not_lt_zero _)
            | succ nn ih14 =>
              intro i n H locs ls hi hn hmu14 hP hD hS hl
              have hnl := fb_ct_le (fun i => fr now (4 * q + i)) i
              refine lv_iload hx hb dX4_placeOf_14 (lv_at hl 0 rfl) ?_
              refine lv_iload_n hx hb dX4_placeOf_16 rfl (lv_at hl 2 rfl) ?_
              refine lv_iload_n hx hb dX4_placeOf_17 rfl (lv_at hl 4 rfl) ?_
              refine lv_iadd hx hb dX4_placeOf_18 ?_
              refine n_as (x' := nI ((4 * q) + 4)) (nI_add _ _) ?_
              refine lv_icmp_ge (tgt := 46) hx hb dX4_placeOf_19 (by decide) (fun c19 => ?_) (fun c19 => ?_)
              · skip
                replace c19 : ((4 * q) + 4) ≤ (4 * q + i) := by rw [nI_leI (by omega) (by omega)] at c19; exact c19
                have hn4 : n = fb_ct (fun i => fr now (4 * q + i)) 4 := by rw [hn, show i = 4 by omega]
                refine lv_iload_n hx hb dX4_placeOf_46 rfl (lv_at hl 1 rfl) ?_
                refine lv_iload_n hx hb dX4_placeOf_47 rfl (lv_at hl 4 rfl) ?_
                refine lv_icmp_ne (tgt := 53) hx hb dX4_placeOf_48 (by decide) (fun c48 => ?_) (fun c48 => ?_)
                · skip
                  replace c48 : ¬ n = 4 := by rw [nI_eq (by omega) (by omega)] at c48; exact c48
                  refine lv_iload_n hx hb dX4_placeOf_53 rfl (lv_at hl 2 rfl) ?_
                  refine lv_iload_n hx hb dX4_placeOf_54 rfl (lv_at hl 4 rfl) ?_
                  refine lv_iadd hx hb dX4_placeOf_55 ?_
                  refine n_as (x' := (nI (4 * (q + 1)))) (by rw [nI_add]; exact congrArg nI (by omega)) ?_
                  refine lv_istore_n (lv' := [(2, .int (nI (4 * (q + 1)))), (4, .int (nI (4 * q + i))), (3, .int (nI n)), (0, .ref (h 0)), (1, .int (nI 4))]) hx hb dX4_placeOf_56 rfl hl (by decide) rfl (fun ls hl => ?_)
                  refine lv_goto (tgt := 2) hx hb dX4_placeOf_57 (by decide) ?_
                  exact ih2 (q + 1) _ _ _ (by omega) (by rw [ha, ls1_no (by omega) (by unfold plq; rw [← hn4]; exact decide_eq_false (by omega))]) (by omega) hP hD hS (lv_sub hl [0, 3, 4] rfl)
                · skip
                  replace c48 : n = 4 := by rw [nI_eq (by omega) (by omega)] at c48; exact c48
                  refine lv_iload_n hx hb dX4_placeOf_51 rfl (lv_at hl 2 rfl) ?_
                  exact RETN _ _ (nI (4 * q)) () _ _ dX4_placeOf_52 (rfl) (by unfold pl; rw [show 320 / 4 = 80 from rfl, ha, ls1_yes (by omega) (by unfold plq; rw [← hn4]; exact decide_eq_true (by omega))]; rfl) hP hD hS
              · skip
                replace c19 : ¬ (((4 * q) + 4) ≤ (4 * q + i)) := by rw [nI_leI (by omega) (by omega)] at c19; exact c19
                refine lv_iload_n hx hb dX4_placeOf_22 rfl (lv_at hl 1 rfl) ?_
                refine lv_aload_n hx hb dX4_placeOf_23 rfl (lv_at hl 3 rfl) ?_
                refine va_get (D := D) (ci := 4) (v := .ref (h 1)) (C := RX4) (T := TX4) (N := 8) hx hb hts hI4 hown hK.1 hP 0 rfl rfl 0 (by decide) lk7 (fun _ h9 => h9) rfl dX4_placeOf_24 ?_
                refine lv_iload hx hb dX4_placeOf_27 (lv_at hl 0 rfl) ?_
                refine n_iald hx hb hK hP 1 0 rfl rfl (by decide) (by omega) dX4_placeOf_29 ?_
                refine lv_if_ne (tgt := 37) hx hb dX4_placeOf_30 (by decide) (fun c30 => ?_) (fun c30 => ?_)
                · skip
                  replace c30 : ¬ (now (4 * q + i)) = nI 0 := c30
                  refine lv_iconst (v := (nI 0)) hx hb dX4_placeOf_37 (by decide) ?_
                  refine lv_iadd hx hb dX4_placeOf_38 ?_
                  refine n_as (x' := nI (n + 0)) (nI_add _ _) ?_
                  refine lv_istore_n (lv' := [(3, .int (nI (n + 0))), (4, .int (nI (4 * q + i))), (2, .int (nI (4 * q))), (0, .ref (h 0)), (1, .int (nI 4))]) hx hb dX4_placeOf_39 rfl hl (by decide) rfl (fun ls hl => ?_)
                  refine lv_iinc (v := (nI ((4 * q + i) + 1))) (lv' := [(4, .int (nI ((4 * q + i) + 1))), (3, .int (nI (n + 0))), (2, .int (nI (4 * q))), (0, .ref (h 0)), (1, .int (nI 4))]) hx hb dX4_placeOf_40 hl (k := 1) rfl (n_inc1 _) (by decide) rfl (fun ls hl => ?_)
                  refine lv_goto (tgt := 14) hx hb dX4_placeOf_43 (by decide) ?_
                  exact ih14 (i + 1) (n + 0) _ _ _ (by omega) (by rw [fb_ct_succ, ← hn]; simp [fr, c30]) (by omega) hP hD hS (lv_sub hl [0, 1, 2, 3, 4] rfl)
                · skip
                  replace c30 : (now (4 * q + i)) = nI 0 := c30
                  refine lv_iconst (v := (nI 1)) hx hb dX4_placeOf_33 (by decide) ?_
                  refine lv_goto (tgt := 38) hx hb dX4_placeOf_34 (by decide) ?_
                  refine lv_iadd hx hb dX4_placeOf_38 ?_
                  refine n_as (x' := nI (n + 1)) (nI_add _ _) ?_
                  refine lv_istore_n (lv' := [(3, .int (nI (n + 1))), (4, .int (nI (4 * q + i))), (2, .int (nI (4 * q))), (0, .ref (h 0)), (1, .int (nI 4))]) hx hb dX4_placeOf_39 rfl hl (by decide) rfl (fun ls hl => ?_)
                  refine lv_iinc (v := (nI ((4 * q + i) + 1))) (lv' := [(4, .int (nI ((4 * q + i) + 1))), (3, .int (nI (n + 1))), (2, .int (nI (4 * q))), (0, .ref (h 0)), (1, .int (nI 4))]) hx hb dX4_placeOf_40 hl (k := 1) rfl (n_inc1 _) (by decide) rfl (fun ls hl => ?_)
                  refine lv_goto (tgt := 14) hx hb dX4_placeOf_43 (by decide) ?_
                  exact ih14 (i + 1) (n + 1) _ _ _ (by omega) (by rw [fb_ct_succ, ← hn]; simp [fr, c30]) (by omega) hP hD hS (lv_sub hl [0, 1, 2, 3, 4] rfl)
          exact LP14 _ 0 0 _ _ _ (by omega) (rfl) (Nat.lt_succ_self _) hP hD hS (lv_sub hl [0, 1, 2, 3, 4] rfl)
    exact LP2 _ 0 _ _ _ (by omega) (rfl) (Nat.lt_succ_self _) hP hD hS (lv_sub hl [0, 1, 2] rfl)
  ·
    skip
    refine lv_iconst (v := (nI 0)) hx hb dX4_placeOf_0 (by decide) ?_
    refine lv_istore_n (lv' := [(2, .int (nI 0)), (0, .ref (h 0)), (1, .int (nI 8))]) hx hb dX4_placeOf_1 rfl hl (by decide) rfl (fun ls hl => ?_)
    have LP2 : ∀ (nn : Nat) (q : Nat) (H : Heap) (locs : List Loc) (ls : Array Slot), q ≤ 40 → ls1 (plq now 8) 40 0 = ls1 (plq now 8) (40 - q) q → 40 - q < nn → va_P D vwCl (MW h cI now past pasts bef tri tex typed ati) H → va_D A0 (MW h cI now past pasts bef tri tex typed ati) → va_S A0 s0.heap H locs → lv_has ls 5 [(2, .int (nI (8 * q))), (0, .ref (h 0)), (1, .int (nI 8))] → W P0 l e0 { frames := 0, cells := 0, slots := 0, locals := 0 } s0 m0 a0 b0 t0 c0 H locs 0 0 Q0 (F0 m0 2 ls []) := by
      intro nn
      induction nn with
      | zero => intro q H locs ls hq ha hmu; exact absurd hmu (Nat.not_lt_zero _)
      | succ nn ih2 =>
        intro q H locs ls hq ha hmu2 hP hD hS hl
        refine lv_iload_n hx hb dX4_placeOf_2 rfl (lv_at hl 0 rfl) ?_
        refine lv_sipush (v := (nI 320)) hx hb dX4_placeOf_3 (by decide) ?_
        refine lv_icmp_ge (tgt := 60) hx hb dX4_placeOf_6 (by decide) (fun c6 => ?_) (fun c6 => ?_)
        · skip
          replace c6 : 320 ≤ (8 * q) := by rw [nI_leI (by omega) (by omega)] at c6; exact c6
          refine lv_bipush (v := (-9)) hx hb dX4_placeOf_60 (by decide) ?_
          exact RETN _ _ (-9) () _ _ dX4_placeOf_62 (rfl) (by unfold pl; rw [show 320 / 8 = 40 from rfl, ha, ls1_end _ (by omega)]; rfl) hP hD hS
        · skip
          replace c6 : ¬ (320 ≤ (8 * q)) := by rw [nI_leI (by omega) (by omega)] at c6; exact c6
          refine lv_iconst (v := (nI 0)) hx hb dX4_placeOf_9 (by decide) ?_
          refine lv_istore_n (lv' := [(3, .int (nI 0)), (2, .int (nI (8 * q))), (0, .ref (h 0)), (1, .int (nI 8))]) hx hb dX4_placeOf_10 rfl hl (by decide) rfl (fun ls hl => ?_)
          refine lv_iload_n hx hb dX4_placeOf_11 rfl (lv_at hl 1 rfl) ?_
          refine lv_istore (lv' := [(4, .int (nI (8 * q))), (3, .int (nI 0)), (2, .int (nI (8 * q))), (0, .ref (h 0)), (1, .int (nI 8))]) hx hb dX4_placeOf_12 hl (by decide) rfl (fun ls hl => ?_)
          have LP14 : ∀ (nn : Nat) (i : Nat) (n : Nat) (H : Heap) (locs : List Loc) (ls : Array Slot), i ≤ 8 → n = fb_ct (fun i => fr now (8 * q + i)) i → 8 - i < nn → va_P D vwCl (MW h cI now past pasts bef tri tex typed ati) H → va_D A0 (MW h cI now past pasts bef tri tex typed ati) → va_S A0 s0.heap H locs → lv_has ls 5 [(4, .int (nI (8 * q + i))), (3, .int (nI n)), (2, .int (nI (8 * q))), (0, .ref (h 0)), (1, .int (nI 8))] → W P0 l e0 { frames := 0, cells := 0, slots := 0, locals := 0 } s0 m0 a0 b0 t0 c0 H locs 0 0 Q0 (F0 m0 14 ls []) := by
            intro nn
            induction nn with
            | zero => intro i n H locs ls hi hn hmu; exact absurd hmu (Nat.not_lt_zero _)
            | succ nn ih14 =>
              intro i n H locs ls hi hn hmu14 hP hD hS hl
              have hnl := fb_ct_le (fun i => fr now (8 * q + i)) i
              refine lv_iload hx hb dX4_placeOf_14 (lv_at hl 0 rfl) ?_
              refine lv_iload_n hx hb dX4_placeOf_16 rfl (lv_at hl 2 rfl) ?_
              refine lv_iload_n hx hb dX4_placeOf_17 rfl (lv_at hl 4 rfl) ?_
              refine lv_iadd hx hb dX4_placeOf_18 ?_
              refine n_as (x' := nI ((8 * q) + 8)) (nI_add _ _) ?_
              refine lv_icmp_ge (tgt := 46) hx hb dX4_placeOf_19 (by decide) (fun c19 => ?_) (fun c19 => ?_)
              · skip
                replace c19 : ((8 * q) + 8) ≤ (8 * q + i) := by rw [nI_leI (by omega) (by omega)] at c19; exact c19
                have hn4 : n = fb_ct (fun i => fr now (8 * q + i)) 8 := by rw [hn, show i = 8 by omega]
                refine lv_iload_n hx hb dX4_placeOf_46 rfl (lv_at hl 1 rfl) ?_
                refine lv_iload_n hx hb dX4_placeOf_47 rfl (lv_at hl 4 rfl) ?_
                refine lv_icmp_ne (tgt := 53) hx hb dX4_placeOf_48 (by decide) (fun c48 => ?_) (fun c48 => ?_)
                · skip
                  replace c48 : ¬ n = 8 := by rw [nI_eq (by omega) (by omega)] at c48; exact c48
                  refine lv_iload_n hx hb dX4_placeOf_53 rfl (lv_at hl 2 rfl) ?_
                  refine lv_iload_n hx hb dX4_placeOf_54 rfl (lv_at hl 4 rfl) ?_
                  refine lv_iadd hx hb dX4_placeOf_55 ?_
                  refine n_as (x' := (nI (8 * (q + 1)))) (by rw [nI_add]; exact congrArg nI (by omega)) ?_
                  refine lv_istore_n (lv' := [(2, .int (nI (8 * (q + 1)))), (4, .int (nI (8 * q + i))), (3, .int (nI n)), (0, .ref (h 0)), (1, .int (nI 8))]) hx hb dX4_placeOf_56 rfl hl (by decide) rfl (fun ls hl => ?_)
                  refine lv_goto (tgt := 2) hx hb dX4_placeOf_57 (by decide) ?_
                  exact ih2 (q + 1) _ _ _ (by omega) (by rw [ha, ls1_no (by omega) (by unfold plq; rw [← hn4]; exact decide_eq_false (by omega))]) (by omega) hP hD hS (lv_sub hl [0, 3, 4] rfl)
                · skip
                  replace c48 : n = 8 := by rw [nI_eq (by omega) (by omega)] at c48; exact c48
                  refine lv_iload_n hx hb dX4_placeOf_51 rfl (lv_at hl 2 rfl) ?_
                  exact RETN _ _ (nI (8 * q)) () _ _ dX4_placeOf_52 (rfl) (by unfold pl; rw [show 320 / 8 = 40 from rfl, ha, ls1_yes (by omega) (by unfold plq; rw [← hn4]; exact decide_eq_true (by omega))]; rfl) hP hD hS
              · skip
                replace c19 : ¬ (((8 * q) + 8) ≤ (8 * q + i)) := by rw [nI_leI (by omega) (by omega)] at c19; exact c19
                refine lv_iload_n hx hb dX4_placeOf_22 rfl (lv_at hl 1 rfl) ?_
                refine lv_aload_n hx hb dX4_placeOf_23 rfl (lv_at hl 3 rfl) ?_
                refine va_get (D := D) (ci := 4) (v := .ref (h 1)) (C := RX4) (T := TX4) (N := 8) hx hb hts hI4 hown hK.1 hP 0 rfl rfl 0 (by decide) lk7 (fun _ h9 => h9) rfl dX4_placeOf_24 ?_
                refine lv_iload hx hb dX4_placeOf_27 (lv_at hl 0 rfl) ?_
                refine n_iald hx hb hK hP 1 0 rfl rfl (by decide) (by omega) dX4_placeOf_29 ?_
                refine lv_if_ne (tgt := 37) hx hb dX4_placeOf_30 (by decide) (fun c30 => ?_) (fun c30 => ?_)
                · skip
                  replace c30 : ¬ (now (8 * q + i)) = nI 0 := c30
                  refine lv_iconst (v := (nI 0)) hx hb dX4_placeOf_37 (by decide) ?_
                  refine lv_iadd hx hb dX4_placeOf_38 ?_
                  refine n_as (x' := nI (n + 0)) (nI_add _ _) ?_
                  refine lv_istore_n (lv' := [(3, .int (nI (n + 0))), (4, .int (nI (8 * q + i))), (2, .int (nI (8 * q))), (0, .ref (h 0)), (1, .int (nI 8))]) hx hb dX4_placeOf_39 rfl hl (by decide) rfl (fun ls hl => ?_)
                  refine lv_iinc (v := (nI ((8 * q + i) + 1))) (lv' := [(4, .int (nI ((8 * q + i) + 1))), (3, .int (nI (n + 0))), (2, .int (nI (8 * q))), (0, .ref (h 0)), (1, .int (nI 8))]) hx hb dX4_placeOf_40 hl (k := 1) rfl (n_inc1 _) (by decide) rfl (fun ls hl => ?_)
                  refine lv_goto (tgt := 14) hx hb dX4_placeOf_43 (by decide) ?_
                  exact ih14 (i + 1) (n + 0) _ _ _ (by omega) (by rw [fb_ct_succ, ← hn]; simp [fr, c30]) (by omega) hP hD hS (lv_sub hl [0, 1, 2, 3, 4] rfl)
                · skip
                  replace c30 : (now (8 * q + i)) = nI 0 := c30
                  refine lv_iconst (v := (nI 1)) hx hb dX4_placeOf_33 (by decide) ?_
                  refine lv_goto (tgt := 38) hx hb dX4_placeOf_34 (by decide) ?_
                  refine lv_iadd hx hb dX4_placeOf_38 ?_
                  refine n_as (x' := nI (n + 1)) (nI_add _ _) ?_
                  refine lv_istore_n (lv' := [(3, .int (nI (n + 1))), (4, .int (nI (8 * q + i))), (2, .int (nI (8 * q))), (0, .ref (h 0)), (1, .int (nI 8))]) hx hb dX4_placeOf_39 rfl hl (by decide) rfl (fun ls hl => ?_)
                  refine lv_iinc (v := (nI ((8 * q + i) + 1))) (lv' := [(4, .int (nI ((8 * q + i) + 1))), (3, .int (nI (n + 1))), (2, .int (nI (8 * q))), (0, .ref (h 0)), (1, .int (nI 8))]) hx hb dX4_placeOf_40 hl (k := 1) rfl (n_inc1 _) (by decide) rfl (fun ls hl => ?_)
                  refine lv_goto (tgt := 14) hx hb dX4_placeOf_43 (by decide) ?_
                  exact ih14 (i + 1) (n + 1) _ _ _ (by omega) (by rw [fb_ct_succ, ← hn]; simp [fr, c30]) (by omega) hP hD hS (lv_sub hl [0, 1, 2, 3, 4] rfl)
          exact LP14 _ 0 0 _ _ _ (by omega) (rfl) (Nat.lt_succ_self _) hP hD hS (lv_sub hl [0, 1, 2, 3, 4] rfl)
    exact LP2 _ 0 _ _ _ (by omega) (rfl) (Nat.lt_succ_self _) hP hD hS (lv_sub hl [0, 1, 2] rfl)
  ·
    skip
    refine lv_iconst (v := (nI 0)) hx hb dX4_placeOf_0 (by decide) ?_
    refine lv_istore_n (lv' := [(2, .int (nI 0)), (0, .ref (h 0)), (1, .int (nI 16))]) hx hb dX4_placeOf_1 rfl hl (by decide) rfl (fun ls hl => ?_)
    have LP2 : ∀ (nn : Nat) (q : Nat) (H : Heap) (locs : List Loc) (ls : Array Slot), q ≤ 20 → ls1 (plq now 16) 20 0 = ls1 (plq now 16) (20 - q) q → 20 - q < nn → va_P D vwCl (MW h cI now past pasts bef tri tex typed ati) H → va_D A0 (MW h cI now past pasts bef tri tex typed ati) → va_S A0 s0.heap H locs → lv_has ls 5 [(2, .int (nI (16 * q))), (0, .ref (h 0)), (1, .int (nI 16))] → W P0 l e0 { frames := 0, cells := 0, slots := 0, locals := 0 } s0 m0 a0 b0 t0 c0 H locs 0 0 Q0 (F0 m0 2 ls []) := by
      intro nn
      induction nn with
      | zero => intro q H locs ls hq ha hmu; exact absurd hmu (Nat.not_lt_zero _)
      | succ nn ih2 =>
        intro q H locs ls hq ha hmu2 hP hD hS hl
        refine lv_iload_n hx hb dX4_placeOf_2 rfl (lv_at hl 0 rfl) ?_
        refine lv_sipush (v := (nI 320)) hx hb dX4_placeOf_3 (by decide) ?_
        refine lv_icmp_ge (tgt := 60) hx hb dX4_placeOf_6 (by decide) (fun c6 => ?_) (fun c6 => ?_)
        · skip
          replace c6 : 320 ≤ (16 * q) := by rw [nI_leI (by omega) (by omega)] at c6; exact c6
          refine lv_bipush (v := (-9)) hx hb dX4_placeOf_60 (by decide) ?_
          exact RETN _ _ (-9) () _ _ dX4_placeOf_62 (rfl) (by unfold pl; rw [show 320 / 16 = 20 from rfl, ha, ls1_end _ (by omega)]; rfl) hP hD hS
        · skip
          replace c6 : ¬ (320 ≤ (16 * q)) := by rw [nI_leI (by omega) (by omega)] at c6; exact c6
          refine lv_iconst (v := (nI 0)) hx hb dX4_placeOf_9 (by decide) ?_
          refine lv_istore_n (lv' := [(3, .int (nI 0)), (2, .int (nI (16 * q))), (0, .ref (h 0)), (1, .int (nI 16))]) hx hb dX4_placeOf_10 rfl hl (by decide) rfl (fun ls hl => ?_)
          refine lv_iload_n hx hb dX4_placeOf_11 rfl (lv_at hl 1 rfl) ?_
          refine lv_istore (lv' := [(4, .int (nI (16 * q))), (3, .int (nI 0)), (2, .int (nI (16 * q))), (0, .ref (h 0)), (1, .int (nI 16))]) hx hb dX4_placeOf_12 hl (by decide) rfl (fun ls hl => ?_)
          have LP14 : ∀ (nn : Nat) (i : Nat) (n : Nat) (H : Heap) (locs : List Loc) (ls : Array Slot), i ≤ 16 → n = fb_ct (fun i => fr now (16 * q + i)) i → 16 - i < nn → va_P D vwCl (MW h cI now past pasts bef tri tex typed ati) H → va_D A0 (MW h cI now past pasts bef tri tex typed ati) → va_S A0 s0.heap H locs → lv_has ls 5 [(4, .int (nI (16 * q + i))), (3, .int (nI n)), (2, .int (nI (16 * q))), (0, .ref (h 0)), (1, .int (nI 16))] → W P0 l e0 { frames := 0, cells := 0, slots := 0, locals := 0 } s0 m0 a0 b0 t0 c0 H locs 0 0 Q0 (F0 m0 14 ls []) := by
            intro nn
            induction nn with
            | zero => intro i n H locs ls hi hn hmu; exact absurd hmu (Nat.not_lt_zero _)
            | succ nn ih14 =>
              intro i n H locs ls hi hn hmu14 hP hD hS hl
              have hnl := fb_ct_le (fun i => fr now (16 * q + i)) i
              refine lv_iload hx hb dX4_placeOf_14 (lv_at hl 0 rfl) ?_
              refine lv_iload_n hx hb dX4_placeOf_16 rfl (lv_at hl 2 rfl) ?_
              refine lv_iload_n hx hb dX4_placeOf_17 rfl (lv_at hl 4 rfl) ?_
              refine lv_iadd hx hb dX4_placeOf_18 ?_
              refine n_as (x' := nI ((16 * q) + 16)) (nI_add _ _) ?_
              refine lv_icmp_ge (tgt := 46) hx hb dX4_placeOf_19 (by decide) (fun c19 => ?_) (fun c19 => ?_)
              · skip
                replace c19 : ((16 * q) + 16) ≤ (16 * q + i) := by rw [nI_leI (by omega) (by omega)] at c19; exact c19
                have hn4 : n = fb_ct (fun i => fr now (16 * q + i)) 16 := by rw [hn, show i = 16 by omega]
                refine lv_iload_n hx hb dX4_placeOf_46 rfl (lv_at hl 1 rfl) ?_
                refine lv_iload_n hx hb dX4_placeOf_47 rfl (lv_at hl 4 rfl) ?_
                refine lv_icmp_ne (tgt := 53) hx hb dX4_placeOf_48 (by decide) (fun c48 => ?_) (fun c48 => ?_)
                · skip
                  replace c48 : ¬ n = 16 := by rw [nI_eq (by omega) (by omega)] at c48; exact c48
                  refine lv_iload_n hx hb dX4_placeOf_53 rfl (lv_at hl 2 rfl) ?_
                  refine lv_iload_n hx hb dX4_placeOf_54 rfl (lv_at hl 4 rfl) ?_
                  refine lv_iadd hx hb dX4_placeOf_55 ?_
                  refine n_as (x' := (nI (16 * (q + 1)))) (by rw [nI_add]; exact congrArg nI (by omega)) ?_
                  refine lv_istore_n (lv' := [(2, .int (nI (16 * (q + 1)))), (4, .int (nI (16 * q + i))), (3, .int (nI n)), (0, .ref (h 0)), (1, .int (nI 16))]) hx hb dX4_placeOf_56 rfl hl (by decide) rfl (fun ls hl => ?_)
                  refine lv_goto (tgt := 2) hx hb dX4_placeOf_57 (by decide) ?_
                  exact ih2 (q + 1) _ _ _ (by omega) (by rw [ha, ls1_no (by omega) (by unfold plq; rw [← hn4]; exact decide_eq_false (by omega))]) (by omega) hP hD hS (lv_sub hl [0, 3, 4] rfl)
                · skip
                  replace c48 : n = 16 := by rw [nI_eq (by omega) (by omega)] at c48; exact c48
                  refine lv_iload_n hx hb dX4_placeOf_51 rfl (lv_at hl 2 rfl) ?_
                  exact RETN _ _ (nI (16 * q)) () _ _ dX4_placeOf_52 (rfl) (by unfold pl; rw [show 320 / 16 = 20 from rfl, ha, ls1_yes (by omega) (by unfold plq; rw [← hn4]; exact decide_eq_true (by omega))]; rfl) hP hD hS
              · skip
                replace c19 : ¬ (((16 * q) + 16) ≤ (16 * q + i)) := by rw [nI_leI (by omega) (by omega)] at c19; exact c19
                refine lv_iload_n hx hb dX4_placeOf_22 rfl (lv_at hl 1 rfl) ?_
                refine lv_aload_n hx hb dX4_placeOf_23 rfl (lv_at hl 3 rfl) ?_
                refine va_get (D := D) (ci := 4) (v := .ref (h 1)) (C := RX4) (T := TX4) (N := 8) hx hb hts hI4 hown hK.1 hP 0 rfl rfl 0 (by decide) lk7 (fun _ h9 => h9) rfl dX4_placeOf_24 ?_
                refine lv_iload hx hb dX4_placeOf_27 (lv_at hl 0 rfl) ?_
                refine n_iald hx hb hK hP 1 0 rfl rfl (by decide) (by omega) dX4_placeOf_29 ?_
                refine lv_if_ne (tgt := 37) hx hb dX4_placeOf_30 (by decide) (fun c30 => ?_) (fun c30 => ?_)
                · skip
                  replace c30 : ¬ (now (16 * q + i)) = nI 0 := c30
                  refine lv_iconst (v := (nI 0)) hx hb dX4_placeOf_37 (by decide) ?_
                  refine lv_iadd hx hb dX4_placeOf_38 ?_
                  refine n_as (x' := nI (n + 0)) (nI_add _ _) ?_
                  refine lv_istore_n (lv' := [(3, .int (nI (n + 0))), (4, .int (nI (16 * q + i))), (2, .int (nI (16 * q))), (0, .ref (h 0)), (1, .int (nI 16))]) hx hb dX4_placeOf_39 rfl hl (by decide) rfl (fun ls hl => ?_)
                  refine lv_iinc (v := (nI ((16 * q + i) + 1))) (lv' := [(4, .int (nI ((16 * q + i) + 1))), (3, .int (nI (n + 0))), (2, .int (nI (16 * q))), (0, .ref (h 0)), (1, .int (nI 16))]) hx hb dX4_placeOf_40 hl (k := 1) rfl (n_inc1 _) (by decide) rfl (fun ls hl => ?_)
                  refine lv_goto (tgt := 14) hx hb dX4_placeOf_43 (by decide) ?_
                  exact ih14 (i + 1) (n + 0) _ _ _ (by omega) (by rw [fb_ct_succ, ← hn]; simp [fr, c30]) (by omega) hP hD hS (lv_sub hl [0, 1, 2, 3, 4] rfl)
                · skip
                  replace c30 : (now (16 * q + i)) = nI 0 := c30
                  refine lv_iconst (v := (nI 1)) hx hb dX4_placeOf_33 (by decide) ?_
                  refine lv_goto (tgt := 38) hx hb dX4_placeOf_34 (by decide) ?_
                  refine lv_iadd hx hb dX4_placeOf_38 ?_
                  refine n_as (x' := nI (n + 1)) (nI_add _ _) ?_
                  refine lv_istore_n (lv' := [(3, .int (nI (n + 1))), (4, .int (nI (16 * q + i))), (2, .int (nI (16 * q))), (0, .ref (h 0)), (1, .int (nI 16))]) hx hb dX4_placeOf_39 rfl hl (by decide) rfl (fun ls hl => ?_)
                  refine lv_iinc (v := (nI ((16 * q + i) + 1))) (lv' := [(4, .int (nI ((16 * q + i) + 1))), (3, .int (nI (n + 1))), (2, .int (nI (16 * q))), (0, .ref (h 0)), (1, .int (nI 16))]) hx hb dX4_placeOf_40 hl (k := 1) rfl (n_inc1 _) (by decide) rfl (fun ls hl => ?_)
                  refine lv_goto (tgt := 14) hx hb dX4_placeOf_43 (by decide) ?_
                  exact ih14 (i + 1) (n + 1) _ _ _ (by omega) (by rw [fb_ct_succ, ← hn]; simp [fr, c30]) (by omega) hP hD hS (lv_sub hl [0, 1, 2, 3, 4] rfl)
          exact LP14 _ 0 0 _ _ _ (by omega) (rfl) (Nat.lt_succ_self _) hP hD hS (lv_sub hl [0, 1, 2, 3, 4] rfl)
    exact LP2 _ 0 _ _ _ (by omega) (rfl) (Nat.lt_succ_self _) hP hD hS (lv_sub hl [0, 1, 2] rfl)
  ·
    skip
    refine lv_iconst (v := (nI 0)) hx hb dX4_placeOf_0 (by decide) ?_
    refine lv_istore_n (lv' := [(2, .int (nI 0)), (0, .ref (h 0)), (1, .int (nI 32))]) hx hb dX4_placeOf_1 rfl hl (by decide) rfl (fun ls hl => ?_)
    have LP2 : ∀ (nn : Nat) (q : Nat) (H : Heap) (locs : List Loc) (ls : Array Slot), q ≤ 10 → ls1 (plq now 32) 10 0 = ls1 (plq now 32) (10 - q) q → 10 - q < nn → va_P D vwCl (MW h cI now past pasts bef tri tex typed ati) H → va_D A0 (MW h cI now past pasts bef tri tex typed ati) → va_S A0 s0.heap H locs → lv_has ls 5 [(2, .int (nI (32 * q))), (0, .ref (h 0)), (1, .int (nI 32))] → W P0 l e0 { frames := 0, cells := 0, slots := 0, locals := 0 } s0 m0 a0 b0 t0 c0 H locs 0 0 Q0 (F0 m0 2 ls []) := by
      intro nn
      induction nn with
      | zero => intro q H locs ls hq ha hmu; exact absurd hmu (Nat.not_lt_zero _)
      | succ nn ih2 =>
        intro q H locs ls hq ha hmu2 hP hD hS hl
        refine lv_iload_n hx hb dX4_placeOf_2 rfl (lv_at hl 0 rfl) ?_
        refine lv_sipush (v := (nI 320)) hx hb dX4_placeOf_3 (by decide) ?_
        refine lv_icmp_ge (tgt := 60) hx hb dX4_placeOf_6 (by decide) (fun c6 => ?_) (fun c6 => ?_)
        · skip
          replace c6 : 320 ≤ (32 * q) := by rw [nI_leI (by omega) (by omega)] at c6; exact c6
          refine lv_bipush (v := (-9)) hx hb dX4_placeOf_60 (by decide) ?_
          exact RETN _ _ (-9) () _ _ dX4_placeOf_62 (rfl) (by unfold pl; rw [show 320 / 32 = 10 from rfl, ha, ls1_end _ (by omega)]; rfl) hP hD hS
        · skip
          replace c6 : ¬ (320 ≤ (32 * q)) := by rw [nI_leI (by omega) (by omega)] at c6; exact c6
          refine lv_iconst (v := (nI 0)) hx hb dX4_placeOf_9 (by decide) ?_
          refine lv_istore_n (lv' := [(3, .int (nI 0)), (2, .int (nI (32 * q))), (0, .ref (h 0)), (1, .int (nI 32))]) hx hb dX4_placeOf_10 rfl hl (by decide) rfl (fun ls hl => ?_)
          refine lv_iload_n hx hb dX4_placeOf_11 rfl (lv_at hl 1 rfl) ?_
          refine lv_istore (lv' := [(4, .int (nI (32 * q))), (3, .int (nI 0)), (2, .int (nI (32 * q))), (0, .ref (h 0)), (1, .int (nI 32))]) hx hb dX4_placeOf_12 hl (by decide) rfl (fun ls hl => ?_)
          have LP14 : ∀ (nn : Nat) (i : Nat) (n : Nat) (H : Heap) (locs : List Loc) (ls : Array Slot), i ≤ 32 → n = fb_ct (fun i => fr now (32 * q + i)) i → 32 - i < nn → va_P D vwCl (MW h cI now past pasts bef tri tex typed ati) H → va_D A0 (MW h cI now past pasts bef tri tex typed ati) → va_S A0 s0.heap H locs → lv_has ls 5 [(4, .int (nI (32 * q + i))), (3, .int (nI n)), (2, .int (nI (32 * q))), (0, .ref (h 0)), (1, .int (nI 32))] → W P0 l e0 { frames := 0, cells := 0, slots := 0, locals := 0 } s0 m0 a0 b0 t0 c0 H locs 0 0 Q0 (F0 m0 14 ls []) := by
            intro nn
            induction nn with
            | zero => intro i n H locs ls hi hn hmu; exact absurd hmu (Nat.not_lt_zero _)
            | succ nn ih14 =>
              intro i n H locs ls hi hn hmu14 hP hD hS hl
              have hnl := fb_ct_le (fun i => fr now (32 * q + i)) i
              refine lv_iload hx hb dX4_placeOf_14 (lv_at hl 0 rfl) ?_
              refine lv_iload_n hx hb dX4_placeOf_16 rfl (lv_at hl 2 rfl) ?_
              refine lv_iload_n hx hb dX4_placeOf_17 rfl (lv_at hl 4 rfl) ?_
              refine lv_iadd hx hb dX4_placeOf_18 ?_
              refine n_as (x' := nI ((32 * q) + 32)) (nI_add _ _) ?_
              refine lv_icmp_ge (tgt := 46) hx hb dX4_placeOf_19 (by decide) (fun c19 => ?_) (fun c19 => ?_)
              · skip
                replace c19 : ((32 * q) + 32) ≤ (32 * q + i) := by rw [nI_leI (by omega) (by omega)] at c19; exact c19
                have hn4 : n = fb_ct (fun i => fr now (32 * q + i)) 32 := by rw [hn, show i = 32 by omega]
                refine lv_iload_n hx hb dX4_placeOf_46 rfl (lv_at hl 1 rfl) ?_
                refine lv_iload_n hx hb dX4_placeOf_47 rfl (lv_at hl 4 rfl) ?_
                refine lv_icmp_ne (tgt := 53) hx hb dX4_placeOf_48 (by decide) (fun c48 => ?_) (fun c48 => ?_)
                · skip
                  replace c48 : ¬ n = 32 := by rw [nI_eq (by omega) (by omega)] at c48; exact c48
                  refine lv_iload_n hx hb dX4_placeOf_53 rfl (lv_at hl 2 rfl) ?_
                  refine lv_iload_n hx hb dX4_placeOf_54 rfl (lv_at hl 4 rfl) ?_
                  refine lv_iadd hx hb dX4_placeOf_55 ?_
                  refine n_as (x' := (nI (32 * (q + 1)))) (by rw [nI_add]; exact congrArg nI (by omega)) ?_
                  refine lv_istore_n (lv' := [(2, .int (nI (32 * (q + 1)))), (4, .int (nI (32 * q + i))), (3, .int (nI n)), (0, .ref (h 0)), (1, .int (nI 32))]) hx hb dX4_placeOf_56 rfl hl (by decide) rfl (fun ls hl => ?_)
                  refine lv_goto (tgt := 2) hx hb dX4_placeOf_57 (by decide) ?_
                  exact ih2 (q + 1) _ _ _ (by omega) (by rw [ha, ls1_no (by omega) (by unfold plq; rw [← hn4]; exact decide_eq_false (by omega))]) (by omega) hP hD hS (lv_sub hl [0, 3, 4] rfl)
                · skip
                  replace c48 : n = 32 := by rw [nI_eq (by omega) (by omega)] at c48; exact c48
                  refine lv_iload_n hx hb dX4_placeOf_51 rfl (lv_at hl 2 rfl) ?_
                  exact RETN _ _ (nI (32 * q)) () _ _ dX4_placeOf_52 (rfl) (by unfold pl; rw [show 320 / 32 = 10 from rfl, ha, ls1_yes (by omega) (by unfold plq; rw [← hn4]; exact decide_eq_true (by omega))]; rfl) hP hD hS
              · skip
                replace c19 : ¬ (((32 * q) + 32) ≤ (32 * q + i)) := by rw [nI_leI (by omega) (by omega)] at c19; exact c19
                refine lv_iload_n hx hb dX4_placeOf_22 rfl (lv_at hl 1 rfl) ?_
                refine lv_aload_n hx hb dX4_placeOf_23 rfl (lv_at hl 3 rfl) ?_
                refine va_get (D := D) (ci := 4) (v := .ref (h 1)) (C := RX4) (T := TX4) (N := 8) hx hb hts hI4 hown hK.1 hP 0 rfl rfl 0 (by decide) lk7 (fun _ h9 => h9) rfl dX4_placeOf_24 ?_
                refine lv_iload hx hb dX4_placeOf_27 (lv_at hl 0 rfl) ?_
                refine n_iald hx hb hK hP 1 0 rfl rfl (by decide) (by omega) dX4_placeOf_29 ?_
                refine lv_if_ne (tgt := 37) hx hb dX4_placeOf_30 (by decide) (fun c30 => ?_) (fun c30 => ?_)
                · skip
                  replace c30 : ¬ (now (32 * q + i)) = nI 0 := c30
                  refine lv_iconst (v := (nI 0)) hx hb dX4_placeOf_37 (by decide) ?_
                  refine lv_iadd hx hb dX4_placeOf_38 ?_
                  refine n_as (x' := nI (n + 0)) (nI_add _ _) ?_
                  refine lv_istore_n (lv' := [(3, .int (nI (n + 0))), (4, .int (nI (32 * q + i))), (2, .int (nI (32 * q))), (0, .ref (h 0)), (1, .int (nI 32))]) hx hb dX4_placeOf_39 rfl hl (by decide) rfl (fun ls hl => ?_)
                  refine lv_iinc (v := (nI ((32 * q + i) + 1))) (lv' := [(4, .int (nI ((32 * q + i) + 1))), (3, .int (nI (n + 0))), (2, .int (nI (32 * q))), (0, .ref (h 0)), (1, .int (nI 32))]) hx hb dX4_placeOf_40 hl (k := 1) rfl (n_inc1 _) (by decide) rfl (fun ls hl => ?_)
                  refine lv_goto (tgt := 14) hx hb dX4_placeOf_43 (by decide) ?_
                  exact ih14 (i + 1) (n + 0) _ _ _ (by omega) (by rw [fb_ct_succ, ← hn]; simp [fr, c30]) (by omega) hP hD hS (lv_sub hl [0, 1, 2, 3, 4] rfl)
                · skip
                  replace c30 : (now (32 * q + i)) = nI 0 := c30
                  refine lv_iconst (v := (nI 1)) hx hb dX4_placeOf_33 (by decide) ?_
                  refine lv_goto (tgt := 38) hx hb dX4_placeOf_34 (by decide) ?_
                  refine lv_iadd hx hb dX4_placeOf_38 ?_
                  refine n_as (x' := nI (n + 1)) (nI_add _ _) ?_
                  refine lv_istore_n (lv' := [(3, .int (nI (n + 1))), (4, .int (nI (32 * q + i))), (2, .int (nI (32 * q))), (0, .ref (h 0)), (1, .int (nI 32))]) hx hb dX4_placeOf_39 rfl hl (by decide) rfl (fun ls hl => ?_)
                  refine lv_iinc (v := (nI ((32 * q + i) + 1))) (lv' := [(4, .int (nI ((32 * q + i) + 1))), (3, .int (nI (n + 1))), (2, .int (nI (32 * q))), (0, .ref (h 0)), (1, .int (nI 32))]) hx hb dX4_placeOf_40 hl (k := 1) rfl (n_inc1 _) (by decide) rfl (fun ls hl => ?_)
                  refine lv_goto (tgt := 14) hx hb dX4_placeOf_43 (by decide) ?_
                  exact ih14 (i + 1) (n + 1) _ _ _ (by omega) (by rw [fb_ct_succ, ← hn]; simp [fr, c30]) (by omega) hP hD hS (lv_sub hl [0, 1, 2, 3, 4] rfl)
          exact LP14 _ 0 0 _ _ _ (by omega) (rfl) (Nat.lt_succ_self _) hP hD hS (lv_sub hl [0, 1, 2, 3, 4] rfl)
    exact LP2 _ 0 _ _ _ (by omega) (rfl) (Nat.lt_succ_self _) hP hD hS (lv_sub hl [0, 1, 2] rfl)
set_option maxHeartbeats 4000000 in
set_option maxRecDepth 100000 in
theorem c_X4_reserves {l : Launch} {D : va_G} {cI cG cC cR : ClassId} {h : Nat → Nat} {now past bef tri tex : Nat → Int32} {pasts typed ati : Int32} {v : Int32} : CtI l yX4_reserves wsX4_reserves { frames := 3, cells := 0, slots := 0, locals := 67 } D (TY cI cG cC cR) [.ref (h 0), .int v] (MW h cI now past pasts bef tri tex typed ati) (fun (u : Nat → Int32) => MW h cI u past pasts bef tri tex typed ati) (fun (r : Int32) (u : Nat → Int32) => r = (rsA now v).1 ∧ u = (rsA now v).2) := by
  refine CtI.of (cc := cX4_reserves) (maxL := 5) (ty := .int) (by decide) rfl (Nat.le_of_ble_eq_true rfl) ?_
  intro P0 e0 s0 m0 a0 b0 t0 c0 A0 Q0 ls F hK hP hD hA RETN hl
  obtain ⟨hx, hb, hml, hown, hts⟩ := id F
  have hS : va_S A0 s0.heap s0.heap [] := va_S.rf
  have hl : lv_has ls 5 [(0, .ref (h 0)), (1, .int v)] := hl
  have lk7 := hts (.fieldLink RX4 7 "SlotMapsModel" "now" "[I") (by decide +kernel)
  have hI4 : ∀ w ∈ u_ws RX4 TX4 8, w ∈ wsX4_reserves := by decide +kernel
  refine lv_iload_n hx hb dX4_reserves_0 rfl (lv_at hl 1 rfl) ?_
  refine cl_S0 (As := [.int v]) (rest := []) F hK hA hP hD hS (c_X4_isSize) (va_cwS 1 hts gX4_reserves_X4_isSize rfl rfl rfl (by decide +kernel) ⟨Nat.le_of_ble_eq_true rfl, Nat.le_of_ble_eq_true rfl⟩) rfl hl.1 rfl (Nat.le_of_ble_eq_true rfl) ⟨Nat.zero_le _, Nat.zero_le _⟩ dX4_reserves_1 (fun r_1 H locs hw_2 hP hS => ?_)
  try dsimp only at hw_2
  obtain rfl : r_1 = (bI (szB v)) := hw_2
  refine lv_if_ne (tgt := 9) hx hb dX4_reserves_4 (by decide) (fun c4 => ?_) (fun c4 => ?_)
  · skip
    replace c4 : ¬ (bI (szB v)) = nI 0 := c4
    obtain ⟨z, rfl, hz⟩ := szB_t (bI_ct c4)
    have hzl := okz_le hz
    refine lv_iconst (v := (nI 0)) hx hb dX4_reserves_9 (by decide) ?_
    refine lv_istore_n (lv' := [(2, .int (nI 0)), (0, .ref (h 0)), (1, .int (nI z))]) hx hb dX4_reserves_10 rfl hl (by decide) rfl (fun ls hl => ?_)
    have LP11 : ∀ (nn : Nat) (kb : Nat) (H : Heap) (locs : List Loc) (ls : Array Slot), kb ≤ 8 → ub now = ls1 (fun k => decide (¬ 0 < now (650 + 2 * k + 1))) (8 - kb) kb → 8 - kb < nn → va_P D vwCl (MW h cI now past pasts bef tri tex typed ati) H → va_D A0 (MW h cI now past pasts bef tri tex typed ati) → va_S A0 s0.heap H locs → lv_has ls 5 [(2, .int (nI kb)), (0, .ref (h 0)), (1, .int (nI z))] → W P0 l e0 { frames := 3, cells := 0, slots := 0, locals := 67 } s0 m0 a0 b0 t0 c0 H locs 0 0 Q0 (F0 m0 11 ls []) := by
      intro nn
      induction nn with
      | zero => intro kb H locs ls hkb ha hmu; exact absurd hmu (Nat.not_lt_zero _)
      | succ nn ih11 =>
        intro kb H locs ls hkb ha hmu11 hP hD hS hl
        refine lv_aload_n hx hb dX4_reserves_11 rfl (lv_at hl 1 rfl) ?_
        refine lv_iload_n hx hb dX4_reserves_12 rfl (lv_at hl 0 rfl) ?_
        refine cl_Vi (b := (h 0)) (As := [.int (nI kb)]) (rest := []) (wc := MW h cI now past pasts bef tri tex typed ati) (wsN := fun (_ : Unit) => MW h cI now past pasts bef tri tex typed ati) F hK hA hP hD hS (c_X4_isBlock) (cwV 1 hts gX4_reserves_X4_isBlock rfl rfl rfl (by decide +kernel) ⟨Nat.le_of_ble_eq_true rfl, Nat.le_of_ble_eq_true rfl⟩) [0, 1, 2, 3, 4, 5] [] [0, 1, 2, 3, 4, 5] ([]) rfl rfl (fun _ => rfl) (by decide) (by decide) 0 rfl rfl rfl hl.1 rfl (Nat.le_of_ble_eq_true rfl) ⟨Nat.zero_le _, Nat.zero_le _⟩ dX4_reserves_13 (fun r_4 _ H locs hw_3 hP hD hS => ?_)
        try dsimp only at hw_3 hP hD
        obtain rfl : r_4 = (bI (isB now (nI kb))) := hw_3
        refine lv_if_eq (tgt := 25) hx hb dX4_reserves_16 (by decide) (fun c16 => ?_) (fun c16 => ?_)
        · skip
          replace c16 : (bI (isB now (nI kb))) = nI 0 := c16
          have hb0 := bI_cf c16
          refine lv_aload_n hx hb dX4_reserves_25 rfl (lv_at hl 1 rfl) ?_
          refine lv_iload_n hx hb dX4_reserves_26 rfl (lv_at hl 2 rfl) ?_
          refine cl_Vi (b := (h 0)) (As := [.int (nI z)]) (rest := []) (wc := MW h cI now past pasts bef tri tex typed ati) (wsN := fun (_ : Unit) => MW h cI now past pasts bef tri tex typed ati) F hK hA hP hD hS (c_X4_placeOf hz) (cwV 1 hts gX4_reserves_X4_placeOf rfl rfl rfl (by decide +kernel) ⟨Nat.le_of_ble_eq_true rfl, Nat.le_of_ble_eq_true rfl⟩) [0, 1, 2, 3, 4, 5] [] [0, 1, 2, 3, 4, 5] ([]) rfl rfl (fun _ => rfl) (by decide) (by decide) 0 rfl rfl rfl hl.1 rfl (Nat.le_of_ble_eq_true rfl) ⟨Nat.zero_le _, Nat.zero_le _⟩ dX4_reserves_27 (fun rr _ H locs hw_5 hP hD hS => ?_)
          try dsimp only at hw_5 hP hD
          have hrr : rr = oI (pl now z) := hw_5
          cases ho : pl now z with
          | none =>
            obtain rfl : rr = -9 := by rw [hrr, ho]; rfl
            refine lv_istore_n (lv' := [(3, .int (-9)), (2, .int (nI kb)), (0, .ref (h 0)), (1, .int (nI z))]) hx hb dX4_reserves_30 rfl hl (by decide) rfl (fun ls hl => ?_)
            refine lv_iload_n hx hb dX4_reserves_31 rfl (lv_at hl 1 rfl) ?_
            refine lv_bipush (v := (nI 8)) hx hb dX4_reserves_32 (by decide) ?_
            refine lv_icmp_eq (tgt := 43) hx hb dX4_reserves_34 (by decide) (fun c34 => ?_) (fun c34 => ?_)
            · skip
              replace c34 : kb = 8 := by rw [nI_eq (by omega) (by omega)] at c34; exact c34
              refine lv_bipush (v := (-3)) hx hb dX4_reserves_43 (by decide) ?_
              exact RETN _ _ (-3) now _ _ dX4_reserves_45 (rfl) (by rw [rsA_0 hz (by first | exact Or.inr ho | exact Or.inl (by rw [ha, ls1_end _ (by omega)]))]; exact ⟨rfl, rfl⟩) hP hD hS
            · skip
              replace c34 : ¬ (kb = 8) := by rw [nI_eq (by omega) (by omega)] at c34; exact c34
              refine lv_iload_n hx hb dX4_reserves_37 rfl (lv_at hl 0 rfl) ?_
              refine lv_bipush (v := (-9)) hx hb dX4_reserves_38 (by decide) ?_
              refine lv_icmp_ne (tgt := 46) hx hb dX4_reserves_40 (by decide) (fun c40 => ?_) (fun c40 => ?_)
              · skip
                exfalso
                exact c40 rfl
              · skip
                refine lv_bipush (v := (-3)) hx hb dX4_reserves_43 (by decide) ?_
                exact RETN _ _ (-3) now _ _ dX4_reserves_45 (rfl) (by rw [rsA_0 hz (by first | exact Or.inr ho | exact Or.inl (by rw [ha, ls1_end _ (by omega)]))]; exact ⟨rfl, rfl⟩) hP hD hS
          | some p =>
            obtain rfl : rr = nI p := by rw [hrr, ho]; rfl
            obtain ⟨hp1, hp2, hp3⟩ := pl_ok hz ho
            refine lv_istore_n (lv' := [(3, .int (nI p)), (2, .int (nI kb)), (0, .ref (h 0)), (1, .int (nI z))]) hx hb dX4_reserves_30 rfl hl (by decide) rfl (fun ls hl => ?_)
            refine lv_iload_n hx hb dX4_reserves_31 rfl (lv_at hl 1 rfl) ?_
            refine lv_bipush (v := (nI 8)) hx hb dX4_reserves_32 (by decide) ?_
            refine lv_icmp_eq (tgt := 43) hx hb dX4_reserves_34 (by decide) (fun c34 => ?_) (fun c34 => ?_)
            · skip
              replace c34 : kb = 8 := by rw [nI_eq (by omega) (by omega)] at c34; exact c34
              refine lv_bipush (v := (-3)) hx hb dX4_reserves_43 (by decide) ?_
              exact RETN _ _ (-3) now _ _ dX4_reserves_45 (rfl) (by rw [rsA_0 hz (by first | exact Or.inr ho | exact Or.inl (by rw [ha, ls1_end _ (by omega)]))]; exact ⟨rfl, rfl⟩) hP hD hS
            · skip
              replace c34 : ¬ (kb = 8) := by rw [nI_eq (by omega) (by omega)] at c34; exact c34
              refine lv_iload_n hx hb dX4_reserves_37 rfl (lv_at hl 0 rfl) ?_
              refine lv_bipush (v := (-9)) hx hb dX4_reserves_38 (by decide) ?_
              refine lv_icmp_ne (tgt := 46) hx hb dX4_reserves_40 (by decide) (fun c40 => ?_) (fun c40 => ?_)
              · skip
                have hub : ub now = some kb := by rw [ha, ls1_yes (by omega) (by rw [isB_k (by omega)] at hb0; exact decide_eq_true (of_decide_eq_false hb0))]
                refine lv_aload_n hx hb dX4_reserves_46 rfl (lv_at hl 2 rfl) ?_
                refine va_get (D := D) (ci := 4) (v := .ref (h 1)) (C := RX4) (T := TX4) (N := 8) hx hb hts hI4 hown hK.1 hP 0 rfl rfl 0 (by decide) lk7 (fun _ h9 => h9) rfl dX4_reserves_47 ?_
                refine lv_sipush (v := (nI 650)) hx hb dX4_reserves_50 (by decide) ?_
                refine lv_iconst (v := (nI 2)) hx hb dX4_reserves_53 (by decide) ?_
                refine lv_iload_n hx hb dX4_reserves_54 rfl (lv_at hl 1 rfl) ?_
                refine lv_imul hx hb dX4_reserves_55 ?_
                refine n_as (x' := nI (2 * kb)) (pk_mul _ _) ?_
                refine lv_iadd hx hb dX4_reserves_56 ?_
                refine n_as (x' := nI (650 + (2 * kb))) (nI_add _ _) ?_
                refine lv_iload_n hx hb dX4_reserves_57 rfl (lv_at hl 0 rfl) ?_
                refine n_iast hx hb hK hP hD hS 1 0 rfl rfl (by decide) (by omega) dX4_reserves_58 (wsN := MW h cI (upd now (650 + (2 * kb)) (nI p)) past pasts bef tri tex typed ati) rfl (fun H locs hP hD hS => ?_)
                refine lv_aload_n hx hb dX4_reserves_59 rfl (lv_at hl 2 rfl) ?_
                refine va_get (D := D) (ci := 4) (v := .ref (h 1)) (C := RX4) (T := TX4) (N := 8) hx hb hts hI4 hown hK.1 hP 0 rfl rfl 0 (by decide) lk7 (fun _ h9 => h9) rfl dX4_reserves_60 ?_
                refine lv_sipush (v := (nI 650)) hx hb dX4_reserves_63 (by decide) ?_
                refine lv_iconst (v := (nI 2)) hx hb dX4_reserves_66 (by decide) ?_
                refine lv_iload_n hx hb dX4_reserves_67 rfl (lv_at hl 1 rfl) ?_
                refine lv_imul hx hb dX4_reserves_68 ?_
                refine n_as (x' := nI (2 * kb)) (pk_mul _ _) ?_
                refine lv_iadd hx hb dX4_reserves_69 ?_
                refine n_as (x' := nI (650 + (2 * kb))) (nI_add _ _) ?_
                refine lv_iconst (v := (nI 1)) hx hb dX4_reserves_70 (by decide) ?_
                refine lv_iadd hx hb dX4_reserves_71 ?_
                refine n_as (x' := nI ((650 + (2 * kb)) + 1)) (nI_add _ _) ?_
                refine lv_iload_n hx hb dX4_reserves_72 rfl (lv_at hl 3 rfl) ?_
                refine n_iast hx hb hK hP hD hS 1 0 rfl rfl (by decide) (by omega) dX4_reserves_73 (wsN := MW h cI (upd (upd now (650 + (2 * kb)) (nI p)) ((650 + (2 * kb)) + 1) (nI z)) past pasts bef tri tex typed ati) rfl (fun H locs hP hD hS => ?_)
                refine lv_iload_n hx hb dX4_reserves_74 rfl (lv_at hl 0 rfl) ?_
                refine lv_istore (lv' := [(4, .int (nI p)), (3, .int (nI p)), (2, .int (nI kb)), (0, .ref (h 0)), (1, .int (nI z))]) hx hb dX4_reserves_75 hl (by decide) rfl (fun ls hl => ?_)
                have LP77 : ∀ (nn : Nat) (i : Nat) (g : Nat → Int32) (H : Heap) (locs : List Loc) (ls : Array Slot), i ≤ z → g = rsF (blk now kb p z) kb p i → z - i < nn → va_P D vwCl (MW h cI g past pasts bef tri tex typed ati) H → va_D A0 (MW h cI g past pasts bef tri tex typed ati) → va_S A0 s0.heap H locs → lv_has ls 5 [(4, .int (nI (p + i))), (3, .int (nI p)), (2, .int (nI kb)), (0, .ref (h 0)), (1, .int (nI z))] → W P0 l e0 { frames := 3, cells := 0, slots := 0, locals := 67 } s0 m0 a0 b0 t0 c0 H locs 0 0 Q0 (F0 m0 77 ls []) := by
                  intro nn
                  induction nn with
                  | zero => intro i g H locs ls hi hg hmu; exact absurd hmu (Nat.not_lt_zero _)
                  | succ nn ih77 =>
                    intro i g H locs ls hi hg hmu77 hP hD hS hl
                    refine lv_iload hx hb dX4_reserves_77 (lv_at hl 0 rfl) ?_
                    refine lv_iload_n hx hb dX4_reserves_79 rfl (lv_at hl 1 rfl) ?_
                    refine lv_iload_n hx hb dX4_reserves_80 rfl (lv_at hl 4 rfl) ?_
                    refine lv_iadd hx hb dX4_reserves_81 ?_
                    refine n_as (x' := nI (p + z)) (nI_add _ _) ?_
                    refine lv_icmp_ge (tgt := 112) hx hb dX4_reserves_82 (by decide) (fun c82 => ?_) (fun c82 => ?_)
                    · skip
                      replace c82 : (p + z) ≤ (p + i) := by rw [nI_leI (by omega) (by omega)] at c82; exact c82
                      refine lv_iload_n hx hb dX4_reserves_112 rfl (lv_at hl 2 rfl) ?_
                      exact RETN _ _ (nI kb) g _ _ dX4_reserves_113 (rfl) (by rw [rsA_s hz hub ho]; exact ⟨rfl, by rw [hg, show i = z by omega]⟩) hP hD hS
                    · skip
                      replace c82 : ¬ ((p + z) ≤ (p + i)) := by rw [nI_leI (by omega) (by omega)] at c82; exact c82
                      refine lv_aload_n hx hb dX4_reserves_85 rfl (lv_at hl 3 rfl) ?_
                      refine va_get (D := D) (ci := 4) (v := .ref (h 1)) (C := RX4) (T := TX4) (N := 8) hx hb hts hI4 hown hK.1 hP 0 rfl rfl 0 (by decide) lk7 (fun _ h9 => h9) rfl dX4_reserves_86 ?_
                      refine lv_sipush (v := (nI 320)) hx hb dX4_reserves_89 (by decide) ?_
                      refine lv_iload hx hb dX4_reserves_92 (lv_at hl 0 rfl) ?_
                      refine lv_iadd hx hb dX4_reserves_94 ?_
                      refine n_as (x' := nI (320 + (p + i))) (nI_add _ _) ?_
                      refine lv_iload_n hx hb dX4_reserves_95 rfl (lv_at hl 2 rfl) ?_
                      refine lv_iconst (v := (nI 1)) hx hb dX4_reserves_96 (by decide) ?_
                      refine lv_iadd hx hb dX4_reserves_97 ?_
                      refine n_as (x' := nI (kb + 1)) (nI_add _ _) ?_
                      refine n_iast hx hb hK hP hD hS 1 0 rfl rfl (by decide) (by omega) dX4_reserves_98 (wsN := MW h cI (upd g (320 + (p + i)) (nI (kb + 1))) past pasts bef tri tex typed ati) rfl (fun H locs hP hD hS => ?_)
                      refine lv_aload_n hx hb dX4_reserves_99 rfl (lv_at hl 3 rfl) ?_
                      refine lv_iload hx hb dX4_reserves_100 (lv_at hl 0 rfl) ?_
                      refine lv_iconst (v := (nI 3)) hx hb dX4_reserves_102 (by decide) ?_
                      refine cl_Vv (b := (h 0)) (As := [.int (nI (p + i)), .int (nI 3)]) (rest := []) (wc := MW h cI (upd g (320 + (p + i)) (nI (kb + 1))) past pasts bef tri tex typed ati) (wsN := fun (_ : Unit) => MW h cI (bc1 (upd g (320 + (p + i)) (nI (kb + 1))) (p + i) (nI 3)) past pasts bef tri tex typed ati) F hK hA hP hD hS (c_X4_becomes (by omega)) (cwV 2 hts gX4_reserves_X4_becomes rfl rfl rfl (by decide +kernel) ⟨Nat.le_of_ble_eq_true rfl, Nat.le_of_ble_eq_true rfl⟩) [0, 1, 2, 3, 4, 5] [] [0, 1, 2, 3, 4, 5] ([]) rfl rfl (fun _ => rfl) (by decide) (by decide) 0 rfl rfl rfl hl.1 rfl (Nat.le_of_ble_eq_true rfl) ⟨Nat.zero_le _, Nat.zero_le _⟩ dX4_reserves_103 (fun _ H locs hw_7 hP hD hS => ?_)
                      try dsimp only at hw_7 hP hD
                      refine lv_iinc (v := (nI ((p + i) + 1))) (lv' := [(4, .int (nI ((p + i) + 1))), (3, .int (nI p)), (2, .int (nI kb)), (0, .ref (h 0)), (1, .int (nI z))]) hx hb dX4_reserves_106 hl (k := 0) rfl (n_inc1 _) (by decide) rfl (fun ls hl => ?_)
                      refine lv_goto (tgt := 77) hx hb dX4_reserves_109 (by decide) ?_
                      exact ih77 (i + 1) (bc1 (upd g (320 + (p + i)) (nI (kb + 1))) (p + i) (nI 3)) _ _ _ (by omega) (rs_s hg (by omega)) (by omega) hP hD hS (lv_sub hl [0, 1, 2, 3, 4] rfl)
                exact LP77 _ 0 (upd (upd now (650 + (2 * kb)) (nI p)) ((650 + (2 * kb)) + 1) (nI z)) _ _ _ (by omega) (rs_0 (blk now kb p z) kb p) (Nat.lt_succ_self _) hP hD hS (lv_sub hl [0, 1, 2, 3, 4] rfl)
              · skip
                exfalso
                exact ne9 (by omega) c40
        · skip
          replace c16 : ¬ (bI (isB now (nI kb))) = nI 0 := c16
          have hk7 : kb ≤ 7 := by
            rcases Nat.lt_or_ge kb 8 with q | q
            · omega
            · rw [show kb = 8 by omega, isB_8] at c16
              exact absurd rfl c16
          have hb1 := bI_ct c16
          rw [isB_k hk7] at hb1
          refine lv_iinc (v := (nI (kb + 1))) (lv' := [(2, .int (nI (kb + 1))), (0, .ref (h 0)), (1, .int (nI z))]) hx hb dX4_reserves_19 hl (k := 0) rfl (n_inc1 _) (by decide) rfl (fun ls hl => ?_)
          refine lv_goto (tgt := 11) hx hb dX4_reserves_22 (by decide) ?_
          exact ih11 (kb + 1) _ _ _ (by omega) (by rw [ha, ls1_no (by omega) (decide_eq_false (fun q => q (of_decide_eq_true hb1)))]) (by omega) hP hD hS (lv_sub hl [0, 1, 2] rfl)
    exact LP11 _ 0 _ _ _ (by omega) (rfl) (Nat.lt_succ_self _) hP hD hS (lv_sub hl [0, 1, 2] rfl)
  · skip
    replace c4 : (bI (szB v)) = nI 0 := c4
    refine lv_iconst (v := (-1)) hx hb dX4_reserves_7 (by decide) ?_
    exact RETN _ _ (-1) now _ _ dX4_reserves_8 (rfl) (by rw [rsA_n (bI_cf c4)]; exact ⟨rfl, rfl⟩) hP hD hS
set_option maxHeartbeats 4000000 in
set_option maxRecDepth 100000 in
theorem c_X4_reserve {l : Launch} {D : va_G} {cI cG cC cR : ClassId} {h : Nat → Nat} {now past bef tri tex : Nat → Int32} {typed ati : Int32} {k : Nat} (hk : k ≤ 5) {v : Int32} : CtI l yX4_reserve wsX4_reserve { frames := 4, cells := 0, slots := 0, locals := 91 } D (TY cI cG cC cR) [.ref (h 0), .int v] (MW h cI now past (nI k) bef tri tex typed ati) (fun (u : Nat → Int32) => MW h cI (fnN now (rsA now v).2 (rsA now v).1) (fnP past k now (rsA now v).1) (nI (fnK k (rsA now v).1)) u tri tex typed ati) (fun (r : Int32) (u : Nat → Int32) => r = (rsA now v).1) := by
  refine CtI.of (cc := cX4_reserve) (maxL := 2) (ty := .int) (by decide) rfl (Nat.le_of_ble_eq_true rfl) ?_
  intro P0 e0 s0 m0 a0 b0 t0 c0 A0 Q0 ls F hK hP hD hA RETN hl
  obtain ⟨hx, hb, hml, hown, hts⟩ := id F
  have hS : va_S A0 s0.heap s0.heap [] := va_S.rf
  have hl : lv_has ls 2 [(0, .ref (h 0)), (1, .int v)] := hl
  refine lv_aload_n hx hb dX4_reserve_0 rfl (lv_at hl 0 rfl) ?_
  refine cl_Vv (b := (h 0)) (As := []) (rest := []) (wc := MW h cI now past (nI k) bef tri tex typed ati) (wsN := fun (_ : Unit) => MW h cI now past (nI k) now tri tex typed ati) F hK hA hP hD hS (c_X4_notes) (cwV 0 hts gX4_reserve_X4_notes rfl rfl rfl (by decide +kernel) ⟨Nat.le_of_ble_eq_true rfl, Nat.le_of_ble_eq_true rfl⟩) [0, 1, 2, 3, 4, 5] [] [0, 1, 2, 3, 4, 5] ([]) rfl rfl (fun _ => rfl) (by decide) (by decide) 0 rfl rfl rfl hl.1 rfl (Nat.le_of_ble_eq_true rfl) ⟨Nat.zero_le _, Nat.zero_le _⟩ dX4_reserve_1 (fun _ H locs hw_1 hP hD hS => ?_)
  try dsimp only at hw_1 hP hD
  refine lv_aload_n hx hb dX4_reserve_4 rfl (lv_at hl 0 rfl) ?_
  refine lv_aload_n hx hb dX4_reserve_5 rfl (lv_at hl 0 rfl) ?_
  refine lv_iload_n hx hb dX4_reserve_6 rfl (lv_at hl 1 rfl) ?_
  refine cl_Vi (b := (h 0)) (As := [.int v]) (rest := [.ref (h 0)]) (wc := MW h cI now past (nI k) now tri tex typed ati) (wsN := fun (u1 : Nat → Int32) => MW h cI u1 past (nI k) now tri tex typed ati) F hK hA hP hD hS (c_X4_reserves) (cwV 1 hts gX4_reserve_X4_reserves rfl rfl rfl (by decide +kernel) ⟨Nat.le_of_ble_eq_true rfl, Nat.le_of_ble_eq_true rfl⟩) [0, 1, 2, 3, 4, 5] [] [0, 1, 2, 3, 4, 5] ([]) rfl rfl (fun _ => rfl) (by decide) (by decide) 0 rfl rfl rfl hl.1 rfl (Nat.le_of_ble_eq_true rfl) ⟨Nat.zero_le _, Nat.zero_le _⟩ dX4_reserve_7 (fun r1 u1 H locs hw_3 hP hD hS => ?_)
  try dsimp only at hw_3 hP hD
  obtain ⟨rfl, rfl⟩ := hw_3
  have hP : va_P D vwCl (MW h cI ((rsA now v).2) past (nI k) now tri tex typed ati) H := hP
  have hD : va_D A0 (MW h cI ((rsA now v).2) past (nI k) now tri tex typed ati) := hD
  refine cl_Vi (b := (h 0)) (As := [.int ((rsA now v).1)]) (rest := []) (wc := MW h cI ((rsA now v).2) past (nI k) now tri tex typed ati) (wsN := fun (_ : Unit) => MW h cI (fnN now (rsA now v).2 (rsA now v).1) (fnP past k now (rsA now v).1) (nI (fnK k (rsA now v).1)) now tri tex typed ati) F hK hA hP hD hS (c_X4_ends hk) (cwV 1 hts gX4_reserve_X4_ends rfl rfl rfl (by decide +kernel) ⟨Nat.le_of_ble_eq_true rfl, Nat.le_of_ble_eq_true rfl⟩) [0, 1, 2, 3, 4, 5] [] [0, 1, 2, 3, 4, 5] ([]) rfl rfl (fun _ => rfl) (by decide) (by decide) 0 rfl rfl rfl hl.1 rfl (Nat.le_of_ble_eq_true rfl) ⟨Nat.zero_le _, Nat.zero_le _⟩ dX4_reserve_10 (fun r_6 _ H locs hw_5 hP hD hS => ?_)
  try dsimp only at hw_5 hP hD
  obtain rfl : r_6 = ((rsA now v).1) := hw_5
  exact RETN _ _ ((rsA now v).1) now _ _ dX4_reserve_13 (rfl) (rfl) hP hD hS
set_option maxHeartbeats 4000000 in
set_option maxRecDepth 100000 in
theorem c_X4_takesIn {l : Launch} {D : va_G} {cI cG cC cR : ClassId} {h : Nat → Nat} {now past bef tri tex : Nat → Int32} {pasts typed ati : Int32} {v : Int32} (hB : BInv now) : CtI l yX4_takesIn wsX4_takesIn { frames := 3, cells := 0, slots := 0, locals := 67 } D (TY cI cG cC cR) [.ref (h 0), .int v] (MW h cI now past pasts bef tri tex typed ati) (fun (u : Nat → Int32) => MW h cI u past pasts bef tri tex typed ati) (fun (r : Int32) (u : Nat → Int32) => r = (tiA now v).1 ∧ u = (tiA now v).2) := by
  refine CtI.of (cc := cX4_takesIn) (maxL := 4) (ty := .int) (by decide) rfl (Nat.le_of_ble_eq_true rfl) ?_
  intro P0 e0 s0 m0 a0 b0 t0 c0 A0 Q0 ls F hK hP hD hA RETN hl
  obtain ⟨hx, hb, hml, hown, hts⟩ := id F
  have hS : va_S A0 s0.heap s0.heap [] := va_S.rf
  have hl : lv_has ls 4 [(0, .ref (h 0)), (1, .int v)] := hl
  have lk7 := hts (.fieldLink RX4 7 "SlotMapsModel" "now" "[I") (by decide +kernel)
  have hI4 : ∀ w ∈ u_ws RX4 TX4 8, w ∈ wsX4_takesIn := by decide +kernel
  refine lv_aload_n hx hb dX4_takesIn_0 rfl (lv_at hl 0 rfl) ?_
  refine lv_iload_n hx hb dX4_takesIn_1 rfl (lv_at hl 1 rfl) ?_
  refine cl_Vi (b := (h 0)) (As := [.int v]) (rest := []) (wc := MW h cI now past pasts bef tri tex typed ati) (wsN := fun (_ : Unit) => MW h cI now past pasts bef tri tex typed ati) F hK hA hP hD hS (c_X4_isBlock) (cwV 1 hts gX4_takesIn_X4_isBlock rfl rfl rfl (by decide +kernel) ⟨Nat.le_of_ble_eq_true rfl, Nat.le_of_ble_eq_true rfl⟩) [0, 1, 2, 3, 4, 5] [] [0, 1, 2, 3, 4, 5] ([]) rfl rfl (fun _ => rfl) (by decide) (by decide) 0 rfl rfl rfl hl.1 rfl (Nat.le_of_ble_eq_true rfl) ⟨Nat.zero_le _, Nat.zero_le _⟩ dX4_takesIn_2 (fun r_2 _ H locs hw_1 hP hD hS => ?_)
  try dsimp only at hw_1 hP hD
  obtain rfl : r_2 = (bI (isB now v)) := hw_1
  refine lv_if_ne (tgt := 10) hx hb dX4_takesIn_5 (by decide) (fun c5 => ?_) (fun c5 => ?_)
  · skip
    replace c5 : ¬ (bI (isB now v)) = nI 0 := c5
    obtain ⟨kb, hkb, rfl, h0⟩ := isB_t (bI_ct c5)
    obtain ⟨p, z, hp, hz, hok, hmod, hpz⟩ := hB kb (by omega) h0
    refine lv_aload_n hx hb dX4_takesIn_10 rfl (lv_at hl 0 rfl) ?_
    refine va_get (D := D) (ci := 4) (v := .ref (h 1)) (C := RX4) (T := TX4) (N := 8) hx hb hts hI4 hown hK.1 hP 0 rfl rfl 0 (by decide) lk7 (fun _ h9 => h9) rfl dX4_takesIn_11 ?_
    refine lv_sipush (v := (nI 650)) hx hb dX4_takesIn_14 (by decide) ?_
    refine lv_iconst (v := (nI 2)) hx hb dX4_takesIn_17 (by decide) ?_
    refine lv_iload_n hx hb dX4_takesIn_18 rfl (lv_at hl 1 rfl) ?_
    refine lv_imul hx hb dX4_takesIn_19 ?_
    refine n_as (x' := nI (2 * kb)) (pk_mul _ _) ?_
    refine lv_iadd hx hb dX4_takesIn_20 ?_
    refine n_as (x' := nI (650 + (2 * kb))) (nI_add _ _) ?_
    refine n_iald hx hb hK hP 1 0 rfl rfl (by decide) (by omega) dX4_takesIn_21 ?_
    refine n_as (x' := (nI p)) (hp) ?_
    refine lv_istore_n (lv' := [(2, .int (nI p)), (0, .ref (h 0)), (1, .int (nI kb))]) hx hb dX4_takesIn_22 rfl hl (by decide) rfl (fun ls hl => ?_)
    refine lv_iload_n hx hb dX4_takesIn_23 rfl (lv_at hl 0 rfl) ?_
    refine lv_istore_n (lv' := [(3, .int (nI p)), (2, .int (nI p)), (0, .ref (h 0)), (1, .int (nI kb))]) hx hb dX4_takesIn_24 rfl hl (by decide) rfl (fun ls hl => ?_)
    have LP25 : ∀ (nn : Nat) (sl : Nat) (H : Heap) (locs : List Loc) (ls : Array Slot), p ≤ sl ∧ sl ≤ p + z → kp now p z = ls1 (fun s => decide (now s = nI 3)) (p + z - sl) sl → p + z - sl < nn → va_P D vwCl (MW h cI now past pasts bef tri tex typed ati) H → va_D A0 (MW h cI now past pasts bef tri tex typed ati) → va_S A0 s0.heap H locs → lv_has ls 4 [(3, .int (nI sl)), (2, .int (nI p)), (0, .ref (h 0)), (1, .int (nI kb))] → W P0 l e0 { frames := 3, cells := 0, slots := 0, locals := 67 } s0 m0 a0 b0 t0 c0 H locs 0 0 Q0 (F0 m0 25 ls []) := by
      intro nn
      induction nn with
      | zero => intro sl H locs ls hs ha hmu; exact absurd hmu (Nat.not_lt_zero _)
      | succ nn ih25 =>
        intro sl H locs ls hs ha hmu25 hP hD hS hl
        refine lv_iload_n hx hb dX4_takesIn_25 rfl (lv_at hl 0 rfl) ?_
        refine lv_iload_n hx hb dX4_takesIn_26 rfl (lv_at hl 1 rfl) ?_
        refine lv_aload_n hx hb dX4_takesIn_27 rfl (lv_at hl 2 rfl) ?_
        refine va_get (D := D) (ci := 4) (v := .ref (h 1)) (C := RX4) (T := TX4) (N := 8) hx hb hts hI4 hown hK.1 hP 0 rfl rfl 0 (by decide) lk7 (fun _ h9 => h9) rfl dX4_takesIn_28 ?_
        refine lv_sipush (v := (nI 650)) hx hb dX4_takesIn_31 (by decide) ?_
        refine lv_iconst (v := (nI 2)) hx hb dX4_takesIn_34 (by decide) ?_
        refine lv_iload_n hx hb dX4_takesIn_35 rfl (lv_at hl 3 rfl) ?_
        refine lv_imul hx hb dX4_takesIn_36 ?_
        refine n_as (x' := nI (2 * kb)) (pk_mul _ _) ?_
        refine lv_iadd hx hb dX4_takesIn_37 ?_
        refine n_as (x' := nI (650 + (2 * kb))) (nI_add _ _) ?_
        refine lv_iconst (v := (nI 1)) hx hb dX4_takesIn_38 (by decide) ?_
        refine lv_iadd hx hb dX4_takesIn_39 ?_
        refine n_as (x' := nI ((650 + (2 * kb)) + 1)) (nI_add _ _) ?_
        refine n_iald hx hb hK hP 1 0 rfl rfl (by decide) (by omega) dX4_takesIn_40 ?_
        refine n_as (x' := (nI z)) (hz) ?_
        refine lv_iadd hx hb dX4_takesIn_41 ?_
        refine n_as (x' := nI (p + z)) (nI_add _ _) ?_
        refine lv_icmp_ge (tgt := 69) hx hb dX4_takesIn_42 (by decide) (fun c42 => ?_) (fun c42 => ?_)
        · skip
          replace c42 : (p + z) ≤ sl := by rw [nI_leI (by omega) (by omega)] at c42; exact c42
          refine lv_bipush (v := (-3)) hx hb dX4_takesIn_69 (by decide) ?_
          exact RETN _ _ (-3) now _ _ dX4_takesIn_71 (rfl) (by rw [tiA_s hkb (bI_ct c5) hp hz hpz, ha, ls1_end _ (by omega)]; exact ⟨rfl, rfl⟩) hP hD hS
        · skip
          replace c42 : ¬ ((p + z) ≤ sl) := by rw [nI_leI (by omega) (by omega)] at c42; exact c42
          refine lv_aload_n hx hb dX4_takesIn_45 rfl (lv_at hl 2 rfl) ?_
          refine va_get (D := D) (ci := 4) (v := .ref (h 1)) (C := RX4) (T := TX4) (N := 8) hx hb hts hI4 hown hK.1 hP 0 rfl rfl 0 (by decide) lk7 (fun _ h9 => h9) rfl dX4_takesIn_46 ?_
          refine lv_iload_n hx hb dX4_takesIn_49 rfl (lv_at hl 0 rfl) ?_
          refine n_iald hx hb hK hP 1 0 rfl rfl (by decide) (by omega) dX4_takesIn_50 ?_
          refine lv_iconst (v := (nI 3)) hx hb dX4_takesIn_51 (by decide) ?_
          refine lv_icmp_ne (tgt := 63) hx hb dX4_takesIn_52 (by decide) (fun c52 => ?_) (fun c52 => ?_)
          · skip
            refine lv_iinc (v := (nI (sl + 1))) (lv' := [(3, .int (nI (sl + 1))), (2, .int (nI p)), (0, .ref (h 0)), (1, .int (nI kb))]) hx hb dX4_takesIn_63 hl (k := 0) rfl (n_inc1 _) (by decide) rfl (fun ls hl => ?_)
            refine lv_goto (tgt := 25) hx hb dX4_takesIn_66 (by decide) ?_
            exact ih25 (sl + 1) _ _ _ (by omega) (by rw [ha, ls1_no (by omega) (decide_eq_false c52)]) (by omega) hP hD hS (lv_sub hl [0, 1, 2, 3] rfl)
          · skip
            refine lv_aload_n hx hb dX4_takesIn_55 rfl (lv_at hl 2 rfl) ?_
            refine lv_iload_n hx hb dX4_takesIn_56 rfl (lv_at hl 0 rfl) ?_
            refine lv_iconst (v := (nI 1)) hx hb dX4_takesIn_57 (by decide) ?_
            refine cl_Vv (b := (h 0)) (As := [.int (nI sl), .int (nI 1)]) (rest := []) (wc := MW h cI now past pasts bef tri tex typed ati) (wsN := fun (_ : Unit) => MW h cI (bc1 now sl (nI 1)) past pasts bef tri tex typed ati) F hK hA hP hD hS (c_X4_becomes (by omega)) (cwV 2 hts gX4_takesIn_X4_becomes rfl rfl rfl (by decide +kernel) ⟨Nat.le_of_ble_eq_true rfl, Nat.le_of_ble_eq_true rfl⟩) [0, 1, 2, 3, 4, 5] [] [0, 1, 2, 3, 4, 5] ([]) rfl rfl (fun _ => rfl) (by decide) (by decide) 0 rfl rfl rfl hl.1 rfl (Nat.le_of_ble_eq_true rfl) ⟨Nat.zero_le _, Nat.zero_le _⟩ dX4_takesIn_58 (fun _ H locs hw_3 hP hD hS => ?_)
            try dsimp only at hw_3 hP hD
            refine lv_iload_n hx hb dX4_takesIn_61 rfl (lv_at hl 0 rfl) ?_
            exact RETN _ _ (nI sl) (bc1 now sl (nI 1)) _ _ dX4_takesIn_62 (rfl) (by rw [tiA_s hkb (bI_ct c5) hp hz hpz, ha, ls1_yes (by omega) (decide_eq_true c52)]; exact ⟨rfl, rfl⟩) hP hD hS
    exact LP25 _ p _ _ _ (by omega) (by unfold kp; rw [show p + z - p = z by omega]) (Nat.lt_succ_self _) hP hD hS (lv_sub hl [0, 1, 2, 3] rfl)
  · skip
    replace c5 : (bI (isB now v)) = nI 0 := c5
    refine lv_iconst (v := (-1)) hx hb dX4_takesIn_8 (by decide) ?_
    exact RETN _ _ (-1) now _ _ dX4_takesIn_9 (rfl) (by rw [tiA_n (bI_cf c5)]; exact ⟨rfl, rfl⟩) hP hD hS
set_option maxHeartbeats 4000000 in
set_option maxRecDepth 100000 in
theorem c_X4_takeIn {l : Launch} {D : va_G} {cI cG cC cR : ClassId} {h : Nat → Nat} {now past bef tri tex : Nat → Int32} {typed ati : Int32} {k : Nat} (hk : k ≤ 5) {v : Int32} (hB : BInv now) : CtI l yX4_takeIn wsX4_takeIn { frames := 4, cells := 0, slots := 0, locals := 90 } D (TY cI cG cC cR) [.ref (h 0), .int v] (MW h cI now past (nI k) bef tri tex typed ati) (fun (u : Nat → Int32) => MW h cI (fnN now (tiA now v).2 (tiA now v).1) (fnP past k now (tiA now v).1) (nI (fnK k (tiA now v).1)) u tri tex typed ati) (fun (r : Int32) (u : Nat → Int32) => r = (tiA now v).1) := by
  refine CtI.of (cc := cX4_takeIn) (maxL := 2) (ty := .int) (by decide) rfl (Nat.le_of_ble_eq_true rfl) ?_
  intro P0 e0 s0 m0 a0 b0 t0 c0 A0 Q0 ls F hK hP hD hA RETN hl
  obtain ⟨hx, hb, hml, hown, hts⟩ := id F
  have hS : va_S A0 s0.heap s0.heap [] := va_S.rf
  have hl : lv_has ls 2 [(0, .ref (h 0)), (1, .int v)] := hl
  refine lv_aload_n hx hb dX4_takeIn_0 rfl (lv_at hl 0 rfl) ?_
  refine cl_Vv (b := (h 0)) (As := []) (rest := []) (wc := MW h cI now past (nI k) bef tri tex typed ati) (wsN := fun (_ : Unit) => MW h cI now past (nI k) now tri tex typed ati) F hK hA hP hD hS (c_X4_notes) (cwV 0 hts gX4_takeIn_X4_notes rfl rfl rfl (by decide +kernel) ⟨Nat.le_of_ble_eq_true rfl, Nat.le_of_ble_eq_true rfl⟩) [0, 1, 2, 3, 4, 5] [] [0, 1, 2, 3, 4, 5] ([]) rfl rfl (fun _ => rfl) (by decide) (by decide) 0 rfl rfl rfl hl.1 rfl (Nat.le_of_ble_eq_true rfl) ⟨Nat.zero_le _, Nat.zero_le _⟩ dX4_takeIn_1 (fun _ H locs hw_1 hP hD hS => ?_)
  try dsimp only at hw_1 hP hD
  refine lv_aload_n hx hb dX4_takeIn_4 rfl (lv_at hl 0 rfl) ?_
  refine lv_aload_n hx hb dX4_takeIn_5 rfl (lv_at hl 0 rfl) ?_
  refine lv_iload_n hx hb dX4_takeIn_6 rfl (lv_at hl 1 rfl) ?_
  refine cl_Vi (b := (h 0)) (As := [.int v]) (rest := [.ref (h 0)]) (wc := MW h cI now past (nI k) now tri tex typed ati) (wsN := fun (u1 : Nat → Int32) => MW h cI u1 past (nI k) now tri tex typed ati) F hK hA hP hD hS (c_X4_takesIn hB) (cwV 1 hts gX4_takeIn_X4_takesIn rfl rfl rfl (by decide +kernel) ⟨Nat.le_of_ble_eq_true rfl, Nat.le_of_ble_eq_true rfl⟩) [0, 1, 2, 3, 4, 5] [] [0, 1, 2, 3, 4, 5] ([]) rfl rfl (fun _ => rfl) (by decide) (by decide) 0 rfl rfl rfl hl.1 rfl (Nat.le_of_ble_eq_true rfl) ⟨Nat.zero_le _, Nat.zero_le _⟩ dX4_takeIn_7 (fun r1 u1 H locs hw_3 hP hD hS => ?_)
  try dsimp only at hw_3 hP hD
  obtain ⟨rfl, rfl⟩ := hw_3
  have hP : va_P D vwCl (MW h cI ((tiA now v).2) past (nI k) now tri tex typed ati) H := hP
  have hD : va_D A0 (MW h cI ((tiA now v).2) past (nI k) now tri tex typed ati) := hD
  refine cl_Vi (b := (h 0)) (As := [.int ((tiA now v).1)]) (rest := []) (wc := MW h cI ((tiA now v).2) past (nI k) now tri tex typed ati) (wsN := fun (_ : Unit) => MW h cI (fnN now (tiA now v).2 (tiA now v).1) (fnP past k now (tiA now v).1) (nI (fnK k (tiA now v).1)) now tri tex typed ati) F hK hA hP hD hS (c_X4_ends hk) (cwV 1 hts gX4_takeIn_X4_ends rfl rfl rfl (by decide +kernel) ⟨Nat.le_of_ble_eq_true rfl, Nat.le_of_ble_eq_true rfl⟩) [0, 1, 2, 3, 4, 5] [] [0, 1, 2, 3, 4, 5] ([]) rfl rfl (fun _ => rfl) (by decide) (by decide) 0 rfl rfl rfl hl.1 rfl (Nat.le_of_ble_eq_true rfl) ⟨Nat.zero_le _, Nat.zero_le _⟩ dX4_takeIn_10 (fun r_6 _ H locs hw_5 hP hD hS => ?_)
  try dsimp only at hw_5 hP hD
  obtain rfl : r_6 = ((tiA now v).1) := hw_5
  exact RETN _ _ ((tiA now v).1) now _ _ dX4_takeIn_13 (rfl) (rfl) hP hD hS
set_option maxHeartbeats 4000000 in
set_option maxRecDepth 100000 in
theorem c_X4_giveUp {l : Launch} {D : va_G} {cI cG cC cR : ClassId} {h : Nat → Nat} {now past bef tri tex : Nat → Int32} {typed ati : Int32} {k : Nat} (hk : k ≤ 5) {v : Int32} (hB : BInv now) : CtI l yX4_giveUp wsX4_giveUp { frames := 3, cells := 0, slots := 0, locals := 67 } D (TY cI cG cC cR) [.ref (h 0), .int v] (MW h cI now past (nI k) bef tri tex typed ati) (fun (u : Nat → Int32) => MW h cI (fnN now (guA now v).2 (guA now v).1) (fnP past k now (guA now v).1) (nI (fnK k (guA now v).1)) u tri tex typed ati) (fun (r : Int32) (u : Nat → Int32) => r = (guA now v).1) := by
  refine CtI.of (cc := cX4_giveUp) (maxL := 5) (ty := .int) (by decide) rfl (Nat.le_of_ble_eq_true rfl) ?_
  intro P0 e0 s0 m0 a0 b0 t0 c0 A0 Q0 ls F hK hP hD hA RETN hl
  obtain ⟨hx, hb, hml, hown, hts⟩ := id F
  have hS : va_S A0 s0.heap s0.heap [] := va_S.rf
  have hl : lv_has ls 5 [(0, .ref (h 0)), (1, .int v)] := hl
  have lk7 := hts (.fieldLink RX4 7 "SlotMapsModel" "now" "[I") (by decide +kernel)
  have hI4 : ∀ w ∈ u_ws RX4 TX4 8, w ∈ wsX4_giveUp := by decide +kernel
  refine lv_aload_n hx hb dX4_giveUp_0 rfl (lv_at hl 0 rfl) ?_
  refine lv_iload_n hx hb dX4_giveUp_1 rfl (lv_at hl 1 rfl) ?_
  refine cl_Vi (b := (h 0)) (As := [.int v]) (rest := []) (wc := MW h cI now past (nI k) bef tri tex typed ati) (wsN := fun (_ : Unit) => MW h cI now past (nI k) bef tri tex typed ati) F hK hA hP hD hS (c_X4_isBlock) (cwV 1 hts gX4_giveUp_X4_isBlock rfl rfl rfl (by decide +kernel) ⟨Nat.le_of_ble_eq_true rfl, Nat.le_of_ble_eq_true rfl⟩) [0, 1, 2, 3, 4, 5] [] [0, 1, 2, 3, 4, 5] ([]) rfl rfl (fun _ => rfl) (by decide) (by decide) 0 rfl rfl rfl hl.1 rfl (Nat.le_of_ble_eq_true rfl) ⟨Nat.zero_le _, Nat.zero_le _⟩ dX4_giveUp_2 (fun r_2 _ H locs hw_1 hP hD hS => ?_)
  try dsimp only at hw_1 hP hD
  obtain rfl : r_2 = (bI (isB now v)) := hw_1
  refine lv_if_ne (tgt := 10) hx hb dX4_giveUp_5 (by decide) (fun c5 => ?_) (fun c5 => ?_)
  · skip
    replace c5 : ¬ (bI (isB now v)) = nI 0 := c5
    obtain ⟨kb, hkb, rfl, h0⟩ := isB_t (bI_ct c5)
    obtain ⟨p, z, hp, hz, hok, hmod, hpz⟩ := hB kb (by omega) h0
    refine lv_aload_n hx hb dX4_giveUp_10 rfl (lv_at hl 0 rfl) ?_
    refine cl_Vv (b := (h 0)) (As := []) (rest := []) (wc := MW h cI now past (nI k) bef tri tex typed ati) (wsN := fun (_ : Unit) => MW h cI now past (nI k) now tri tex typed ati) F hK hA hP hD hS (c_X4_notes) (cwV 0 hts gX4_giveUp_X4_notes rfl rfl rfl (by decide +kernel) ⟨Nat.le_of_ble_eq_true rfl, Nat.le_of_ble_eq_true rfl⟩) [0, 1, 2, 3, 4, 5] [] [0, 1, 2, 3, 4, 5] ([]) rfl rfl (fun _ => rfl) (by decide) (by decide) 0 rfl rfl rfl hl.1 rfl (Nat.le_of_ble_eq_true rfl) ⟨Nat.zero_le _, Nat.zero_le _⟩ dX4_giveUp_11 (fun _ H locs hw_3 hP hD hS => ?_)
    try dsimp only at hw_3 hP hD
    refine lv_iconst (v := (nI 0)) hx hb dX4_giveUp_14 (by decide) ?_
    refine lv_istore_n (lv' := [(2, .int (nI 0)), (0, .ref (h 0)), (1, .int (nI kb))]) hx hb dX4_giveUp_15 rfl hl (by decide) rfl (fun ls hl => ?_)
    refine lv_aload_n hx hb dX4_giveUp_16 rfl (lv_at hl 1 rfl) ?_
    refine va_get (D := D) (ci := 4) (v := .ref (h 1)) (C := RX4) (T := TX4) (N := 8) hx hb hts hI4 hown hK.1 hP 0 rfl rfl 0 (by decide) lk7 (fun _ h9 => h9) rfl dX4_giveUp_17 ?_
    refine lv_sipush (v := (nI 650)) hx hb dX4_giveUp_20 (by decide) ?_
    refine lv_iconst (v := (nI 2)) hx hb dX4_giveUp_23 (by decide) ?_
    refine lv_iload_n hx hb dX4_giveUp_24 rfl (lv_at hl 2 rfl) ?_
    refine lv_imul hx hb dX4_giveUp_25 ?_
    refine n_as (x' := nI (2 * kb)) (pk_mul _ _) ?_
    refine lv_iadd hx hb dX4_giveUp_26 ?_
    refine n_as (x' := nI (650 + (2 * kb))) (nI_add _ _) ?_
    refine n_iald hx hb hK hP 1 0 rfl rfl (by decide) (by omega) dX4_giveUp_27 ?_
    refine n_as (x' := (nI p)) (hp) ?_
    refine lv_istore_n (lv' := [(3, .int (nI p)), (2, .int (nI 0)), (0, .ref (h 0)), (1, .int (nI kb))]) hx hb dX4_giveUp_28 rfl hl (by decide) rfl (fun ls hl => ?_)
    refine lv_iload_n hx hb dX4_giveUp_29 rfl (lv_at hl 0 rfl) ?_
    refine lv_istore (lv' := [(4, .int (nI p)), (3, .int (nI p)), (2, .int (nI 0)), (0, .ref (h 0)), (1, .int (nI kb))]) hx hb dX4_giveUp_30 hl (by decide) rfl (fun ls hl => ?_)
    have LP32 : ∀ (nn : Nat) (i : Nat) (n : Nat) (g : Nat → Int32) (H : Heap) (locs : List Loc) (ls : Array Slot), i ≤ z → n = guN now p i → g = guF now p i → z - i < nn → va_P D vwCl (MW h cI g past (nI k) now tri tex typed ati) H → va_D A0 (MW h cI g past (nI k) now tri tex typed ati) → va_S A0 s0.heap H locs → lv_has ls 5 [(4, .int (nI (p + i))), (3, .int (nI p)), (2, .int (nI n)), (0, .ref (h 0)), (1, .int (nI kb))] → W P0 l e0 { frames := 3, cells := 0, slots := 0, locals := 67 } s0 m0 a0 b0 t0 c0 H locs 0 0 Q0 (F0 m0 32 ls []) := by
      intro nn
      induction nn with
      | zero => intro i n g H locs ls hi hn hg hmu; exact absurd hmu (Nat.not_lt_zero _)
      | succ nn ih32 =>
        intro i n g H locs ls hi hn hg hmu32 hP hD hS hl
        have hnl := guN_le now p i
        refine lv_iload hx hb dX4_giveUp_32 (lv_at hl 0 rfl) ?_
        refine lv_iload_n hx hb dX4_giveUp_34 rfl (lv_at hl 1 rfl) ?_
        refine lv_aload_n hx hb dX4_giveUp_35 rfl (lv_at hl 3 rfl) ?_
        refine va_get (D := D) (ci := 4) (v := .ref (h 1)) (C := RX4) (T := TX4) (N := 8) hx hb hts hI4 hown hK.1 hP 0 rfl rfl 0 (by decide) lk7 (fun _ h9 => h9) rfl dX4_giveUp_36 ?_
        refine lv_sipush (v := (nI 650)) hx hb dX4_giveUp_39 (by decide) ?_
        refine lv_iconst (v := (nI 2)) hx hb dX4_giveUp_42 (by decide) ?_
        refine lv_iload_n hx hb dX4_giveUp_43 rfl (lv_at hl 4 rfl) ?_
        refine lv_imul hx hb dX4_giveUp_44 ?_
        refine n_as (x' := nI (2 * kb)) (pk_mul _ _) ?_
        refine lv_iadd hx hb dX4_giveUp_45 ?_
        refine n_as (x' := nI (650 + (2 * kb))) (nI_add _ _) ?_
        refine lv_iconst (v := (nI 1)) hx hb dX4_giveUp_46 (by decide) ?_
        refine lv_iadd hx hb dX4_giveUp_47 ?_
        refine n_as (x' := nI ((650 + (2 * kb)) + 1)) (nI_add _ _) ?_
        refine n_iald hx hb hK hP 1 0 rfl rfl (by decide) (by omega) dX4_giveUp_48 ?_
        refine n_as (x' := (nI z)) (by rw [gu_blk hg (by omega) (by omega)]; exact hz) ?_
        refine lv_iadd hx hb dX4_giveUp_49 ?_
        refine n_as (x' := nI (p + z)) (nI_add _ _) ?_
        refine lv_icmp_ge (tgt := 92) hx hb dX4_giveUp_50 (by decide) (fun c50 => ?_) (fun c50 => ?_)
        · skip
          replace c50 : (p + z) ≤ (p + i) := by rw [nI_leI (by omega) (by omega)] at c50; exact c50
          refine lv_aload_n hx hb dX4_giveUp_92 rfl (lv_at hl 3 rfl) ?_
          refine va_get (D := D) (ci := 4) (v := .ref (h 1)) (C := RX4) (T := TX4) (N := 8) hx hb hts hI4 hown hK.1 hP 0 rfl rfl 0 (by decide) lk7 (fun _ h9 => h9) rfl dX4_giveUp_93 ?_
          refine lv_sipush (v := (nI 650)) hx hb dX4_giveUp_96 (by decide) ?_
          refine lv_iconst (v := (nI 2)) hx hb dX4_giveUp_99 (by decide) ?_
          refine lv_iload_n hx hb dX4_giveUp_100 rfl (lv_at hl 4 rfl) ?_
          refine lv_imul hx hb dX4_giveUp_101 ?_
          refine n_as (x' := nI (2 * kb)) (pk_mul _ _) ?_
          refine lv_iadd hx hb dX4_giveUp_102 ?_
          refine n_as (x' := nI (650 + (2 * kb))) (nI_add _ _) ?_
          refine lv_iconst (v := (nI 0)) hx hb dX4_giveUp_103 (by decide) ?_
          refine n_iast hx hb hK hP hD hS 1 0 rfl rfl (by decide) (by omega) dX4_giveUp_104 (wsN := MW h cI (upd g (650 + (2 * kb)) (nI 0)) past (nI k) now tri tex typed ati) rfl (fun H locs hP hD hS => ?_)
          refine lv_aload_n hx hb dX4_giveUp_105 rfl (lv_at hl 3 rfl) ?_
          refine va_get (D := D) (ci := 4) (v := .ref (h 1)) (C := RX4) (T := TX4) (N := 8) hx hb hts hI4 hown hK.1 hP 0 rfl rfl 0 (by decide) lk7 (fun _ h9 => h9) rfl dX4_giveUp_106 ?_
          refine lv_sipush (v := (nI 650)) hx hb dX4_giveUp_109 (by decide) ?_
          refine lv_iconst (v := (nI 2)) hx hb dX4_giveUp_112 (by decide) ?_
          refine lv_iload_n hx hb dX4_giveUp_113 rfl (lv_at hl 4 rfl) ?_
          refine lv_imul hx hb dX4_giveUp_114 ?_
          refine n_as (x' := nI (2 * kb)) (pk_mul _ _) ?_
          refine lv_iadd hx hb dX4_giveUp_115 ?_
          refine n_as (x' := nI (650 + (2 * kb))) (nI_add _ _) ?_
          refine lv_iconst (v := (nI 1)) hx hb dX4_giveUp_116 (by decide) ?_
          refine lv_iadd hx hb dX4_giveUp_117 ?_
          refine n_as (x' := nI ((650 + (2 * kb)) + 1)) (nI_add _ _) ?_
          refine lv_iconst (v := (nI 0)) hx hb dX4_giveUp_118 (by decide) ?_
          refine n_iast hx hb hK hP hD hS 1 0 rfl rfl (by decide) (by omega) dX4_giveUp_119 (wsN := MW h cI (upd (upd g (650 + (2 * kb)) (nI 0)) ((650 + (2 * kb)) + 1) (nI 0)) past (nI k) now tri tex typed ati) rfl (fun H locs hP hD hS => ?_)
          have eA := guA_s hkb (bI_ct c5) hp hz hpz
          have eg : upd (upd g (650 + 2 * kb) (nI 0)) (650 + 2 * kb + 1) (nI 0) = (guA now (nI kb)).2 := by rw [eA, hg, show i = z by omega]
          rw [eg] at hP hD
          have hP : va_P D vwCl (MW h cI ((guA now (nI kb)).2) past (nI k) now tri tex typed ati) H := hP
          have hD : va_D A0 (MW h cI ((guA now (nI kb)).2) past (nI k) now tri tex typed ati) := hD
          refine lv_aload_n hx hb dX4_giveUp_120 rfl (lv_at hl 3 rfl) ?_
          refine lv_iload_n hx hb dX4_giveUp_121 rfl (lv_at hl 2 rfl) ?_
          refine n_as (x' := ((guA now (nI kb)).1)) (by rw [eA, hn, show i = z by omega]) ?_
          refine cl_Vi (b := (h 0)) (As := [.int ((guA now (nI kb)).1)]) (rest := []) (wc := MW h cI ((guA now (nI kb)).2) past (nI k) now tri tex typed ati) (wsN := fun (_ : Unit) => MW h cI (fnN now (guA now (nI kb)).2 (guA now (nI kb)).1) (fnP past k now (guA now (nI kb)).1) (nI (fnK k (guA now (nI kb)).1)) now tri tex typed ati) F hK hA hP hD hS (c_X4_ends hk) (cwV 1 hts gX4_giveUp_X4_ends rfl rfl rfl (by decide +kernel) ⟨Nat.le_of_ble_eq_true rfl, Nat.le_of_ble_eq_true rfl⟩) [0, 1, 2, 3, 4, 5] [] [0, 1, 2, 3, 4, 5] ([]) rfl rfl (fun _ => rfl) (by decide) (by decide) 0 rfl rfl rfl hl.1 rfl (Nat.le_of_ble_eq_true rfl) ⟨Nat.zero_le _, Nat.zero_le _⟩ dX4_giveUp_122 (fun r_6 _ H locs hw_5 hP hD hS => ?_)
          try dsimp only at hw_5 hP hD
          obtain rfl : r_6 = ((guA now (nI kb)).1) := hw_5
          exact RETN _ _ ((guA now (nI kb)).1) now _ _ dX4_giveUp_125 (rfl) (rfl) hP hD hS
        · skip
          replace c50 : ¬ ((p + z) ≤ (p + i)) := by rw [nI_leI (by omega) (by omega)] at c50; exact c50
          refine lv_aload_n hx hb dX4_giveUp_53 rfl (lv_at hl 3 rfl) ?_
          refine va_get (D := D) (ci := 4) (v := .ref (h 1)) (C := RX4) (T := TX4) (N := 8) hx hb hts hI4 hown hK.1 hP 0 rfl rfl 0 (by decide) lk7 (fun _ h9 => h9) rfl dX4_giveUp_54 ?_
          refine lv_sipush (v := (nI 320)) hx hb dX4_giveUp_57 (by decide) ?_
          refine lv_iload hx hb dX4_giveUp_60 (lv_at hl 0 rfl) ?_
          refine lv_iadd hx hb dX4_giveUp_62 ?_
          refine n_as (x' := nI (320 + (p + i))) (nI_add _ _) ?_
          refine lv_iconst (v := (nI 0)) hx hb dX4_giveUp_63 (by decide) ?_
          refine n_iast hx hb hK hP hD hS 1 0 rfl rfl (by decide) (by omega) dX4_giveUp_64 (wsN := MW h cI (upd g (320 + (p + i)) (nI 0)) past (nI k) now tri tex typed ati) rfl (fun H locs hP hD hS => ?_)
          refine lv_aload_n hx hb dX4_giveUp_65 rfl (lv_at hl 3 rfl) ?_
          refine va_get (D := D) (ci := 4) (v := .ref (h 1)) (C := RX4) (T := TX4) (N := 8) hx hb hts hI4 hown hK.1 hP 0 rfl rfl 0 (by decide) lk7 (fun _ h9 => h9) rfl dX4_giveUp_66 ?_
          refine lv_iload hx hb dX4_giveUp_69 (lv_at hl 0 rfl) ?_
          refine n_iald hx hb hK hP 1 0 rfl rfl (by decide) (by omega) dX4_giveUp_71 ?_
          have hgs : (upd g (320 + (p + i)) (nI 0)) (p + i) = now (p + i) := by rw [upd_n _ _ (by omega), gu_slot hg (by omega)]
          refine lv_iconst (v := (nI 3)) hx hb dX4_giveUp_72 (by decide) ?_
          refine lv_icmp_ne (tgt := 86) hx hb dX4_giveUp_73 (by decide) (fun c73 => ?_) (fun c73 => ?_)
          · skip
            rw [hgs] at c73
            refine lv_iinc (v := (nI ((p + i) + 1))) (lv' := [(4, .int (nI ((p + i) + 1))), (3, .int (nI p)), (2, .int (nI n)), (0, .ref (h 0)), (1, .int (nI kb))]) hx hb dX4_giveUp_86 hl (k := 0) rfl (n_inc1 _) (by decide) rfl (fun ls hl => ?_)
            refine lv_goto (tgt := 32) hx hb dX4_giveUp_89 (by decide) ?_
            exact ih32 (i + 1) n (upd g (320 + (p + i)) (nI 0)) _ _ _ (by omega) (by rw [hn]; unfold guN; rw [fb_ct_succ]; simp [c73]) (by first | exact gu_take hg (by omega) c73 | exact gu_skip hg (by omega) c73) (by omega) hP hD hS (lv_sub hl [0, 1, 2, 3, 4] rfl)
          · skip
            rw [hgs] at c73
            refine lv_aload_n hx hb dX4_giveUp_76 rfl (lv_at hl 3 rfl) ?_
            refine lv_iload hx hb dX4_giveUp_77 (lv_at hl 0 rfl) ?_
            refine lv_iconst (v := (nI 0)) hx hb dX4_giveUp_79 (by decide) ?_
            refine cl_Vv (b := (h 0)) (As := [.int (nI (p + i)), .int (nI 0)]) (rest := []) (wc := MW h cI (upd g (320 + (p + i)) (nI 0)) past (nI k) now tri tex typed ati) (wsN := fun (_ : Unit) => MW h cI (bc1 (upd g (320 + (p + i)) (nI 0)) (p + i) (nI 0)) past (nI k) now tri tex typed ati) F hK hA hP hD hS (c_X4_becomes (by omega)) (cwV 2 hts gX4_giveUp_X4_becomes rfl rfl rfl (by decide +kernel) ⟨Nat.le_of_ble_eq_true rfl, Nat.le_of_ble_eq_true rfl⟩) [0, 1, 2, 3, 4, 5] [] [0, 1, 2, 3, 4, 5] ([]) rfl rfl (fun _ => rfl) (by decide) (by decide) 0 rfl rfl rfl hl.1 rfl (Nat.le_of_ble_eq_true rfl) ⟨Nat.zero_le _, Nat.zero_le _⟩ dX4_giveUp_80 (fun _ H locs hw_7 hP hD hS => ?_)
            try dsimp only at hw_7 hP hD
            refine lv_iinc (v := (nI (n + 1))) (lv' := [(2, .int (nI (n + 1))), (4, .int (nI (p + i))), (3, .int (nI p)), (0, .ref (h 0)), (1, .int (nI kb))]) hx hb dX4_giveUp_83 hl (k := 2) rfl (n_inc1 _) (by decide) rfl (fun ls hl => ?_)
            refine lv_iinc (v := (nI ((p + i) + 1))) (lv' := [(4, .int (nI ((p + i) + 1))), (2, .int (nI (n + 1))), (3, .int (nI p)), (0, .ref (h 0)), (1, .int (nI kb))]) hx hb dX4_giveUp_86 hl (k := 1) rfl (n_inc1 _) (by decide) rfl (fun ls hl => ?_)
            refine lv_goto (tgt := 32) hx hb dX4_giveUp_89 (by decide) ?_
            exact ih32 (i + 1) (n + 1) (bc1 (upd g (320 + (p + i)) (nI 0)) (p + i) (nI 0)) _ _ _ (by omega) (by rw [hn]; unfold guN; rw [fb_ct_succ]; simp [c73]) (by first | exact gu_take hg (by omega) c73 | exact gu_skip hg (by omega) c73) (by omega) hP hD hS (lv_sub hl [0, 2, 1, 3, 4] rfl)
    exact LP32 _ 0 0 now _ _ _ (by omega) (rfl) (gu_0 now p) (Nat.lt_succ_self _) hP hD hS (lv_sub hl [0, 1, 2, 3, 4] rfl)
  · skip
    replace c5 : (bI (isB now v)) = nI 0 := c5
    refine lv_iconst (v := (-1)) hx hb dX4_giveUp_8 (by decide) ?_
    have eA : guA now v = (-1, now) := guA_n (bI_cf c5)
    obtain ⟨e1, e2, e3⟩ := fn_n1 now now past k
    have hP : va_P D vwCl (MW h cI (fnN now (guA now v).2 (guA now v).1) (fnP past k now (guA now v).1) (nI (fnK k (guA now v).1)) bef tri tex typed ati) H := by rw [eA]; dsimp only; rw [e1, e2, e3]; exact hP
    have hD : va_D A0 (MW h cI (fnN now (guA now v).2 (guA now v).1) (fnP past k now (guA now v).1) (nI (fnK k (guA now v).1)) bef tri tex typed ati) := by rw [eA]; dsimp only; rw [e1, e2, e3]; exact hD
    exact RETN _ _ (-1) bef _ _ dX4_giveUp_9 (rfl) (by rw [eA]) hP hD hS
set_option maxHeartbeats 4000000 in
set_option maxRecDepth 100000 in
theorem c_X4_isWord {l : Launch} {D : va_G} {cI cG cC cR : ClassId} {v : Int32} : CtI l yX4_isWord wsX4_isWord { frames := 1, cells := 0, slots := 0, locals := 22 } D (TY cI cG cC cR) [.int v] ([]) (fun (_ : Unit) => []) (fun (r : Int32) (_ : Unit) => r = bI (inB v (nI 0) (nI 9))) := by
  refine CtI.of (cc := cX4_isWord) (maxL := 1) (ty := .boolean) (by decide) rfl (Nat.le_of_ble_eq_true rfl) ?_
  intro P0 e0 s0 m0 a0 b0 t0 c0 A0 Q0 ls F hK hP hD hA RETN hl
  obtain ⟨hx, hb, hml, hown, hts⟩ := id F
  have hS : va_S A0 s0.heap s0.heap [] := va_S.rf
  have hl : lv_has ls 1 [(0, .int v)] := hl
  refine lv_iload_n hx hb dX4_isWord_0 rfl (lv_at hl 0 rfl) ?_
  refine lv_iconst (v := (nI 0)) hx hb dX4_isWord_1 (by decide) ?_
  refine lv_bipush (v := (nI 9)) hx hb dX4_isWord_2 (by decide) ?_
  refine cl_S0 (As := [.int v, .int (nI 0), .int (nI 9)]) (rest := []) F hK hA hP hD hS (c_X4_in) (va_cwS 3 hts gX4_isWord_X4_in rfl rfl rfl (by decide +kernel) ⟨Nat.le_of_ble_eq_true rfl, Nat.le_of_ble_eq_true rfl⟩) rfl hl.1 rfl (Nat.le_of_ble_eq_true rfl) ⟨Nat.zero_le _, Nat.zero_le _⟩ dX4_isWord_4 (fun r_1 H locs hw_2 hP hS => ?_)
  try dsimp only at hw_2
  obtain rfl : r_1 = (bI (inB v (nI 0) (nI 9))) := hw_2
  exact RETN _ _ (bI (inB v (nI 0) (nI 9))) () _ _ dX4_isWord_7 (bI_z _) (rfl) hP hD hS
set_option maxHeartbeats 4000000 in
set_option maxRecDepth 100000 in
theorem c_X4_damages {l : Launch} {D : va_G} {cI cG cC cR : ClassId} {h : Nat → Nat} {now past bef tri tex : Nat → Int32} {pasts typed ati : Int32} {v : Int32} : CtI l yX4_damages wsX4_damages { frames := 2, cells := 0, slots := 0, locals := 42 } D (TY cI cG cC cR) [.ref (h 0), .int v] (MW h cI now past pasts bef tri tex typed ati) (fun (u : Nat → Int32) => MW h cI u past pasts bef tri tex typed ati) (fun (r : Int32) (u : Nat → Int32) => r = (dmA now v).1 ∧ u = (dmA now v).2) := by
  refine CtI.of (cc := cX4_damages) (maxL := 2) (ty := .int) (by decide) rfl (Nat.le_of_ble_eq_true rfl) ?_
  intro P0 e0 s0 m0 a0 b0 t0 c0 A0 Q0 ls F hK hP hD hA RETN hl
  obtain ⟨hx, hb, hml, hown, hts⟩ := id F
  have hS : va_S A0 s0.heap s0.heap [] := va_S.rf
  have hl : lv_has ls 2 [(0, .ref (h 0)), (1, .int v)] := hl
  have lk7 := hts (.fieldLink RX4 7 "SlotMapsModel" "now" "[I") (by decide +kernel)
  have hI4 : ∀ w ∈ u_ws RX4 TX4 8, w ∈ wsX4_damages := by decide +kernel
  refine lv_iload_n hx hb dX4_damages_0 rfl (lv_at hl 1 rfl) ?_
  refine cl_S0 (As := [.int v]) (rest := []) F hK hA hP hD hS (c_X4_isWord) (va_cwS 1 hts gX4_damages_X4_isWord rfl rfl rfl (by decide +kernel) ⟨Nat.le_of_ble_eq_true rfl, Nat.le_of_ble_eq_true rfl⟩) rfl hl.1 rfl (Nat.le_of_ble_eq_true rfl) ⟨Nat.zero_le _, Nat.zero_le _⟩ dX4_damages_1 (fun r_1 H locs hw_2 hP hS => ?_)
  try dsimp only at hw_2
  obtain rfl : r_1 = (bI (inB v (nI 0) (nI 9))) := hw_2
  refine lv_if_ne (tgt := 9) hx hb dX4_damages_4 (by decide) (fun c4 => ?_) (fun c4 => ?_)
  · skip
    replace c4 : ¬ (bI (inB v (nI 0) (nI 9))) = nI 0 := c4
    obtain ⟨w, hlo_w, hhi_w, rfl⟩ := inB_nat (by omega) (by omega) (bI_ct c4)
    refine lv_aload_n hx hb dX4_damages_9 rfl (lv_at hl 0 rfl) ?_
    refine va_get (D := D) (ci := 4) (v := .ref (h 1)) (C := RX4) (T := TX4) (N := 8) hx hb hts hI4 hown hK.1 hP 0 rfl rfl 0 (by decide) lk7 (fun _ h9 => h9) rfl dX4_damages_10 ?_
    refine lv_sipush (v := (nI 640)) hx hb dX4_damages_13 (by decide) ?_
    refine lv_iload_n hx hb dX4_damages_16 rfl (lv_at hl 1 rfl) ?_
    refine lv_iadd hx hb dX4_damages_17 ?_
    refine n_as (x' := nI (640 + w)) (nI_add _ _) ?_
    refine lv_iconst (v := (nI 1)) hx hb dX4_damages_18 (by decide) ?_
    refine lv_aload_n hx hb dX4_damages_19 rfl (lv_at hl 0 rfl) ?_
    refine va_get (D := D) (ci := 4) (v := .ref (h 1)) (C := RX4) (T := TX4) (N := 8) hx hb hts hI4 hown hK.1 hP 0 rfl rfl 0 (by decide) lk7 (fun _ h9 => h9) rfl dX4_damages_20 ?_
    refine lv_sipush (v := (nI 640)) hx hb dX4_damages_23 (by decide) ?_
    refine lv_iload_n hx hb dX4_damages_26 rfl (lv_at hl 1 rfl) ?_
    refine lv_iadd hx hb dX4_damages_27 ?_
    refine n_as (x' := nI (640 + w)) (nI_add _ _) ?_
    refine n_iald hx hb hK hP 1 0 rfl rfl (by decide) (by omega) dX4_damages_28 ?_
    refine lv_isub hx hb dX4_damages_29 ?_
    refine n_iast hx hb hK hP hD hS 1 0 rfl rfl (by decide) (by omega) dX4_damages_30 (wsN := MW h cI (upd now (640 + w) ((nI 1) - (now (640 + w)))) past pasts bef tri tex typed ati) rfl (fun H locs hP hD hS => ?_)
    refine lv_aload_n hx hb dX4_damages_31 rfl (lv_at hl 0 rfl) ?_
    refine va_get (D := D) (ci := 4) (v := .ref (h 1)) (C := RX4) (T := TX4) (N := 8) hx hb hts hI4 hown hK.1 hP 0 rfl rfl 0 (by decide) lk7 (fun _ h9 => h9) rfl dX4_damages_32 ?_
    refine lv_sipush (v := (nI 640)) hx hb dX4_damages_35 (by decide) ?_
    refine lv_iload_n hx hb dX4_damages_38 rfl (lv_at hl 1 rfl) ?_
    refine lv_iadd hx hb dX4_damages_39 ?_
    refine n_as (x' := nI (640 + w)) (nI_add _ _) ?_
    refine n_iald hx hb hK hP 1 0 rfl rfl (by decide) (by omega) dX4_damages_40 ?_
    exact RETN _ _ ((upd now (640 + w) ((nI 1) - (now (640 + w)))) (640 + w)) (upd now (640 + w) ((nI 1) - (now (640 + w)))) _ _ dX4_damages_41 (rfl) (by rw [dmA_s (by omega)]; exact ⟨upd_s _ _ _, rfl⟩) hP hD hS
  · skip
    replace c4 : (bI (inB v (nI 0) (nI 9))) = nI 0 := c4
    refine lv_iconst (v := (-1)) hx hb dX4_damages_7 (by decide) ?_
    exact RETN _ _ (-1) now _ _ dX4_damages_8 (rfl) (by rw [dmA_n (bI_cf c4)]; exact ⟨rfl, rfl⟩) hP hD hS
set_option maxHeartbeats 4000000 in
set_option maxRecDepth 100000 in
theorem c_X4_damage {l : Launch} {D : va_G} {cI cG cC cR : ClassId} {h : Nat → Nat} {now past bef tri tex : Nat → Int32} {typed ati : Int32} {k : Nat} (hk : k ≤ 5) {v : Int32} : CtI l yX4_damage wsX4_damage { frames := 3, cells := 0, slots := 0, locals := 63 } D (TY cI cG cC cR) [.ref (h 0), .int v] (MW h cI now past (nI k) bef tri tex typed ati) (fun (u : Nat → Int32) => MW h cI (fnN now (dmA now v).2 (dmA now v).1) (fnP past k now (dmA now v).1) (nI (fnK k (dmA now v).1)) u tri tex typed ati) (fun (r : Int32) (u : Nat → Int32) => r = (dmA now v).1) := by
  refine CtI.of (cc := cX4_damage) (maxL := 2) (ty := .int) (by decide) rfl (Nat.le_of_ble_eq_true rfl) ?_
  intro P0 e0 s0 m0 a0 b0 t0 c0 A0 Q0 ls F hK hP hD hA RETN hl
  obtain ⟨hx, hb, hml, hown, hts⟩ := id F
  have hS : va_S A0 s0.heap s0.heap [] := va_S.rf
  have hl : lv_has ls 2 [(0, .ref (h 0)), (1, .int v)] := hl
  refine lv_aload_n hx hb dX4_damage_0 rfl (lv_at hl 0 rfl) ?_
  refine cl_Vv (b := (h 0)) (As := []) (rest := []) (wc := MW h cI now past (nI k) bef tri tex typed ati) (wsN := fun (_ : Unit) => MW h cI now past (nI k) now tri tex typed ati) F hK hA hP hD hS (c_X4_notes) (cwV 0 hts gX4_damage_X4_notes rfl rfl rfl (by decide +kernel) ⟨Nat.le_of_ble_eq_true rfl, Nat.le_of_ble_eq_true rfl⟩) [0, 1, 2, 3, 4, 5] [] [0, 1, 2, 3, 4, 5] ([]) rfl rfl (fun _ => rfl) (by decide) (by decide) 0 rfl rfl rfl hl.1 rfl (Nat.le_of_ble_eq_true rfl) ⟨Nat.zero_le _, Nat.zero_le _⟩ dX4_damage_1 (fun _ H locs hw_1 hP hD hS => ?_)
  try dsimp only at hw_1 hP hD
  refine lv_aload_n hx hb dX4_damage_4 rfl (lv_at hl 0 rfl) ?_
  refine lv_aload_n hx hb dX4_damage_5 rfl (lv_at hl 0 rfl) ?_
  refine lv_iload_n hx hb dX4_damage_6 rfl (lv_at hl 1 rfl) ?_
  refine cl_Vi (b := (h 0)) (As := [.int v]) (rest := [.ref (h 0)]) (wc := MW h cI now past (nI k) now tri tex typed ati) (wsN := fun (u1 : Nat → Int32) => MW h cI u1 past (nI k) now tri tex typed ati) F hK hA hP hD hS (c_X4_damages) (cwV 1 hts gX4_damage_X4_damages rfl rfl rfl (by decide +kernel) ⟨Nat.le_of_ble_eq_true rfl, Nat.le_of_ble_eq_true rfl⟩) [0, 1, 2, 3, 4, 5] [] [0, 1, 2, 3, 4, 5] ([]) rfl rfl (fun _ => rfl) (by decide) (by decide) 0 rfl rfl rfl hl.1 rfl (Nat.le_of_ble_eq_true rfl) ⟨Nat.zero_le _, Nat.zero_le _⟩ dX4_damage_7 (fun r1 u1 H locs hw_3 hP hD hS => ?_)
  try dsimp only at hw_3 hP hD
  obtain ⟨rfl, rfl⟩ := hw_3
  have hP : va_P D vwCl (MW h cI ((dmA now v).2) past (nI k) now tri tex typed ati) H := hP
  have hD : va_D A0 (MW h cI ((dmA now v).2) past (nI k) now tri tex typed ati) := hD
  refine cl_Vi (b := (h 0)) (As := [.int ((dmA now v).1)]) (rest := []) (wc := MW h cI ((dmA now v).2) past (nI k) now tri tex typed ati) (wsN := fun (_ : Unit) => MW h cI (fnN now (dmA now v).2 (dmA now v).1) (fnP past k now (dmA now v).1) (nI (fnK k (dmA now v).1)) now tri tex typed ati) F hK hA hP hD hS (c_X4_ends hk) (cwV 1 hts gX4_damage_X4_ends rfl rfl rfl (by decide +kernel) ⟨Nat.le_of_ble_eq_true rfl, Nat.le_of_ble_eq_true rfl⟩) [0, 1, 2, 3, 4, 5] [] [0, 1, 2, 3, 4, 5] ([]) rfl rfl (fun _ => rfl) (by decide) (by decide) 0 rfl rfl rfl hl.1 rfl (Nat.le_of_ble_eq_true rfl) ⟨Nat.zero_le _, Nat.zero_le _⟩ dX4_damage_10 (fun r_6 _ H locs hw_5 hP hD hS => ?_)
  try dsimp only at hw_5 hP hD
  obtain rfl : r_6 = ((dmA now v).1) := hw_5
  exact RETN _ _ ((dmA now v).1) now _ _ dX4_damage_13 (rfl) (rfl) hP hD hS
set_option maxHeartbeats 4000000 in
set_option maxRecDepth 100000 in
theorem c_X4_repairs {l : Launch} {D : va_G} {cI cG cC cR : ClassId} {h : Nat → Nat} {now past bef tri tex : Nat → Int32} {pasts typed ati : Int32} : CtI l yX4_repairs wsX4_repairs { frames := 2, cells := 0, slots := 0, locals := 45 } D (TY cI cG cC cR) [.ref (h 0)] (MW h cI now past pasts bef tri tex typed ati) (fun (u : Nat → Int32) => MW h cI u past pasts bef tri tex typed ati) (fun (r : Int32) (u : Nat → Int32) => r = (rpA now).1 ∧ u = (rpA now).2) := by
  refine CtI.of (cc := cX4_repairs) (maxL := 3) (ty := .int) (by decide) rfl (Nat.le_of_ble_eq_true rfl) ?_
  intro P0 e0 s0 m0 a0 b0 t0 c0 A0 Q0 ls F hK hP hD hA RETN hl
  obtain ⟨hx, hb, hml, hown, hts⟩ := id F
  have hS : va_S A0 s0.heap s0.heap [] := va_S.rf
  have hl : lv_has ls 3 [(0, .ref (h 0))] := hl
  have lk7 := hts (.fieldLink RX4 7 "SlotMapsModel" "now" "[I") (by decide +kernel)
  have hI4 : ∀ w ∈ u_ws RX4 TX4 8, w ∈ wsX4_repairs := by decide +kernel
  refine lv_iconst (v := (nI 0)) hx hb dX4_repairs_0 (by decide) ?_
  refine lv_istore_n (lv' := [(1, .int (nI 0)), (0, .ref (h 0))]) hx hb dX4_repairs_1 rfl hl (by decide) rfl (fun ls hl => ?_)
  refine lv_iconst (v := (nI 0)) hx hb dX4_repairs_2 (by decide) ?_
  refine lv_istore_n (lv' := [(2, .int (nI 0)), (1, .int (nI 0)), (0, .ref (h 0))]) hx hb dX4_repairs_3 rfl hl (by decide) rfl (fun ls hl => ?_)
  have LP4 : ∀ (nn : Nat) (w : Nat) (n : Nat) (g : Nat → Int32) (H : Heap) (locs : List Loc) (ls : Array Slot), w ≤ 10 → n = rpN now w → g = rpF now w → 10 - w < nn → va_P D vwCl (MW h cI g past pasts bef tri tex typed ati) H → va_D A0 (MW h cI g past pasts bef tri tex typed ati) → va_S A0 s0.heap H locs → lv_has ls 3 [(2, .int (nI w)), (1, .int (nI n)), (0, .ref (h 0))] → W P0 l e0 { frames := 2, cells := 0, slots := 0, locals := 45 } s0 m0 a0 b0 t0 c0 H locs 0 0 Q0 (F0 m0 4 ls []) := by
    intro nn
    induction nn with
    | zero => intro w n g H locs ls hw hn hg hmu; exact absurd hmu (Nat.not_lt_zero _)
    | succ nn ih4 =>
      intro w n g H locs ls hw hn hg hmu4 hP hD hS hl
      refine lv_iload_n hx hb dX4_repairs_4 rfl (lv_at hl 0 rfl) ?_
      refine lv_bipush (v := (nI 10)) hx hb dX4_repairs_5 (by decide) ?_
      refine lv_icmp_ge (tgt := 57) hx hb dX4_repairs_7 (by decide) (fun c7 => ?_) (fun c7 => ?_)
      · skip
        replace c7 : 10 ≤ w := by rw [nI_leI (by omega) (by omega)] at c7; exact c7
        refine lv_iload_n hx hb dX4_repairs_57 rfl (lv_at hl 1 rfl) ?_
        exact RETN _ _ (nI n) g _ _ dX4_repairs_58 (rfl) (by have ew : w = 10 := (by omega); exact ⟨by rw [hn, ew]; rfl, by rw [hg, ew]; rfl⟩) hP hD hS
      · skip
        replace c7 : ¬ (10 ≤ w) := by rw [nI_leI (by omega) (by omega)] at c7; exact c7
        refine lv_iload_n hx hb dX4_repairs_10 rfl (lv_at hl 1 rfl) ?_
        refine lv_aload_n hx hb dX4_repairs_11 rfl (lv_at hl 2 rfl) ?_
        refine va_get (D := D) (ci := 4) (v := .ref (h 1)) (C := RX4) (T := TX4) (N := 8) hx hb hts hI4 hown hK.1 hP 0 rfl rfl 0 (by decide) lk7 (fun _ h9 => h9) rfl dX4_repairs_12 ?_
        refine lv_sipush (v := (nI 640)) hx hb dX4_repairs_15 (by decide) ?_
        refine lv_iload_n hx hb dX4_repairs_18 rfl (lv_at hl 0 rfl) ?_
        refine lv_iadd hx hb dX4_repairs_19 ?_
        refine n_as (x' := nI (640 + w)) (nI_add _ _) ?_
        refine n_iald hx hb hK hP 1 0 rfl rfl (by decide) (by omega) dX4_repairs_20 ?_
        refine lv_aload_n hx hb dX4_repairs_21 rfl (lv_at hl 2 rfl) ?_
        refine lv_iload_n hx hb dX4_repairs_22 rfl (lv_at hl 0 rfl) ?_
        refine cl_Vi (b := (h 0)) (As := [.int (nI w)]) (rest := [.int (g (640 + w)), .int (nI n)]) (wc := MW h cI g past pasts bef tri tex typed ati) (wsN := fun (_ : Unit) => MW h cI g past pasts bef tri tex typed ati) F hK hA hP hD hS (c_X4_right (by omega)) (cwV 1 hts gX4_repairs_X4_right rfl rfl rfl (by decide +kernel) ⟨Nat.le_of_ble_eq_true rfl, Nat.le_of_ble_eq_true rfl⟩) [0, 1, 2, 3, 4, 5] [] [0, 1, 2, 3, 4, 5] ([]) rfl rfl (fun _ => rfl) (by decide) (by decide) 0 rfl rfl rfl hl.1 rfl (Nat.le_of_ble_eq_true rfl) ⟨Nat.zero_le _, Nat.zero_le _⟩ dX4_repairs_23 (fun r_2 _ H locs hw_1 hP hD hS => ?_)
        try dsimp only at hw_1 hP hD
        obtain rfl : r_2 = (rt now w) := by rw [hw_1, rp_rt hg (by omega)]
        refine lv_icmp_eq (tgt := 33) hx hb dX4_repairs_26 (by decide) (fun c26 => ?_) (fun c26 => ?_)
        · skip
          rw [rp_at hg] at c26
          refine lv_iconst (v := (nI 0)) hx hb dX4_repairs_33 (by decide) ?_
          refine lv_iadd hx hb dX4_repairs_34 ?_
          refine n_as (x' := nI (n + 0)) (nI_add _ _) ?_
          refine lv_istore_n (lv' := [(1, .int (nI (n + 0))), (2, .int (nI w)), (0, .ref (h 0))]) hx hb dX4_repairs_35 rfl hl (by decide) rfl (fun ls hl => ?_)
          refine lv_aload_n hx hb dX4_repairs_36 rfl (lv_at hl 2 rfl) ?_
          refine va_get (D := D) (ci := 4) (v := .ref (h 1)) (C := RX4) (T := TX4) (N := 8) hx hb hts hI4 hown hK.1 hP 0 rfl rfl 0 (by decide) lk7 (fun _ h9 => h9) rfl dX4_repairs_37 ?_
          refine lv_sipush (v := (nI 640)) hx hb dX4_repairs_40 (by decide) ?_
          refine lv_iload_n hx hb dX4_repairs_43 rfl (lv_at hl 1 rfl) ?_
          refine lv_iadd hx hb dX4_repairs_44 ?_
          refine n_as (x' := nI (640 + w)) (nI_add _ _) ?_
          refine lv_aload_n hx hb dX4_repairs_45 rfl (lv_at hl 2 rfl) ?_
          refine lv_iload_n hx hb dX4_repairs_46 rfl (lv_at hl 1 rfl) ?_
          refine cl_Vi (b := (h 0)) (As := [.int (nI w)]) (rest := [.int (nI (640 + w)), .ref (h 1)]) (wc := MW h cI g past pasts bef tri tex typed ati) (wsN := fun (_ : Unit) => MW h cI g past pasts bef tri tex typed ati) F hK hA hP hD hS (c_X4_right (by omega)) (cwV 1 hts gX4_repairs_X4_right rfl rfl rfl (by decide +kernel) ⟨Nat.le_of_ble_eq_true rfl, Nat.le_of_ble_eq_true rfl⟩) [0, 1, 2, 3, 4, 5] [] [0, 1, 2, 3, 4, 5] ([]) rfl rfl (fun _ => rfl) (by decide) (by decide) 0 rfl rfl rfl hl.1 rfl (Nat.le_of_ble_eq_true rfl) ⟨Nat.zero_le _, Nat.zero_le _⟩ dX4_repairs_47 (fun r_4 _ H locs hw_3 hP hD hS => ?_)
          try dsimp only at hw_3 hP hD
          obtain rfl : r_4 = (rt now w) := by rw [hw_3, rp_rt hg (by omega)]
          refine n_iast hx hb hK hP hD hS 1 0 rfl rfl (by decide) (by omega) dX4_repairs_50 (wsN := MW h cI (upd g (640 + w) (rt now w)) past pasts bef tri tex typed ati) rfl (fun H locs hP hD hS => ?_)
          refine lv_iinc (v := (nI (w + 1))) (lv' := [(2, .int (nI (w + 1))), (1, .int (nI (n + 0))), (0, .ref (h 0))]) hx hb dX4_repairs_51 hl (k := 1) rfl (n_inc1 _) (by decide) rfl (fun ls hl => ?_)
          refine lv_goto (tgt := 4) hx hb dX4_repairs_54 (by decide) ?_
          exact ih4 (w + 1) (n + 0) (upd g (640 + w) (rt now w)) _ _ _ (by omega) (by rw [hn]; unfold rpN; rw [fb_ct_succ]; simp [c26]) (rp_s hg) (by omega) hP hD hS (lv_sub hl [0, 1, 2] rfl)
        · skip
          rw [rp_at hg] at c26
          refine lv_iconst (v := (nI 1)) hx hb dX4_repairs_29 (by decide) ?_
          refine lv_goto (tgt := 34) hx hb dX4_repairs_30 (by decide) ?_
          refine lv_iadd hx hb dX4_repairs_34 ?_
          refine n_as (x' := nI (n + 1)) (nI_add _ _) ?_
          refine lv_istore_n (lv' := [(1, .int (nI (n + 1))), (2, .int (nI w)), (0, .ref (h 0))]) hx hb dX4_repairs_35 rfl hl (by decide) rfl (fun ls hl => ?_)
          refine lv_aload_n hx hb dX4_repairs_36 rfl (lv_at hl 2 rfl) ?_
          refine va_get (D := D) (ci := 4) (v := .ref (h 1)) (C := RX4) (T := TX4) (N := 8) hx hb hts hI4 hown hK.1 hP 0 rfl rfl 0 (by decide) lk7 (fun _ h9 => h9) rfl dX4_repairs_37 ?_
          refine lv_sipush (v := (nI 640)) hx hb dX4_repairs_40 (by decide) ?_
          refine lv_iload_n hx hb dX4_repairs_43 rfl (lv_at hl 1 rfl) ?_
          refine lv_iadd hx hb dX4_repairs_44 ?_
          refine n_as (x' := nI (640 + w)) (nI_add _ _) ?_
          refine lv_aload_n hx hb dX4_repairs_45 rfl (lv_at hl 2 rfl) ?_
          refine lv_iload_n hx hb dX4_repairs_46 rfl (lv_at hl 1 rfl) ?_
          refine cl_Vi (b := (h 0)) (As := [.int (nI w)]) (rest := [.int (nI (640 + w)), .ref (h 1)]) (wc := MW h cI g past pasts bef tri tex typed ati) (wsN := fun (_ : Unit) => MW h cI g past pasts bef tri tex typed ati) F hK hA hP hD hS (c_X4_right (by omega)) (cwV 1 hts gX4_repairs_X4_right rfl rfl rfl (by decide +kernel) ⟨Nat.le_of_ble_eq_true rfl, Nat.le_of_ble_eq_true rfl⟩) [0, 1, 2, 3, 4, 5] [] [0, 1, 2, 3, 4, 5] ([]) rfl rfl (fun _ => rfl) (by decide) (by decide) 0 rfl rfl rfl hl.1 rfl (Nat.le_of_ble_eq_true rfl) ⟨Nat.zero_le _, Nat.zero_le _⟩ dX4_repairs_47 (fun r_6 _ H locs hw_5 hP hD hS => ?_)
          try dsimp only at hw_5 hP hD
          obtain rfl : r_6 = (rt now w) := by rw [hw_5, rp_rt hg (by omega)]
          refine n_iast hx hb hK hP hD hS 1 0 rfl rfl (by decide) (by omega) dX4_repairs_50 (wsN := MW h cI (upd g (640 + w) (rt now w)) past pasts bef tri tex typed ati) rfl (fun H locs hP hD hS => ?_)
          refine lv_iinc (v := (nI (w + 1))) (lv' := [(2, .int (nI (w + 1))), (1, .int (nI (n + 1))), (0, .ref (h 0))]) hx hb dX4_repairs_51 hl (k := 1) rfl (n_inc1 _) (by decide) rfl (fun ls hl => ?_)
          refine lv_goto (tgt := 4) hx hb dX4_repairs_54 (by decide) ?_
          exact ih4 (w + 1) (n + 1) (upd g (640 + w) (rt now w)) _ _ _ (by omega) (by rw [hn]; unfold rpN; rw [fb_ct_succ]; simp [c26]) (rp_s hg) (by omega) hP hD hS (lv_sub hl [0, 1, 2] rfl)
  exact LP4 _ 0 0 now _ _ _ (by omega) (rfl) (rp_0 now) (Nat.lt_succ_self _) hP hD hS (lv_sub hl [0, 1, 2] rfl)
set_option maxHeartbeats 4000000 in
set_option maxRecDepth 100000 in
theorem c_X4_repair {l : Launch} {D : va_G} {cI cG cC cR : ClassId} {h : Nat → Nat} {now past bef tri tex : Nat → Int32} {typed ati : Int32} {k : Nat} (hk : k ≤ 5)  : CtI l yX4_repair wsX4_repair { frames := 3, cells := 0, slots := 0, locals := 67 } D (TY cI cG cC cR) [.ref (h 0)] (MW h cI now past (nI k) bef tri tex typed ati) (fun (u : Nat → Int32) => MW h cI (fnN now (rpA now).2 (rpA now).1) (fnP past k now (rpA now).1) (nI (fnK k (rpA now).1)) u tri tex typed ati) (fun (r : Int32) (u : Nat → Int32) => r = (rpA now).1) := by
  refine CtI.of (cc := cX4_repair) (maxL := 1) (ty := .int) (by decide) rfl (Nat.le_of_ble_eq_true rfl) ?_
  intro P0 e0 s0 m0 a0 b0 t0 c0 A0 Q0 ls F hK hP hD hA RETN hl
  obtain ⟨hx, hb, hml, hown, hts⟩ := id F
  have hS : va_S A0 s0.heap s0.heap [] := va_S.rf
  have hl : lv_has ls 1 [(0, .ref (h 0))] := hl
  refine lv_aload_n hx hb dX4_repair_0 rfl (lv_at hl 0 rfl) ?_
  refine cl_Vv (b := (h 0)) (As := []) (rest := []) (wc := MW h cI now past (nI k) bef tri tex typed ati) (wsN := fun (_ : Unit) => MW h cI now past (nI k) now tri tex typed ati) F hK hA hP hD hS (c_X4_notes) (cwV 0 hts gX4_repair_X4_notes rfl rfl rfl (by decide +kernel) ⟨Nat.le_of_ble_eq_true rfl, Nat.le_of_ble_eq_true rfl⟩) [0, 1, 2, 3, 4, 5] [] [0, 1, 2, 3, 4, 5] ([]) rfl rfl (fun _ => rfl) (by decide) (by decide) 0 rfl rfl rfl hl.1 rfl (Nat.le_of_ble_eq_true rfl) ⟨Nat.zero_le _, Nat.zero_le _⟩ dX4_repair_1 (fun _ H locs hw_1 hP hD hS => ?_)
  try dsimp only at hw_1 hP hD
  refine lv_aload_n hx hb dX4_repair_4 rfl (lv_at hl 0 rfl) ?_
  refine lv_aload_n hx hb dX4_repair_5 rfl (lv_at hl 0 rfl) ?_
  refine cl_Vi (b := (h 0)) (As := []) (rest := [.ref (h 0)]) (wc := MW h cI now past (nI k) now tri tex typed ati) (wsN := fun (u1 : Nat → Int32) => MW h cI u1 past (nI k) now tri tex typed ati) F hK hA hP hD hS (c_X4_repairs) (cwV 0 hts gX4_repair_X4_repairs rfl rfl rfl (by decide +kernel) ⟨Nat.le_of_ble_eq_true rfl, Nat.le_of_ble_eq_true rfl⟩) [0, 1, 2, 3, 4, 5] [] [0, 1, 2, 3, 4, 5] ([]) rfl rfl (fun _ => rfl) (by decide) (by decide) 0 rfl rfl rfl hl.1 rfl (Nat.le_of_ble_eq_true rfl) ⟨Nat.zero_le _, Nat.zero_le _⟩ dX4_repair_6 (fun r1 u1 H locs hw_3 hP hD hS => ?_)
  try dsimp only at hw_3 hP hD
  obtain ⟨rfl, rfl⟩ := hw_3
  have hP : va_P D vwCl (MW h cI ((rpA now).2) past (nI k) now tri tex typed ati) H := hP
  have hD : va_D A0 (MW h cI ((rpA now).2) past (nI k) now tri tex typed ati) := hD
  refine cl_Vi (b := (h 0)) (As := [.int ((rpA now).1)]) (rest := []) (wc := MW h cI ((rpA now).2) past (nI k) now tri tex typed ati) (wsN := fun (_ : Unit) => MW h cI (fnN now (rpA now).2 (rpA now).1) (fnP past k now (rpA now).1) (nI (fnK k (rpA now).1)) now tri tex typed ati) F hK hA hP hD hS (c_X4_ends hk) (cwV 1 hts gX4_repair_X4_ends rfl rfl rfl (by decide +kernel) ⟨Nat.le_of_ble_eq_true rfl, Nat.le_of_ble_eq_true rfl⟩) [0, 1, 2, 3, 4, 5] [] [0, 1, 2, 3, 4, 5] ([]) rfl rfl (fun _ => rfl) (by decide) (by decide) 0 rfl rfl rfl hl.1 rfl (Nat.le_of_ble_eq_true rfl) ⟨Nat.zero_le _, Nat.zero_le _⟩ dX4_repair_9 (fun r_6 _ H locs hw_5 hP hD hS => ?_)
  try dsimp only at hw_5 hP hD
  obtain rfl : r_6 = ((rpA now).1) := hw_5
  exact RETN _ _ ((rpA now).1) now _ _ dX4_repair_12 (rfl) (rfl) hP hD hS
set_option maxHeartbeats 4000000 in
set_option maxRecDepth 100000 in
theorem c_X4_undo {l : Launch} {D : va_G} {cI cG cC cR : ClassId} {h : Nat → Nat} {now past bef tri tex : Nat → Int32} {typed ati : Int32} {k : Nat} (hk : k ≤ 5) : CtI l yX4_undo wsX4_undo { frames := 1, cells := 0, slots := 0, locals := 24 } D (TY cI cG cC cR) [.ref (h 0)] (MW h cI now past (nI k) bef tri tex typed ati) (fun (_ : Unit) => MW h cI (unN now past k) past (nI (k - 1)) bef tri tex typed ati) (fun (r : Int32) (_ : Unit) => r = unA k) := by
  refine CtI.of (cc := cX4_undo) (maxL := 1) (ty := .int) (by decide) rfl (Nat.le_of_ble_eq_true rfl) ?_
  intro P0 e0 s0 m0 a0 b0 t0 c0 A0 Q0 ls F hK hP hD hA RETN hl
  obtain ⟨hx, hb, hml, hown, hts⟩ := id F
  have hS : va_S A0 s0.heap s0.heap [] := va_S.rf
  have hl : lv_has ls 1 [(0, .ref (h 0))] := hl
  have lk13 := hts (.fieldLink RX4 13 "SlotMapsModel" "past" "[I") (by decide +kernel)
  have lk29 := hts (.fieldLink RX4 29 "SlotMapsModel" "pasts" "I") (by decide +kernel)
  have lk7 := hts (.fieldLink RX4 7 "SlotMapsModel" "now" "[I") (by decide +kernel)
  have hI4 : ∀ w ∈ u_ws RX4 TX4 8, w ∈ wsX4_undo := by decide +kernel
  refine lv_aload_n hx hb dX4_undo_0 rfl (lv_at hl 0 rfl) ?_
  refine va_get (D := D) (ci := 4) (v := .int (nI k)) (C := RX4) (T := TX4) (N := 8) hx hb hts hI4 hown hK.1 hP 0 rfl rfl 2 (by decide) lk29 (fun _ h9 => h9) rfl dX4_undo_1 ?_
  refine lv_if_ne (tgt := 10) hx hb dX4_undo_4 (by decide) (fun c4 => ?_) (fun c4 => ?_)
  · skip
    replace c4 : ¬ k = 0 := by rw [show (0 : Int32) = nI 0 from rfl, nI_eq (by omega) (by omega)] at c4; exact c4
    refine lv_aload_n hx hb dX4_undo_10 rfl (lv_at hl 0 rfl) ?_
    refine lv_dup hx hb dX4_undo_11 rfl ?_
    refine va_get (D := D) (ci := 4) (v := .int (nI k)) (C := RX4) (T := TX4) (N := 8) hx hb hts hI4 hown hK.1 hP 0 rfl rfl 2 (by decide) lk29 (fun _ h9 => h9) rfl dX4_undo_12 ?_
    refine lv_iconst (v := (nI 1)) hx hb dX4_undo_15 (by decide) ?_
    refine lv_isub hx hb dX4_undo_16 ?_
    refine n_as (x' := nI (k - 1)) (pk_sub (by omega)) ?_
    refine va_put (D := D) (ci := 4) (v := .int (nI (k - 1))) (ty := .int) (C := RX4) (T := TX4) (N := 8) hx hb hts hI4 tyX4 tyX4_ok nmX4 hown hK.1 hP hD hS 0 rfl rfl 2 (by decide) lk29 (fun _ h9 => h9) rfl (by decide +kernel) rfl rfl (Nat.le_of_ble_eq_true rfl) dX4_undo_17 (fun H locs hP hD hS => ?_)
    have hP : va_P D vwCl (MW h cI now past (nI (k - 1)) bef tri tex typed ati) H := hP
    have hD : va_D A0 (MW h cI now past (nI (k - 1)) bef tri tex typed ati) := hD
    refine lv_aload_n hx hb dX4_undo_20 rfl (lv_at hl 0 rfl) ?_
    refine va_get (D := D) (ci := 4) (v := .ref (h 2)) (C := RX4) (T := TX4) (N := 8) hx hb hts hI4 hown hK.1 hP 0 rfl rfl 1 (by decide) lk13 (fun _ h9 => h9) rfl dX4_undo_21 ?_
    refine lv_aload_n hx hb dX4_undo_24 rfl (lv_at hl 0 rfl) ?_
    refine va_get (D := D) (ci := 4) (v := .int (nI (k - 1))) (C := RX4) (T := TX4) (N := 8) hx hb hts hI4 hown hK.1 hP 0 rfl rfl 2 (by decide) lk29 (fun _ h9 => h9) rfl dX4_undo_25 ?_
    refine lv_sipush (v := (nI 667)) hx hb dX4_undo_28 (by decide) ?_
    refine lv_imul hx hb dX4_undo_31 ?_
    refine n_as (x' := nI ((k - 1) * 667)) (pk_mul _ _) ?_
    refine lv_aload_n hx hb dX4_undo_32 rfl (lv_at hl 0 rfl) ?_
    refine va_get (D := D) (ci := 4) (v := .ref (h 1)) (C := RX4) (T := TX4) (N := 8) hx hb hts hI4 hown hK.1 hP 0 rfl rfl 0 (by decide) lk7 (fun _ h9 => h9) rfl dX4_undo_33 ?_
    refine lv_iconst (v := (nI 0)) hx hb dX4_undo_36 (by decide) ?_
    refine cl_Sv (As := [.ref (h 2), .int (nI ((k - 1) * 667)), .ref (h 1), .int (nI 0)]) (rest := []) (wc := [(h 2, .inl (cI, 3335, .inl past)), (h 1, .inl (cI, 667, .inl now))]) (wsN := fun (_ : Unit) => MW h cI (va_cpy past now ((k - 1) * 667) 0 667) past (nI (k - 1)) bef tri tex typed ati) F hK hA hP hD hS (c_X4_copies (by omega) (by omega) (by omega) (by omega)) (va_cwS 4 hts gX4_undo_X4_copies rfl rfl rfl (by decide +kernel) ⟨Nat.le_of_ble_eq_true rfl, Nat.le_of_ble_eq_true rfl⟩) [2, 1] [0, 3, 4, 5] [0, 5, 4, 1, 2, 3] ([(h 0, .inr (4, [.ref (h 1), .ref (h 2), .int (nI (k - 1)), .ref (h 3), .ref (h 4), .ref (h 5), .int typed, .int ati])), (h 3, .inl (cI, 667, .inl bef)), (h 4, .inl (cI, 667, .inl tri)), (h 5, .inl (cI, 80, .inl tex))]) rfl rfl (fun _ => rfl) (by decide) (by decide) rfl hl.1 rfl (Nat.le_of_ble_eq_true rfl) ⟨Nat.zero_le _, Nat.zero_le _⟩ dX4_undo_37 (fun _ H locs hw_1 hP hD hS => ?_)
    try dsimp only at hw_1 hP hD
    have hP := vc_arr (g := (unN now past k)) (wsN := MW h cI (unN now past k) past (nI (k - 1)) bef tri tex typed ati) 1 rfl (fun j hj => by unfold unN; rw [if_neg c4, pk_cpy_in (by omega) (by omega)]; unfold hsl; congr 1; omega) rfl hP
    have hD := vc_arrD (g := (unN now past k)) (wsN := MW h cI (unN now past k) past (nI (k - 1)) bef tri tex typed ati) 1 rfl rfl hD
    refine lv_aload_n hx hb dX4_undo_40 rfl (lv_at hl 0 rfl) ?_
    refine va_get (D := D) (ci := 4) (v := .int (nI (k - 1))) (C := RX4) (T := TX4) (N := 8) hx hb hts hI4 hown hK.1 hP 0 rfl rfl 2 (by decide) lk29 (fun _ h9 => h9) rfl dX4_undo_41 ?_
    exact RETN _ _ (nI (k - 1)) () _ _ dX4_undo_44 (rfl) (by unfold unA; rw [if_neg c4]) hP hD hS
  · skip
    replace c4 : k = 0 := by rw [show (0 : Int32) = nI 0 from rfl, nI_eq (by omega) (by omega)] at c4; exact c4
    refine lv_bipush (v := (-2)) hx hb dX4_undo_7 (by decide) ?_
    have e1 : unN now past k = now := if_pos c4
    have hP : va_P D vwCl (MW h cI (unN now past k) past (nI (k - 1)) bef tri tex typed ati) s0.heap := by rw [e1, show k - 1 = k by omega]; exact hP
    have hD : va_D A0 (MW h cI (unN now past k) past (nI (k - 1)) bef tri tex typed ati) := by rw [e1, show k - 1 = k by omega]; exact hD
    exact RETN _ _ (-2) () _ _ dX4_undo_9 (rfl) (by unfold unA; rw [if_pos c4]) hP hD hS
set_option maxHeartbeats 4000000 in
set_option maxRecDepth 100000 in
theorem c_X4_append {l : Launch} {D : va_G} {cI cG cC cR : ClassId} {h : Nat → Nat} {now past bef tri tex : Nat → Int32} {pasts ati : Int32} {tl : Nat} (htl : tl ≤ 80) {v : Int32} : CtI l yX4_append wsX4_append { frames := 1, cells := 0, slots := 0, locals := 22 } D (TY cI cG cC cR) [.ref (h 0), .int v] (MW h cI now past pasts bef tri tex (nI tl) ati) (fun (_ : Unit) => MW h cI now past pasts bef tri (apT tex tl v) (nI (apL tl v)) ati) (fun (r : Int32) (_ : Unit) => r = apA tl v) := by
  refine CtI.of (cc := cX4_append) (maxL := 2) (ty := .int) (by decide) rfl (Nat.le_of_ble_eq_true rfl) ?_
  intro P0 e0 s0 m0 a0 b0 t0 c0 A0 Q0 ls F hK hP hD hA RETN hl
  obtain ⟨hx, hb, hml, hown, hts⟩ := id F
  have hS : va_S A0 s0.heap s0.heap [] := va_S.rf
  have hl : lv_has ls 2 [(0, .ref (h 0)), (1, .int v)] := hl
  have lk102 := hts (.fieldLink RX4 102 "SlotMapsModel" "typed" "I") (by decide +kernel)
  have lk22 := hts (.fieldLink RX4 22 "SlotMapsModel" "text" "[I") (by decide +kernel)
  have hI4 : ∀ w ∈ u_ws RX4 TX4 8, w ∈ wsX4_append := by decide +kernel
  refine lv_iload_n hx hb dX4_append_0 rfl (lv_at hl 1 rfl) ?_
  refine lv_iconst (v := (nI 1)) hx hb dX4_append_1 (by decide) ?_
  refine lv_sipush (v := (nI 255)) hx hb dX4_append_2 (by decide) ?_
  refine cl_S0 (As := [.int v, .int (nI 1), .int (nI 255)]) (rest := []) F hK hA hP hD hS (c_X4_in) (va_cwS 3 hts gX4_append_X4_in rfl rfl rfl (by decide +kernel) ⟨Nat.le_of_ble_eq_true rfl, Nat.le_of_ble_eq_true rfl⟩) rfl hl.1 rfl (Nat.le_of_ble_eq_true rfl) ⟨Nat.zero_le _, Nat.zero_le _⟩ dX4_append_5 (fun r_1 H locs hw_2 hP hS => ?_)
  try dsimp only at hw_2
  obtain rfl : r_1 = (bI (inB v (nI 1) (nI 255))) := hw_2
  refine lv_if_ne (tgt := 13) hx hb dX4_append_8 (by decide) (fun c8 => ?_) (fun c8 => ?_)
  · skip
    replace c8 : ¬ (bI (inB v (nI 1) (nI 255))) = nI 0 := c8
    refine lv_aload_n hx hb dX4_append_13 rfl (lv_at hl 0 rfl) ?_
    refine va_get (D := D) (ci := 4) (v := .int (nI tl)) (C := RX4) (T := TX4) (N := 8) hx hb hts hI4 hown hK.1 hP 0 rfl rfl 6 (by decide) lk102 (fun _ h9 => h9) rfl dX4_append_14 ?_
    refine lv_bipush (v := (nI 80)) hx hb dX4_append_17 (by decide) ?_
    refine lv_icmp_ne (tgt := 25) hx hb dX4_append_19 (by decide) (fun c19 => ?_) (fun c19 => ?_)
    · skip
      replace c19 : ¬ tl = 80 := by rw [nI_eq (by omega) (by omega)] at c19; exact c19
      refine lv_aload_n hx hb dX4_append_25 rfl (lv_at hl 0 rfl) ?_
      refine va_get (D := D) (ci := 4) (v := .ref (h 5)) (C := RX4) (T := TX4) (N := 8) hx hb hts hI4 hown hK.1 hP 0 rfl rfl 5 (by decide) lk22 (fun _ h9 => h9) rfl dX4_append_26 ?_
      refine lv_aload_n hx hb dX4_append_29 rfl (lv_at hl 0 rfl) ?_
      refine va_get (D := D) (ci := 4) (v := .int (nI tl)) (C := RX4) (T := TX4) (N := 8) hx hb hts hI4 hown hK.1 hP 0 rfl rfl 6 (by decide) lk102 (fun _ h9 => h9) rfl dX4_append_30 ?_
      refine lv_iload_n hx hb dX4_append_33 rfl (lv_at hl 1 rfl) ?_
      refine n_iast hx hb hK hP hD hS 5 0 rfl rfl (by decide) (by omega) dX4_append_34 (wsN := MW h cI now past pasts bef tri (upd tex tl v) (nI tl) ati) rfl (fun H locs hP hD hS => ?_)
      refine lv_aload_n hx hb dX4_append_35 rfl (lv_at hl 0 rfl) ?_
      refine lv_dup hx hb dX4_append_36 rfl ?_
      refine va_get (D := D) (ci := 4) (v := .int (nI tl)) (C := RX4) (T := TX4) (N := 8) hx hb hts hI4 hown hK.1 hP 0 rfl rfl 6 (by decide) lk102 (fun _ h9 => h9) rfl dX4_append_37 ?_
      refine lv_iconst (v := (nI 1)) hx hb dX4_append_40 (by decide) ?_
      refine lv_iadd hx hb dX4_append_41 ?_
      refine n_as (x' := nI (tl + 1)) (nI_add _ _) ?_
      refine va_put (D := D) (ci := 4) (v := .int (nI (tl + 1))) (ty := .int) (C := RX4) (T := TX4) (N := 8) hx hb hts hI4 tyX4 tyX4_ok nmX4 hown hK.1 hP hD hS 0 rfl rfl 6 (by decide) lk102 (fun _ h9 => h9) rfl (by decide +kernel) rfl rfl (Nat.le_of_ble_eq_true rfl) dX4_append_42 (fun H locs hP hD hS => ?_)
      have hP : va_P D vwCl (MW h cI now past pasts bef tri (upd tex tl v) (nI (tl + 1)) ati) H := hP
      have hD : va_D A0 (MW h cI now past pasts bef tri (upd tex tl v) (nI (tl + 1)) ati) := hD
      refine lv_aload_n hx hb dX4_append_45 rfl (lv_at hl 0 rfl) ?_
      refine va_get (D := D) (ci := 4) (v := .int (nI (tl + 1))) (C := RX4) (T := TX4) (N := 8) hx hb hts hI4 hown hK.1 hP 0 rfl rfl 6 (by decide) lk102 (fun _ h9 => h9) rfl dX4_append_46 ?_
      have e1 : apT tex tl v = upd tex tl v := if_pos ⟨bI_ct c8, c19⟩
      have e2 : apL tl v = tl + 1 := if_pos ⟨bI_ct c8, c19⟩
      have hP : va_P D vwCl (MW h cI now past pasts bef tri (apT tex tl v) (nI (apL tl v)) ati) H := by rw [e1, e2]; exact hP
      have hD : va_D A0 (MW h cI now past pasts bef tri (apT tex tl v) (nI (apL tl v)) ati) := by rw [e1, e2]; exact hD
      exact RETN _ _ (nI (tl + 1)) () _ _ dX4_append_49 (rfl) (by unfold apA; rw [bI_ct c8, if_pos rfl, if_neg c19]) hP hD hS
    · skip
      replace c19 : tl = 80 := by rw [nI_eq (by omega) (by omega)] at c19; exact c19
      refine lv_bipush (v := (-3)) hx hb dX4_append_22 (by decide) ?_
      have e1 : apT tex tl v = tex := if_neg (fun q => q.2 c19)
      have e2 : apL tl v = tl := if_neg (fun q => q.2 c19)
      have hP : va_P D vwCl (MW h cI now past pasts bef tri (apT tex tl v) (nI (apL tl v)) ati) H := by rw [e1, e2]; exact hP
      have hD : va_D A0 (MW h cI now past pasts bef tri (apT tex tl v) (nI (apL tl v)) ati) := by rw [e1, e2]; exact hD
      exact RETN _ _ (-3) () _ _ dX4_append_24 (rfl) (by unfold apA; rw [bI_ct c8, c19]; rfl) hP hD hS
  · skip
    replace c8 : (bI (inB v (nI 1) (nI 255))) = nI 0 := c8
    refine lv_iconst (v := (-1)) hx hb dX4_append_11 (by decide) ?_
    have e1 : apT tex tl v = tex := if_neg (fun q => by rw [bI_cf c8] at q; exact absurd q.1 (by decide))
    have e2 : apL tl v = tl := if_neg (fun q => by rw [bI_cf c8] at q; exact absurd q.1 (by decide))
    have hP : va_P D vwCl (MW h cI now past pasts bef tri (apT tex tl v) (nI (apL tl v)) ati) H := by rw [e1, e2]; exact hP
    have hD : va_D A0 (MW h cI now past pasts bef tri (apT tex tl v) (nI (apL tl v)) ati) := by rw [e1, e2]; exact hD
    exact RETN _ _ (-1) () _ _ dX4_append_12 (rfl) (by unfold apA; rw [bI_cf c8]; rfl) hP hD hS
set_option maxHeartbeats 4000000 in
set_option maxRecDepth 100000 in
theorem c_X4_clearText {l : Launch} {D : va_G} {cI cG cC cR : ClassId} {h : Nat → Nat} {now past bef tri tex : Nat → Int32} {pasts ati : Int32} {tl : Nat} (htl : tl ≤ 80) : CtI l yX4_clearText wsX4_clearText { frames := 0, cells := 0, slots := 0, locals := 0 } D (TY cI cG cC cR) [.ref (h 0)] (MW h cI now past pasts bef tri tex (nI tl) ati) (fun (_ : Unit) => MW h cI now past pasts bef tri tex (nI 0) ati) (fun (r : Int32) (_ : Unit) => r = nI tl) := by
  refine CtI.of (cc := cX4_clearText) (maxL := 2) (ty := .int) (by decide) rfl (Nat.le_of_ble_eq_true rfl) ?_
  intro P0 e0 s0 m0 a0 b0 t0 c0 A0 Q0 ls F hK hP hD hA RETN hl
  obtain ⟨hx, hb, hml, hown, hts⟩ := id F
  have hS : va_S A0 s0.heap s0.heap [] := va_S.rf
  have hl : lv_has ls 2 [(0, .ref (h 0))] := hl
  have lk102 := hts (.fieldLink RX4 102 "SlotMapsModel" "typed" "I") (by decide +kernel)
  have hI4 : ∀ w ∈ u_ws RX4 TX4 8, w ∈ wsX4_clearText := by decide +kernel
  refine lv_aload_n hx hb dX4_clearText_0 rfl (lv_at hl 0 rfl) ?_
  refine va_get (D := D) (ci := 4) (v := .int (nI tl)) (C := RX4) (T := TX4) (N := 8) hx hb hts hI4 hown hK.1 hP 0 rfl rfl 6 (by decide) lk102 (fun _ h9 => h9) rfl dX4_clearText_1 ?_
  refine lv_istore_n (lv' := [(1, .int (nI tl)), (0, .ref (h 0))]) hx hb dX4_clearText_4 rfl hl (by decide) rfl (fun ls hl => ?_)
  refine lv_aload_n hx hb dX4_clearText_5 rfl (lv_at hl 1 rfl) ?_
  refine lv_iconst (v := (nI 0)) hx hb dX4_clearText_6 (by decide) ?_
  refine va_put (D := D) (ci := 4) (v := .int (nI 0)) (ty := .int) (C := RX4) (T := TX4) (N := 8) hx hb hts hI4 tyX4 tyX4_ok nmX4 hown hK.1 hP hD hS 0 rfl rfl 6 (by decide) lk102 (fun _ h9 => h9) rfl (by decide +kernel) rfl rfl (Nat.le_of_ble_eq_true rfl) dX4_clearText_7 (fun H locs hP hD hS => ?_)
  have hP : va_P D vwCl (MW h cI now past pasts bef tri tex (nI 0) ati) H := hP
  have hD : va_D A0 (MW h cI now past pasts bef tri tex (nI 0) ati) := hD
  refine lv_iload_n hx hb dX4_clearText_10 rfl (lv_at hl 0 rfl) ?_
  exact RETN _ _ (nI tl) () _ _ dX4_clearText_11 (rfl) (rfl) hP hD hS
end
section
/-! the reference's looks and programs -/
theorem sw_in {v : Int32} {lo hi : Nat} (h : hi < 2 ^ 31) : (v.toInt < lo ∨ (hi : Int) < v.toInt) ∨ ∃ j, lo ≤ j ∧ j ≤ hi ∧ v = nI j := by
  by_cases h1 : v.toInt < lo
  · exact Or.inl (Or.inl h1)
  · by_cases h2 : (hi : Int) < v.toInt
    · exact Or.inl (Or.inr h2)
    · right
      obtain ⟨j, hj, rfl⟩ := nI_of (x := v) (by rw [Int32.lt_iff_toInt_lt, Int32.toInt_zero]; omega)
      rw [nI_toInt hj] at h1 h2
      exact ⟨j, by omega, by omega, rfl⟩
theorem inB_out {v : Int32} {lo hi : Nat} (h2 : lo < 2 ^ 31) (h3 : hi < 2 ^ 31) (h : v.toInt < lo ∨ (hi : Int) < v.toInt) : inB v (nI lo) (nI hi) = false := by
  unfold inB
  rw [Bool.and_eq_false_iff, decide_eq_false_iff_not, decide_eq_false_iff_not, Int32.le_iff_toInt_le, Int32.le_iff_toInt_le, nI_toInt h2, nI_toInt h3]
  omega
/-- the bits are 0 or 1 -/
def Bits (f : Nat → Int32) : Prop := ∀ w, w < 10 → f (640 + w) = nI 0 ∨ f (640 + w) = nI 1
theorem bit_add {x : Int32} {n : Nat} (h : x = nI 0 ∨ x = nI 1) : nI n + x = nI (n + (if x = nI 1 then 1 else 0)) := by
  rcases h with h | h
  · rw [h, if_neg (by decide), nI_add]
  · rw [h, if_pos rfl, nI_add]
theorem rt_01 (f : Nat → Int32) (w : Nat) : rt f w = nI 0 ∨ rt f w = nI 1 := by
  unfold rt bI
  split
  · exact Or.inr rfl
  · exact Or.inl rfl
def biN (f : Nat → Int32) (n : Nat) : Nat := fb_ct (fun w => decide (f (640 + w) = nI 1)) n
def fuN (f : Nat → Int32) (n : Nat) : Nat := fb_ct (fun w => decide (rt f w = nI 1)) n
theorem ct_s (p : Nat → Prop) [DecidablePred p] (n : Nat) : fb_ct (fun w => decide (p w)) n + (if p n then 1 else 0) = fb_ct (fun w => decide (p w)) (n + 1) := by
  rw [fb_ct_succ]
  by_cases h : p n <;> simp [h]
/-- runs of free slots: how many, and the longest -/
def rsg (f : Nat → Int32) : Nat → Nat → Nat → Nat → Nat → Nat × Nat
  | 0, _, _, n, m => (n, m)
  | j + 1, s, r, n, m => rsg f j (s + 1) (if f s = nI 0 then r + 1 else 0) (n + (if (if f s = nI 0 then r + 1 else 0) = 1 then 1 else 0)) (if m < (if f s = nI 0 then r + 1 else 0) then (if f s = nI 0 then r + 1 else 0) else m)
theorem rsg_s {f : Nat → Int32} {s r n m r' n' m' : Nat} (h : s < 320) (hr : r' = (if f s = nI 0 then r + 1 else 0)) (hn : n' = n + (if r' = 1 then 1 else 0)) (hm : m' = (if m < r' then r' else m)) : rsg f (320 - s) s r n m = rsg f (320 - (s + 1)) (s + 1) r' n' m' := by
  rw [show 320 - s = (320 - (s + 1)) + 1 by omega, rsg, ← hr, ← hn, ← hm]
theorem rsg_e {f : Nat → Int32} {s r n m : Nat} (h : 320 ≤ s) : rsg f (320 - s) s r n m = (n, m) := by rw [show 320 - s = 0 by omega]; rfl
def blN (f : Nat → Int32) (n : Nat) : Nat := fb_ct (fun b => isB f (nI b)) n
/-- what count answers -/
def ctN (f : Nat → Int32) (k tl : Nat) : Nat → Int32
  | 0 => nI (tot f (nI 0))
  | 1 => nI (tot f (nI 1))
  | 2 => nI (tot f (nI 2))
  | 3 => nI (tot f (nI 3))
  | 4 => nI (blN f 8)
  | 5 => f 666
  | 6 => nI (biN f 10)
  | 7 => nI (fuN f 10)
  | 8 => nI (rsg f 320 0 0 0 0).1
  | 9 => nI (rsg f 320 0 0 0 0).2
  | 10 => nI k
  | 11 => nI tl
  | _ => -1
def ctA (f : Nat → Int32) (k tl : Nat) (v : Int32) : Int32 := if inB v (nI 0) (nI 11) = true then ctN f k tl v.toNatClampNeg else -1
theorem ctA_n {f : Nat → Int32} {k tl : Nat} {v : Int32} (h : inB v (nI 0) (nI 11) = false) : ctA f k tl v = -1 := by unfold ctA; rw [h]; rfl
theorem ctA_j {f : Nat → Int32} {k tl j : Nat} (h : j ≤ 11) : ctA f k tl (nI j) = ctN f k tl j := by
  unfold ctA
  rw [inB_of (by omega) (Nat.zero_le _) h, nI_clamp (by omega)]
  rfl
def slA (f : Nat → Int32) (a b : Int32) : Int32 := if (inB a (nI 0) (nI 319) && inB b (nI 0) (nI 1)) = true then (if b = nI 0 then f a.toNatClampNeg else if f (320 + a.toNatClampNeg) = nI 0 then -9 else f (320 + a.toNatClampNeg) - nI 1) else -1
theorem slA_n {f : Nat → Int32} {a b : Int32} (h : inB a (nI 0) (nI 319) = false ∨ inB b (nI 0) (nI 1) = false) : slA f a b = -1 := by
  unfold slA
  rcases h with h | h <;> simp [h]
theorem slA_j {f : Nat → Int32} {a b : Nat} (h : a ≤ 319) (h2 : b ≤ 1) : slA f (nI a) (nI b) = (if b = 0 then f a else if f (320 + a) = nI 0 then -9 else f (320 + a) - nI 1) := by
  unfold slA
  rw [inB_of (by omega) (Nat.zero_le _) h, inB_of (by omega) (Nat.zero_le _) h2, nI_clamp (by omega)]
  rcases (show b = 0 ∨ b = 1 by omega) with rfl | rfl <;> rfl
def wdN (f : Nat → Int32) (w j : Nat) : Int32 := if j < 4 then nI (cw f w (nI j)) else if j = 4 then f (640 + w) else if j = 5 then rt f w else oI (fi f w)
def wdA (f : Nat → Int32) (a b : Int32) : Int32 := if (inB a (nI 0) (nI 9) && inB b (nI 0) (nI 6)) = true then wdN f a.toNatClampNeg b.toNatClampNeg else -1
theorem wdA_n {f : Nat → Int32} {a b : Int32} (h : inB a (nI 0) (nI 9) = false ∨ inB b (nI 0) (nI 6) = false) : wdA f a b = -1 := by
  unfold wdA
  rcases h with h | h <;> simp [h]
theorem wdA_j {f : Nat → Int32} {a b : Nat} (h : a ≤ 9) (h2 : b ≤ 6) : wdA f (nI a) (nI b) = wdN f a b := by
  unfold wdA
  rw [inB_of (by omega) (Nat.zero_le _) h, inB_of (by omega) (Nat.zero_le _) h2, nI_clamp (by omega), nI_clamp (by omega)]
  rfl
def bkN (f : Nat → Int32) (p n j : Nat) : Nat := fb_ct (fun i => decide (f (p + i) = (if j = 2 then nI 1 else nI 3))) n
theorem bkN_le (f : Nat → Int32) (p n j : Nat) : bkN f p n j ≤ n := fb_ct_le _ _
def bkA (f : Nat → Int32) (a b : Int32) : Int32 := if (inB a (nI 0) (nI 7) && inB b (nI 0) (nI 3)) = true then (if isB f a = true then (if b = nI 0 then f (650 + 2 * a.toNatClampNeg) else if b = nI 1 then f (650 + 2 * a.toNatClampNeg + 1) else nI (bkN f (f (650 + 2 * a.toNatClampNeg)).toNatClampNeg (f (650 + 2 * a.toNatClampNeg + 1)).toNatClampNeg b.toNatClampNeg)) else -9) else -1
theorem bkA_n {f : Nat → Int32} {a b : Int32} (h : inB a (nI 0) (nI 7) = false ∨ inB b (nI 0) (nI 3) = false) : bkA f a b = -1 := by
  unfold bkA
  rcases h with h | h <;> simp [h]
theorem bkA_9 {f : Nat → Int32} {a b : Nat} (h : a ≤ 7) (h2 : b ≤ 3) (h3 : isB f (nI a) = false) : bkA f (nI a) (nI b) = -9 := by
  unfold bkA
  rw [inB_of (by omega) (Nat.zero_le _) h, inB_of (by omega) (Nat.zero_le _) h2, h3]
  rfl
theorem bkA_j {f : Nat → Int32} {a b p z : Nat} (h : a ≤ 7) (h2 : b ≤ 3) (h3 : isB f (nI a) = true) (hp : f (650 + 2 * a) = nI p) (hz : f (650 + 2 * a + 1) = nI z) (hpz : p + z ≤ 320) : bkA f (nI a) (nI b) = (if b = 0 then nI p else if b = 1 then nI z else nI (bkN f p z b)) := by
  unfold bkA
  rw [inB_of (by omega) (Nat.zero_le _) h, inB_of (by omega) (Nat.zero_le _) h2, h3, nI_clamp (by omega), hp, hz, nI_clamp (by omega), nI_clamp (by omega), nI_clamp (by omega)]
  rcases (show b = 0 ∨ b = 1 ∨ b = 2 ∨ b = 3 by omega) with rfl | rfl | rfl | rfl <;> rfl
/-- a bit is not right -/
def wr (f : Nat → Int32) (w : Nat) : Bool := decide (¬ f (640 + w) = rt f w)
def wr1 (f : Nat → Int32) (w : Nat) : Bool := decide (¬ f (640 + w) = rt f w ∧ f (640 + w) = nI 1)
def adA (f : Nat → Int32) (v : Int32) : Int32 := if inB v (nI 0) (nI 2) = true then (if v = nI 0 then nI (fb_ct (wr f) 10) else if v = nI 1 then oI (ls1 (wr f) 10 0) else nI (fb_ct (wr1 f) 10)) else -1
theorem adA_n {f : Nat → Int32} {v : Int32} (h : inB v (nI 0) (nI 2) = false) : adA f v = -1 := by unfold adA; rw [h]; rfl
theorem adA_j {f : Nat → Int32} {j : Nat} (h : j ≤ 2) : adA f (nI j) = (if j = 0 then nI (fb_ct (wr f) 10) else if j = 1 then oI (ls1 (wr f) 10 0) else nI (fb_ct (wr1 f) 10)) := by
  unfold adA
  rw [inB_of (by omega) (Nat.zero_le _) h]
  rcases (show j = 0 ∨ j = 1 ∨ j = 2 by omega) with rfl | rfl | rfl <;> rfl
/-- one less than n -/
def dn (n : Nat) : Int32 := nI n - nI 1
theorem dn_s (n : Nat) : dn (n + 1) = nI n := by unfold dn; rw [pk_sub (by omega)]; rfl
theorem dn_d (n : Nat) : nI n + Int32.ofInt (-1) = dn n := by unfold dn; rw [Int32.sub_eq_add_neg]; rfl
theorem dn_0 {n : Nat} (hn : n ≤ 10) (h : ¬ dn n < 0) : ∃ w, n = w + 1 := by
  cases n with
  | zero => exact absurd (by decide) h
  | succ w => exact ⟨w, rfl⟩
theorem dn_1 {n : Nat} (hn : n ≤ 10) (h : dn n < 0) : n = 0 := by
  cases n with
  | zero => rfl
  | succ w =>
    rw [dn_s] at h
    exact absurd h (nI_pos (by omega))
def nxA (f : Nat → Int32) (v : Int32) : Int32 := if inB v (nI 0) (nI 2) = true then (match (tk f).1 with
  | none => -9
  | some s => if v = nI 0 then nI s else if v = nI 1 then (tk f).2 666 - f 666 else if tot (tk f).2 (nI 2) < tot f (nI 2) then nI 1 else nI 0) else -1
theorem nxA_n {f : Nat → Int32} {v : Int32} (h : inB v (nI 0) (nI 2) = false) : nxA f v = -1 := by unfold nxA; rw [h]; rfl
theorem nxA_0 {f : Nat → Int32} {j : Nat} (h : j ≤ 2) (ho : (tk f).1 = none) : nxA f (nI j) = -9 := by
  unfold nxA
  rw [inB_of (by omega) (Nat.zero_le _) h, ho]
  rfl
theorem nxA_j {f : Nat → Int32} {j s : Nat} (h : j ≤ 2) (ho : (tk f).1 = some s) : nxA f (nI j) = (if j = 0 then nI s else if j = 1 then (tk f).2 666 - f 666 else if tot (tk f).2 (nI 2) < tot f (nI 2) then nI 1 else nI 0) := by
  unfold nxA
  rw [inB_of (by omega) (Nat.zero_le _) h, ho]
  rcases (show j = 0 ∨ j = 1 ∨ j = 2 by omega) with rfl | rfl | rfl <;> rfl
def raA (f : Nat → Int32) (v : Int32) : Int32 := if inB v (nI 1) (nI 64) = true then oI (rn f v.toNatClampNeg 320 0 0) else -1
def pfA (f : Nat → Int32) (v : Int32) : Int32 := if szB v = true then oI (pl f v.toNatClampNeg) else -1
/-- how many slots the takes come to, word by word -/
def rc (f : Nat → Int32) (w : Nat) : Nat := if f (640 + w) = nI 0 ∨ 0 < cw f w (nI 2) then cw f w (nI 0) + cw f w (nI 2) else 0
def reach (f : Nat → Int32) : Nat := fb_sm (rc f) 10
theorem rc_cong {f g : Nat → Int32} {w : Nat} (h : ∀ i, i < 32 → g (32 * w + i) = f (32 * w + i)) (h2 : g (640 + w) = f (640 + w)) : rc g w = rc f w := by
  unfold rc
  rw [h2, cw_cong h, cw_cong h]
theorem reach_one {f g : Nat → Int32} {w : Nat} (hw : w < 10) (h : ∀ x, x < 10 → x ≠ w → rc g x = rc f x) : reach g + rc f w = reach f + rc g w := by
  have h1 := fb_sm_upd (rc f) (rc g w) hw
  have h2 : fb_sm (fun k => if k = w then rc g w else rc f k) 10 = reach g := fb_sm_cong (fun x hx => by
    by_cases e : x = w
    · rw [if_pos e, e]
    · rw [if_neg e, h x hx e])
  rw [h2] at h1
  exact h1
theorem cw_none {f : Nat → Int32} {w : Nat} (h : fi f w = none) : cw f w (nI 0) = 0 := by
  unfold cw
  rw [fb_ct_zero]
  intro i hi
  exact ls1_none h (32 * w + i) (by omega) (by omega)
theorem cw_set {f : Nat → Int32} {s : Nat} {k x : Int32} : cw (upd f s x) (s / 32) k + (if f s = k then 1 else 0) = cw f (s / 32) k + (if x = k then 1 else 0) := by
  have h := fb_ct_upd (fun i => decide (f (32 * (s / 32) + i) = k)) (decide (x = k)) (i := s % 32) (n := 32) (Nat.mod_lt _ (by decide))
  rw [show 32 * (s / 32) + s % 32 = s by omega] at h
  have e : cw (upd f s x) (s / 32) k = fb_ct (fun j => if j = s % 32 then decide (x = k) else decide (f (32 * (s / 32) + j) = k)) 32 := fb_ct_cong (fun i hi => by
    by_cases q : i = s % 32
    · rw [if_pos q, q, show 32 * (s / 32) + s % 32 = s by omega, upd_s]
    · rw [if_neg q, upd_n _ _ (by omega)])
  rw [e]
  simp only [decide_eq_true_eq] at h
  exact h
theorem lkP_n (f : Nat → Int32) {j : Nat} (h : j ≠ 666) : lkP f j = f j := upd_n _ _ h
theorem reach_full {f : Nat → Int32} {w : Nat} (hw : w < 10) (c : f (640 + w) = nI 0) (ho : fi (lkP f) w = none) : reach (upd (lkP f) (640 + w) (nI 1)) = reach f := by
  have hs : ∀ j, j < 640 → upd (lkP f) (640 + w) (nI 1) j = f j := fun j hj => by rw [upd_n _ _ (by omega), lkP_n _ (by omega)]
  have hz : cw f w (nI 0) = 0 := (cw_cong (fun i hi => (lkP_n f (by omega)).symm)).trans (cw_none ho)
  have hx : ∀ x, x < 10 → x ≠ w → rc (upd (lkP f) (640 + w) (nI 1)) x = rc f x := fun x hx e => rc_cong (fun i hi => hs _ (by omega)) (by rw [upd_n _ _ (by omega), lkP_n _ (by omega)])
  have h1 := reach_one hw hx
  have h2 : rc (upd (lkP f) (640 + w) (nI 1)) w = rc f w := by
    unfold rc
    rw [upd_s, cw_cong (k := nI 0) (fun i hi => hs _ (by omega)), cw_cong (k := nI 2) (fun i hi => hs _ (by omega)), hz, if_pos (Or.inl c)]
    by_cases e : 0 < cw f w (nI 2)
    · rw [if_pos (Or.inr e)]
    · rw [if_neg (fun q => q.elim (by decide) e)]
      omega
  omega
theorem rc_rt {f : Nat → Int32} {w : Nat} (h : f (640 + w) = rt f w) : rc f w = cw f w (nI 0) + cw f w (nI 2) := by
  unfold rc
  by_cases e : cw f w (nI 0) = 0
  · by_cases e2 : 0 < cw f w (nI 2)
    · rw [if_pos (Or.inr e2)]
    · rw [if_neg (fun q => q.elim (fun q => by
        rw [h, rt, bI, if_pos (decide_eq_true e)] at q
        exact absurd q (by decide)) e2)]
      omega
  · rw [if_pos (Or.inl (by rw [h, rt, bI, if_neg (by simp [e])]; rfl))]
theorem rt_bc1 {f : Nat → Int32} {s : Nat} {x : Int32} (hs : s < 320) : bc1 f s x (640 + s / 32) = rt (bc1 f s x) (s / 32) := by
  unfold bc1
  rw [upd_s]
  exact rt_cong (fun i hi => (upd_n _ _ (by omega)).symm)
theorem reach_take {f : Nat → Int32} {w s : Nat} (hw : w < 10) (c : f (640 + w) = nI 0) (ho : fi (lkP f) w = some s) : reach (bc1 (lkP f) s (nI 1)) + 1 = reach f := by
  obtain ⟨h1, h2, h3⟩ := fi_lt ho
  obtain rfl : w = s / 32 := by omega
  have hl : ∀ j, j < 666 → lkP f j = f j := fun j hj => lkP_n _ (by omega)
  have hx : ∀ x, x < 10 → x ≠ s / 32 → rc (bc1 (lkP f) s (nI 1)) x = rc f x := fun x hx e => rc_cong (fun i hi => by
    unfold bc1
    rw [upd_n _ _ (by omega), upd_n _ _ (by omega), hl _ (by omega)]) (by unfold bc1; rw [upd_n _ _ (by omega), upd_n _ _ (by omega), hl _ (by omega)])
  have h4 := reach_one hw hx
  have h5 := rc_rt (rt_bc1 (f := lkP f) (x := nI 1) (show s < 320 by omega))
  have e : ∀ k, cw (bc1 (lkP f) s (nI 1)) (s / 32) k = cw (upd (lkP f) s (nI 1)) (s / 32) k := fun k => cw_cong (fun i hi => by unfold bc1; rw [upd_n _ _ (by omega)])
  have h6 := cw_set (f := lkP f) (s := s) (k := nI 0) (x := nI 1)
  have h7 := cw_set (f := lkP f) (s := s) (k := nI 2) (x := nI 1)
  rw [h3, if_pos rfl, if_neg (by decide)] at h6
  rw [h3, if_neg (by decide), if_neg (by decide)] at h7
  have h8 : rc f (s / 32) = cw f (s / 32) (nI 0) + cw f (s / 32) (nI 2) := if_pos (Or.inl c)
  have h9 : ∀ k, cw (lkP f) (s / 32) k = cw f (s / 32) k := fun k => cw_cong (fun i hi => hl _ (by omega))
  rw [h9] at h6 h7
  rw [e, e] at h5
  omega
theorem gt_some : ∀ {n w : Nat} {f : Nat → Int32} {s : Nat}, w + n = 10 → (gt n w f).1 = some s → reach (gt n w f).2 + 1 = reach f
  | 0, _, _, _, _, h => by cases h
  | n + 1, w, f, s, hw, h => by
    rw [gt] at h ⊢
    by_cases c : f (640 + w) = nI 0
    · rw [if_pos c] at h ⊢
      cases ho : fi (lkP f) w with
      | none =>
        rw [ho] at h
        rw [← reach_full (by omega) c ho]
        exact gt_some (by omega) h
      | some s2 => exact reach_take (by omega) c ho
    · rw [if_neg c] at h ⊢
      exact gt_some (by omega) h
theorem gt_none : ∀ {n w : Nat} {f : Nat → Int32}, w + n = 10 → (gt n w f).1 = none → reach (gt n w f).2 = reach f ∧ (∀ j, j < 640 → (gt n w f).2 j = f j) ∧ (∀ x, x < 10 → w ≤ x → ¬ (gt n w f).2 (640 + x) = nI 0) ∧ (∀ x, x < w → (gt n w f).2 (640 + x) = f (640 + x))
  | 0, w, f, hw, _ => ⟨rfl, fun _ _ => rfl, fun x h1 h2 => absurd h2 (by omega), fun _ _ => rfl⟩
  | n + 1, w, f, hw, h => by
    rw [gt] at h ⊢
    by_cases c : f (640 + w) = nI 0
    · rw [if_pos c] at h ⊢
      cases ho : fi (lkP f) w with
      | none =>
        rw [ho] at h
        obtain ⟨h1, h2, h3, h4⟩ := gt_none (by omega) h
        refine ⟨h1.trans (reach_full (by omega) c ho), fun j hj => ?_, fun x hx hwx => ?_, fun x hx => ?_⟩
        · show (gt n (w + 1) _).2 j = _
          rw [h2 j hj, upd_n _ _ (by omega), lkP_n _ (by omega)]
        · by_cases e : x = w
          · show ¬ (gt n (w + 1) _).2 (640 + x) = _
            rw [h4 x (by omega), e, upd_s]
            decide
          · exact h3 x hx (by omega)
        · show (gt n (w + 1) _).2 (640 + x) = _
          rw [h4 x (by omega), upd_n _ _ (by omega), lkP_n _ (by omega)]
      | some s2 =>
        rw [ho] at h
        cases h
    · rw [if_neg c] at h ⊢
      obtain ⟨h1, h2, h3, h4⟩ := gt_none (by omega) h
      refine ⟨h1, h2, fun x hx hwx => ?_, fun x hx => h4 x (by omega)⟩
      by_cases e : x = w
      · rw [h4 x (by omega), e]
        exact c
      · exact h3 x hx (by omega)
/-- behind a clearing of all, with no word hidden by its bit but by right, as many can be taken as before -/
theorem clF_slot {f : Nat → Int32} {j : Nat} (h : j < 320) (hz : lzc f 10 ≤ 10) : clF f 10 j = if f j = nI 2 then nI 0 else f j := by
  unfold clF
  rw [bec_slot h, clP_in (by omega)]
  by_cases e : f j = nI 2
  · have h1 := cw_pos (f := f) rfl e
    have h2 : lzc f (j / 32) < 10 := by
      have h3 : lzc f (j / 32 + 1) ≤ lzc f 10 := fb_ct_mono _ (by omega)
      rw [lzc_succ, if_pos h1] at h3
      omega
    simp [e, selB, h1, h2]
  · simp [e]
theorem lzc_le (f : Nat → Int32) (w : Nat) : lzc f w ≤ w := fb_ct_le _ _
theorem clF_cw {f : Nat → Int32} {w : Nat} (h : w < 10) : cw (clF f 10) w (nI 2) = 0 ∧ cw (clF f 10) w (nI 0) = cw f w (nI 0) + cw f w (nI 2) := by
  have hs : ∀ i, i < 32 → clF f 10 (32 * w + i) = if f (32 * w + i) = nI 2 then nI 0 else f (32 * w + i) := fun i hi => clF_slot (by omega) (lzc_le f 10)
  constructor
  · unfold cw
    rw [fb_ct_zero]
    intro i hi
    rw [hs i hi]
    by_cases e : f (32 * w + i) = nI 2
    · rw [if_pos e]; decide
    · rw [if_neg e]; exact decide_eq_false e
  · unfold cw
    rw [← fb_ct_or (fun i hi => by
      rw [decide_eq_true_iff, decide_eq_true_iff]
      intro q
      rw [q.1] at q
      exact absurd q.2 (by decide))]
    refine fb_ct_cong (fun i hi => ?_)
    rw [hs i hi]
    by_cases e : f (32 * w + i) = nI 2
    · rw [if_pos e, e]; decide
    · rw [if_neg e]; simp [e]
theorem clF_bit {f : Nat → Int32} {w : Nat} (h : w < 10) : clF f 10 (640 + w) = if 0 < cw f w (nI 2) then rt (clF f 10) w else f (640 + w) := by
  unfold clF
  rw [bec_bit h]
  have e : anyB (clP f 10 10 0) w = decide (0 < cw f w (nI 2)) := by
    rw [Bool.eq_iff_iff, anyB_iff, decide_eq_true_iff]
    constructor
    · rintro ⟨i, hi, hp⟩
      rw [clP_in (by omega), Bool.and_eq_true, decide_eq_true_iff] at hp
      exact cw_pos (by omega) hp.2
    · intro hp
      obtain ⟨i, hi, hp2⟩ := fb_ct_pos.mp hp
      have h2 : lzc f w < 10 := Nat.lt_of_le_of_lt (lzc_le f w) h
      refine ⟨i, hi, ?_⟩
      rw [clP_in (by omega), show (32 * w + i) / 32 = w by omega]
      simp [selB, hp, h2, of_decide_eq_true hp2]
  rw [e]
  by_cases q : 0 < cw f w (nI 2)
  · rw [if_pos (decide_eq_true q), if_pos q]
    exact rt_cong (fun i hi => by rw [chg_slot (by omega), bec_slot (by omega)])
  · rw [if_neg (by simp [q]), if_neg q]
theorem reach_clear {f : Nat → Int32} (h : ∀ x, x < 10 → ¬ f (640 + x) = nI 0) : reach (clF f 10) = reach f := by
  refine fb_sm_cong (fun w hw => ?_)
  obtain ⟨h1, h2⟩ := clF_cw (f := f) hw
  by_cases e : 0 < cw f w (nI 2)
  · rw [rc_rt (by rw [clF_bit hw, if_pos e]), h1, h2]
    unfold rc
    rw [if_pos (Or.inr e)]
    rfl
  · unfold rc
    rw [h1, clF_bit hw, if_neg e, if_neg (fun q => q.elim (h w hw) (by omega)), if_neg (fun q => q.elim (h w hw) e)]
theorem reach_0 {f : Nat → Int32} (h : ∀ x, x < 10 → ¬ f (640 + x) = nI 0) (h2 : ∀ x, x < 10 → cw f x (nI 2) = 0) : reach f = 0 := by
  have := fb_sm_bound (f := rc f) (c := 0) (n := 10) (fun w hw => by
    unfold rc
    rw [if_neg (fun q => q.elim (h w hw) (by rw [h2 w hw]; omega))]
    omega)
  unfold reach
  omega
theorem clN_0 {f : Nat → Int32} (h : ¬ 0 < clN f 10) : ∀ x, x < 10 → cw f x (nI 2) = 0 := fun x hx => by
  have h1 := fb_sm_zero (f := fun x => if selB f 10 x = true then cw f x (nI 2) else 0) (n := 10) (by unfold clN at h; omega) x hx
  have h2 : (if selB f 10 x = true then cw f x (nI 2) else 0) = 0 := h1
  by_cases e : 0 < cw f x (nI 2)
  · rw [if_pos (by unfold selB; simp [e]; exact Nat.lt_of_le_of_lt (lzc_le f x) hx)] at h2
    exact h2
  · omega
theorem tk_some {f : Nat → Int32} {s : Nat} (h : (tk f).1 = some s) : reach (tk f).2 + 1 = reach f := by
  cases h1 : (gt 10 0 f).1 with
  | some s2 =>
    rw [tk_1 h1]
    exact gt_some rfl h1
  | none =>
    obtain ⟨h3, h4, h5, -⟩ := gt_none (n := 10) (w := 0) rfl h1
    by_cases h2 : 0 < clN (gt 10 0 f).2 10
    · rw [tk_2 h1 h2] at h ⊢
      rw [gt_some rfl h, reach_clear (fun x hx => h5 x hx (Nat.zero_le _)), h3]
    · rw [tk_3 h1 h2] at h
      cases h
theorem tk_none {f : Nat → Int32} (h : (tk f).1 = none) : reach f = 0 := by
  cases h1 : (gt 10 0 f).1 with
  | some s2 =>
    rw [tk_1 h1] at h
    cases h
  | none =>
    obtain ⟨h3, h4, h5, -⟩ := gt_none (n := 10) (w := 0) rfl h1
    by_cases h2 : 0 < clN (gt 10 0 f).2 10
    · rw [tk_2 h1 h2] at h
      obtain ⟨g3, g4, g5, -⟩ := gt_none (n := 10) (w := 0) rfl h
      have e1 := reach_clear (f := (gt 10 0 f).2) (fun x hx => h5 x hx (Nat.zero_le _))
      rw [← h3, ← e1, ← g3]
      exact reach_0 (fun x hx => g5 x hx (Nat.zero_le _)) (fun x hx => (cw_cong (fun i hi => g4 _ (by omega))).trans (clF_cw (f := (gt 10 0 f).2) hx).1)
    · rw [← h3]
      exact reach_0 (fun x hx => h5 x hx (Nat.zero_le _)) (clN_0 h2)
theorem reach_le (f : Nat → Int32) : reach f ≤ 640 := by
  refine Nat.le_trans (fb_sm_bound (c := 64) (fun w _ => ?_)) (by decide)
  have h1 := cw_le f w (nI 0)
  have h2 := cw_le f w (nI 2)
  unfold rc
  split <;> omega
set_option maxHeartbeats 4000000 in
set_option maxRecDepth 100000 in
theorem c_X4_bits {l : Launch} {D : va_G} {cI cG cC cR : ClassId} {h : Nat → Nat} {now past bef tri tex : Nat → Int32} {pasts typed ati : Int32} (hbt : Bits now) : CtI l yX4_bits wsX4_bits { frames := 0, cells := 0, slots := 0, locals := 0 } D (TY cI cG cC cR) [.ref (h 0)] (MW h cI now past pasts bef tri tex typed ati) (fun (_ : Unit) => MW h cI now past pasts bef tri tex typed ati) (fun (r : Int32) (_ : Unit) => r = nI (biN now 10)) := by
  refine CtI.of (cc := cX4_bits) (maxL := 3) (ty := .int) (by decide) rfl (Nat.le_of_ble_eq_true rfl) ?_
  intro P0 e0 s0 m0 a0 b0 t0 c0 A0 Q0 ls F hK hP hD hA RETN hl
  obtain ⟨hx, hb, hml, hown, hts⟩ := id F
  have hS : va_S A0 s0.heap s0.heap [] := va_S.rf
  have hl : lv_has ls 3 [(0, .ref (h 0))] := hl
  have lk7 := hts (.fieldLink RX4 7 "SlotMapsModel" "now" "[I") (by decide +kernel)
  have hI4 : ∀ w ∈ u_ws RX4 TX4 8, w ∈ wsX4_bits := by decide +kernel
  refine lv_iconst (v := (nI 0)) hx hb dX4_bits_0 (by decide) ?_
  refine lv_istore_n (lv' := [(1, .int (nI 0)), (0, .ref (h 0))]) hx hb dX4_bits_1 rfl hl (by decide) rfl (fun ls hl => ?_)
  refine lv_iconst (v := (nI 0)) hx hb dX4_bits_2 (by decide) ?_
  refine lv_istore_n (lv' := [(2, .int (nI 0)), (1, .int (nI 0)), (0, .ref (h 0))]) hx hb dX4_bits_3 rfl hl (by decide) rfl (fun ls hl => ?_)
  have LP4 : ∀ (nn : Nat) (w : Nat) (n : Nat) (H : Heap) (locs : List Loc) (ls : Array Slot), w ≤ 10 → n = biN now w → 10 - w < nn → va_P D vwCl (MW h cI now past pasts bef tri tex typed ati) H → va_D A0 (MW h cI now past pasts bef tri tex typed ati) → va_S A0 s0.heap H locs → lv_has ls 3 [(2, .int (nI w)), (1, .int (nI n)), (0, .ref (h 0))] → W P0 l e0 { frames := 0, cells := 0, slots := 0, locals := 0 } s0 m0 a0 b0 t0 c0 H locs 0 0 Q0 (F0 m0 4 ls []) := by
    intro nn
    induction nn with
    | zero => intro w n H locs ls hw hn hmu; exact absurd hmu (Nat.not_lt_zero _)
    | succ nn ih4 =>
      intro w n H locs ls hw hn hmu4 hP hD hS hl
      refine lv_iload_n hx hb dX4_bits_4 rfl (lv_at hl 0 rfl) ?_
      refine lv_bipush (v := (nI 10)) hx hb dX4_bits_5 (by decide) ?_
      refine lv_icmp_ge (tgt := 29) hx hb dX4_bits_7 (by decide) (fun c7 => ?_) (fun c7 => ?_)
      · skip
        replace c7 : 10 ≤ w := by rw [nI_leI (by omega) (by omega)] at c7; exact c7
        refine lv_iload_n hx hb dX4_bits_29 rfl (lv_at hl 1 rfl) ?_
        exact RETN _ _ (nI n) () _ _ dX4_bits_30 (rfl) (by rw [hn, show w = 10 by omega]) hP hD hS
      · skip
        replace c7 : ¬ (10 ≤ w) := by rw [nI_leI (by omega) (by omega)] at c7; exact c7
        refine lv_iload_n hx hb dX4_bits_10 rfl (lv_at hl 1 rfl) ?_
        refine lv_aload_n hx hb dX4_bits_11 rfl (lv_at hl 2 rfl) ?_
        refine va_get (D := D) (ci := 4) (v := .ref (h 1)) (C := RX4) (T := TX4) (N := 8) hx hb hts hI4 hown hK.1 hP 0 rfl rfl 0 (by decide) lk7 (fun _ h9 => h9) rfl dX4_bits_12 ?_
        refine lv_sipush (v := (nI 640)) hx hb dX4_bits_15 (by decide) ?_
        refine lv_iload_n hx hb dX4_bits_18 rfl (lv_at hl 0 rfl) ?_
        refine lv_iadd hx hb dX4_bits_19 ?_
        refine n_as (x' := nI (640 + w)) (nI_add _ _) ?_
        refine n_iald hx hb hK hP 1 0 rfl rfl (by decide) (by omega) dX4_bits_20 ?_
        refine lv_iadd hx hb dX4_bits_21 ?_
        refine n_as (x' := (nI (n + (if now (640 + w) = nI 1 then 1 else 0)))) (bit_add (hbt w (by omega))) ?_
        refine lv_istore_n (lv' := [(1, .int (nI (n + (if now (640 + w) = nI 1 then 1 else 0)))), (2, .int (nI w)), (0, .ref (h 0))]) hx hb dX4_bits_22 rfl hl (by decide) rfl (fun ls hl => ?_)
        refine lv_iinc (v := (nI (w + 1))) (lv' := [(2, .int (nI (w + 1))), (1, .int (nI (n + (if now (640 + w) = nI 1 then 1 else 0)))), (0, .ref (h 0))]) hx hb dX4_bits_23 hl (k := 1) rfl (n_inc1 _) (by decide) rfl (fun ls hl => ?_)
        refine lv_goto (tgt := 4) hx hb dX4_bits_26 (by decide) ?_
        exact ih4 (w + 1) (n + (if now (640 + w) = nI 1 then 1 else 0)) _ _ _ (by omega) (by rw [hn]; exact ct_s (fun w => now (640 + w) = nI 1) w) (by omega) hP hD hS (lv_sub hl [0, 1, 2] rfl)
  exact LP4 _ 0 0 _ _ _ (by omega) (rfl) (Nat.lt_succ_self _) hP hD hS (lv_sub hl [0, 1, 2] rfl)
set_option maxHeartbeats 4000000 in
set_option maxRecDepth 100000 in
theorem c_X4_full {l : Launch} {D : va_G} {cI cG cC cR : ClassId} {h : Nat → Nat} {now past bef tri tex : Nat → Int32} {pasts typed ati : Int32} : CtI l yX4_full wsX4_full { frames := 2, cells := 0, slots := 0, locals := 45 } D (TY cI cG cC cR) [.ref (h 0)] (MW h cI now past pasts bef tri tex typed ati) (fun (_ : Unit) => MW h cI now past pasts bef tri tex typed ati) (fun (r : Int32) (_ : Unit) => r = nI (fuN now 10)) := by
  refine CtI.of (cc := cX4_full) (maxL := 3) (ty := .int) (by decide) rfl (Nat.le_of_ble_eq_true rfl) ?_
  intro P0 e0 s0 m0 a0 b0 t0 c0 A0 Q0 ls F hK hP hD hA RETN hl
  obtain ⟨hx, hb, hml, hown, hts⟩ := id F
  have hS : va_S A0 s0.heap s0.heap [] := va_S.rf
  have hl : lv_has ls 3 [(0, .ref (h 0))] := hl
  refine lv_iconst (v := (nI 0)) hx hb dX4_full_0 (by decide) ?_
  refine lv_istore_n (lv' := [(1, .int (nI 0)), (0, .ref (h 0))]) hx hb dX4_full_1 rfl hl (by decide) rfl (fun ls hl => ?_)
  refine lv_iconst (v := (nI 0)) hx hb dX4_full_2 (by decide) ?_
  refine lv_istore_n (lv' := [(2, .int (nI 0)), (1, .int (nI 0)), (0, .ref (h 0))]) hx hb dX4_full_3 rfl hl (by decide) rfl (fun ls hl => ?_)
  have LP4 : ∀ (nn : Nat) (w : Nat) (n : Nat) (H : Heap) (locs : List Loc) (ls : Array Slot), w ≤ 10 → n = fuN now w → 10 - w < nn → va_P D vwCl (MW h cI now past pasts bef tri tex typed ati) H → va_D A0 (MW h cI now past pasts bef tri tex typed ati) → va_S A0 s0.heap H locs → lv_has ls 3 [(2, .int (nI w)), (1, .int (nI n)), (0, .ref (h 0))] → W P0 l e0 { frames := 2, cells := 0, slots := 0, locals := 45 } s0 m0 a0 b0 t0 c0 H locs 0 0 Q0 (F0 m0 4 ls []) := by
    intro nn
    induction nn with
    | zero => intro w n H locs ls hw hn hmu; exact absurd hmu (Nat.not_lt_zero _)
    | succ nn ih4 =>
      intro w n H locs ls hw hn hmu4 hP hD hS hl
      refine lv_iload_n hx hb dX4_full_4 rfl (lv_at hl 0 rfl) ?_
      refine lv_bipush (v := (nI 10)) hx hb dX4_full_5 (by decide) ?_
      refine lv_icmp_ge (tgt := 24) hx hb dX4_full_7 (by decide) (fun c7 => ?_) (fun c7 => ?_)
      · skip
        replace c7 : 10 ≤ w := by rw [nI_leI (by omega) (by omega)] at c7; exact c7
        refine lv_iload_n hx hb dX4_full_24 rfl (lv_at hl 1 rfl) ?_
        exact RETN _ _ (nI n) () _ _ dX4_full_25 (rfl) (by rw [hn, show w = 10 by omega]) hP hD hS
      · skip
        replace c7 : ¬ (10 ≤ w) := by rw [nI_leI (by omega) (by omega)] at c7; exact c7
        refine lv_iload_n hx hb dX4_full_10 rfl (lv_at hl 1 rfl) ?_
        refine lv_aload_n hx hb dX4_full_11 rfl (lv_at hl 2 rfl) ?_
        refine lv_iload_n hx hb dX4_full_12 rfl (lv_at hl 0 rfl) ?_
        refine cl_Vi (b := (h 0)) (As := [.int (nI w)]) (rest := [.int (nI n)]) (wc := MW h cI now past pasts bef tri tex typed ati) (wsN := fun (_ : Unit) => MW h cI now past pasts bef tri tex typed ati) F hK hA hP hD hS (c_X4_right (by omega)) (cwV 1 hts gX4_full_X4_right rfl rfl rfl (by decide +kernel) ⟨Nat.le_of_ble_eq_true rfl, Nat.le_of_ble_eq_true rfl⟩) [0, 1, 2, 3, 4, 5] [] [0, 1, 2, 3, 4, 5] ([]) rfl rfl (fun _ => rfl) (by decide) (by decide) 0 rfl rfl rfl hl.1 rfl (Nat.le_of_ble_eq_true rfl) ⟨Nat.zero_le _, Nat.zero_le _⟩ dX4_full_13 (fun r_2 _ H locs hw_1 hP hD hS => ?_)
        try dsimp only at hw_1 hP hD
        obtain rfl : r_2 = (rt now w) := hw_1
        refine lv_iadd hx hb dX4_full_16 ?_
        refine n_as (x' := (nI (n + (if rt now w = nI 1 then 1 else 0)))) (bit_add (rt_01 now w)) ?_
        refine lv_istore_n (lv' := [(1, .int (nI (n + (if rt now w = nI 1 then 1 else 0)))), (2, .int (nI w)), (0, .ref (h 0))]) hx hb dX4_full_17 rfl hl (by decide) rfl (fun ls hl => ?_)
        refine lv_iinc (v := (nI (w + 1))) (lv' := [(2, .int (nI (w + 1))), (1, .int (nI (n + (if rt now w = nI 1 then 1 else 0)))), (0, .ref (h 0))]) hx hb dX4_full_18 hl (k := 1) rfl (n_inc1 _) (by decide) rfl (fun ls hl => ?_)
        refine lv_goto (tgt := 4) hx hb dX4_full_21 (by decide) ?_
        exact ih4 (w + 1) (n + (if rt now w = nI 1 then 1 else 0)) _ _ _ (by omega) (by rw [hn]; exact ct_s (fun w => rt now w = nI 1) w) (by omega) hP hD hS (lv_sub hl [0, 1, 2] rfl)
  exact LP4 _ 0 0 _ _ _ (by omega) (rfl) (Nat.lt_succ_self _) hP hD hS (lv_sub hl [0, 1, 2] rfl)
set_option maxHeartbeats 4000000 in
set_option maxRecDepth 100000 in
theorem c_X4_runs {l : Launch} {D : va_G} {cI cG cC cR : ClassId} {h : Nat → Nat} {now past bef tri tex : Nat → Int32} {pasts typed ati : Int32} {lg : Nat} (hlg : lg ≤ 1) : CtI l yX4_runs wsX4_runs { frames := 0, cells := 0, slots := 0, locals := 0 } D (TY cI cG cC cR) [.ref (h 0), .int (nI lg)] (MW h cI now past pasts bef tri tex typed ati) (fun (_ : Unit) => MW h cI now past pasts bef tri tex typed ati) (fun (r : Int32) (_ : Unit) => r = nI (if lg = 0 then (rsg now 320 0 0 0 0).1 else (rsg now 320 0 0 0 0).2)) := by
  refine CtI.of (cc := cX4_runs) (maxL := 6) (ty := .int) (by decide) rfl (Nat.le_of_ble_eq_true rfl) ?_
  intro P0 e0 s0 m0 a0 b0 t0 c0 A0 Q0 ls F hK hP hD hA RETN hl
  obtain ⟨hx, hb, hml, hown, hts⟩ := id F
  have hS : va_S A0 s0.heap s0.heap [] := va_S.rf
  have hl : lv_has ls 6 [(0, .ref (h 0)), (1, .int (nI lg))] := hl
  have lk7 := hts (.fieldLink RX4 7 "SlotMapsModel" "now" "[I") (by decide +kernel)
  have hI4 : ∀ w ∈ u_ws RX4 TX4 8, w ∈ wsX4_runs := by decide +kernel
  refine lv_iconst (v := (nI 0)) hx hb dX4_runs_0 (by decide) ?_
  refine lv_istore_n (lv' := [(2, .int (nI 0)), (0, .ref (h 0)), (1, .int (nI lg))]) hx hb dX4_runs_1 rfl hl (by decide) rfl (fun ls hl => ?_)
  refine lv_iconst (v := (nI 0)) hx hb dX4_runs_2 (by decide) ?_
  refine lv_istore_n (lv' := [(3, .int (nI 0)), (2, .int (nI 0)), (0, .ref (h 0)), (1, .int (nI lg))]) hx hb dX4_runs_3 rfl hl (by decide) rfl (fun ls hl => ?_)
  refine lv_iconst (v := (nI 0)) hx hb dX4_runs_4 (by decide) ?_
  refine lv_istore (lv' := [(4, .int (nI 0)), (3, .int (nI 0)), (2, .int (nI 0)), (0, .ref (h 0)), (1, .int (nI lg))]) hx hb dX4_runs_5 hl (by decide) rfl (fun ls hl => ?_)
  refine lv_iconst (v := (nI 0)) hx hb dX4_runs_7 (by decide) ?_
  refine lv_istore (lv' := [(5, .int (nI 0)), (4, .int (nI 0)), (3, .int (nI 0)), (2, .int (nI 0)), (0, .ref (h 0)), (1, .int (nI lg))]) hx hb dX4_runs_8 hl (by decide) rfl (fun ls hl => ?_)
  have LP10 : ∀ (nn : Nat) (sl : Nat) (r : Nat) (n : Nat) (m : Nat) (H : Heap) (locs : List Loc) (ls : Array Slot), sl ≤ 320 → r ≤ sl ∧ n ≤ sl ∧ m ≤ sl → rsg now 320 0 0 0 0 = rsg now (320 - sl) sl r n m → 320 - sl < nn → va_P D vwCl (MW h cI now past pasts bef tri tex typed ati) H → va_D A0 (MW h cI now past pasts bef tri tex typed ati) → va_S A0 s0.heap H locs → lv_has ls 6 [(5, .int (nI sl)), (4, .int (nI r)), (3, .int (nI m)), (2, .int (nI n)), (0, .ref (h 0)), (1, .int (nI lg))] → W P0 l e0 { frames := 0, cells := 0, slots := 0, locals := 0 } s0 m0 a0 b0 t0 c0 H locs 0 0 Q0 (F0 m0 10 ls []) := by
    intro nn
    induction nn with
    | zero => intro sl r n m H locs ls hs hr ha hmu; exact absurd hmu (Nat.not_lt_zero _)
    | succ nn ih10 =>
      intro sl r n m H locs ls hs hr ha hmu10 hP hD hS hl
      refine lv_iload hx hb dX4_runs_10 (lv_at hl 0 rfl) ?_
      refine lv_sipush (v := (nI 320)) hx hb dX4_runs_12 (by decide) ?_
      refine lv_icmp_ge (tgt := 71) hx hb dX4_runs_15 (by decide) (fun c15 => ?_) (fun c15 => ?_)
      · skip
        replace c15 : 320 ≤ sl := by rw [nI_leI (by omega) (by omega)] at c15; exact c15
        refine lv_iload_n hx hb dX4_runs_71 rfl (lv_at hl 5 rfl) ?_
        refine lv_if_eq (tgt := 79) hx hb dX4_runs_72 (by decide) (fun c72 => ?_) (fun c72 => ?_)
        · skip
          replace c72 : lg = 0 := by rw [show (0 : Int32) = nI 0 from rfl, nI_eq (by omega) (by omega)] at c72; exact c72
          refine lv_iload_n hx hb dX4_runs_79 rfl (lv_at hl 3 rfl) ?_
          exact RETN _ _ (nI n) () _ _ dX4_runs_80 (rfl) (by rw [ha, rsg_e (by omega)]; first | rw [if_pos c72] | rw [if_neg c72]) hP hD hS
        · skip
          replace c72 : ¬ (lg = 0) := by rw [show (0 : Int32) = nI 0 from rfl, nI_eq (by omega) (by omega)] at c72; exact c72
          refine lv_iload_n hx hb dX4_runs_75 rfl (lv_at hl 2 rfl) ?_
          refine lv_goto (tgt := 80) hx hb dX4_runs_76 (by decide) ?_
          exact RETN _ _ (nI m) () _ _ dX4_runs_80 (rfl) (by rw [ha, rsg_e (by omega)]; first | rw [if_pos c72] | rw [if_neg c72]) hP hD hS
      · skip
        replace c15 : ¬ (320 ≤ sl) := by rw [nI_leI (by omega) (by omega)] at c15; exact c15
        refine lv_aload_n hx hb dX4_runs_18 rfl (lv_at hl 4 rfl) ?_
        refine va_get (D := D) (ci := 4) (v := .ref (h 1)) (C := RX4) (T := TX4) (N := 8) hx hb hts hI4 hown hK.1 hP 0 rfl rfl 0 (by decide) lk7 (fun _ h9 => h9) rfl dX4_runs_19 ?_
        refine lv_iload hx hb dX4_runs_22 (lv_at hl 0 rfl) ?_
        refine n_iald hx hb hK hP 1 0 rfl rfl (by decide) (by omega) dX4_runs_24 ?_
        refine lv_if_ne (tgt := 35) hx hb dX4_runs_25 (by decide) (fun c25 => ?_) (fun c25 => ?_)
        · skip
          replace c25 : ¬ (now sl) = nI 0 := c25
          refine lv_iconst (v := (nI 0)) hx hb dX4_runs_35 (by decide) ?_
          refine lv_istore (lv' := [(4, .int (nI 0)), (5, .int (nI sl)), (3, .int (nI m)), (2, .int (nI n)), (0, .ref (h 0)), (1, .int (nI lg))]) hx hb dX4_runs_36 hl (by decide) rfl (fun ls hl => ?_)
          refine lv_iload_n hx hb dX4_runs_38 rfl (lv_at hl 3 rfl) ?_
          refine lv_iload hx hb dX4_runs_39 (lv_at hl 0 rfl) ?_
          refine lv_iconst (v := (nI 1)) hx hb dX4_runs_41 (by decide) ?_
          refine lv_icmp_ne (tgt := 49) hx hb dX4_runs_42 (by decide) (fun c42 => ?_) (fun c42 => ?_)
          · skip
            refine lv_iconst (v := (nI 0)) hx hb dX4_runs_49 (by decide) ?_
            refine lv_iadd hx hb dX4_runs_50 ?_
            refine n_as (x' := nI (n + 0)) (nI_add _ _) ?_
            refine lv_istore_n (lv' := [(2, .int (nI (n + 0))), (4, .int (nI 0)), (5, .int (nI sl)), (3, .int (nI m)), (0, .ref (h 0)), (1, .int (nI lg))]) hx hb dX4_runs_51 rfl hl (by decide) rfl (fun ls hl => ?_)
            refine lv_iload hx hb dX4_runs_52 (lv_at hl 1 rfl) ?_
            refine lv_iload_n hx hb dX4_runs_54 rfl (lv_at hl 3 rfl) ?_
            refine lv_icmp_le (tgt := 63) hx hb dX4_runs_55 (by decide) (fun c55 => ?_) (fun c55 => ?_)
            · skip
              replace c55 : 0 ≤ m := by rw [nI_leI (by omega) (by omega)] at c55; exact c55
              refine lv_iload_n hx hb dX4_runs_63 rfl (lv_at hl 3 rfl) ?_
              refine lv_istore_n (lv' := [(3, .int (nI m)), (2, .int (nI (n + 0))), (4, .int (nI 0)), (5, .int (nI sl)), (0, .ref (h 0)), (1, .int (nI lg))]) hx hb dX4_runs_64 rfl hl (by decide) rfl (fun ls hl => ?_)
              refine lv_iinc (v := (nI (sl + 1))) (lv' := [(5, .int (nI (sl + 1))), (3, .int (nI m)), (2, .int (nI (n + 0))), (4, .int (nI 0)), (0, .ref (h 0)), (1, .int (nI lg))]) hx hb dX4_runs_65 hl (k := 3) rfl (n_inc1 _) (by decide) rfl (fun ls hl => ?_)
              refine lv_goto (tgt := 10) hx hb dX4_runs_68 (by decide) ?_
              exact ih10 (sl + 1) 0 (n + 0) m _ _ _ (by omega) (by omega) (by rw [ha]; exact rsg_s (by omega) (by first | rw [if_pos c25] | rw [if_neg c25]) (by first | rw [if_pos c42] | rw [if_neg c42] | rfl) (by first | rw [if_neg (by omega)] | rw [if_pos (by omega)])) (by omega) hP hD hS (lv_sub hl [0, 3, 1, 2, 4, 5] rfl)
            · skip
              replace c55 : ¬ (0 ≤ m) := by rw [nI_leI (by omega) (by omega)] at c55; exact c55
              exfalso
              omega
          · skip
            exfalso
            exact absurd c42 (by decide)
        · skip
          replace c25 : (now sl) = nI 0 := c25
          refine lv_iload hx hb dX4_runs_28 (lv_at hl 1 rfl) ?_
          refine lv_iconst (v := (nI 1)) hx hb dX4_runs_30 (by decide) ?_
          refine lv_iadd hx hb dX4_runs_31 ?_
          refine n_as (x' := nI (r + 1)) (nI_add _ _) ?_
          refine lv_goto (tgt := 36) hx hb dX4_runs_32 (by decide) ?_
          refine lv_istore (lv' := [(4, .int (nI (r + 1))), (5, .int (nI sl)), (3, .int (nI m)), (2, .int (nI n)), (0, .ref (h 0)), (1, .int (nI lg))]) hx hb dX4_runs_36 hl (by decide) rfl (fun ls hl => ?_)
          refine lv_iload_n hx hb dX4_runs_38 rfl (lv_at hl 3 rfl) ?_
          refine lv_iload hx hb dX4_runs_39 (lv_at hl 0 rfl) ?_
          refine lv_iconst (v := (nI 1)) hx hb dX4_runs_41 (by decide) ?_
          refine lv_icmp_ne (tgt := 49) hx hb dX4_runs_42 (by decide) (fun c42 => ?_) (fun c42 => ?_)
          · skip
            replace c42 : ¬ (r + 1) = 1 := by rw [nI_eq (by omega) (by omega)] at c42; exact c42
            refine lv_iconst (v := (nI 0)) hx hb dX4_runs_49 (by decide) ?_
            refine lv_iadd hx hb dX4_runs_50 ?_
            refine n_as (x' := nI (n + 0)) (nI_add _ _) ?_
            refine lv_istore_n (lv' := [(2, .int (nI (n + 0))), (4, .int (nI (r + 1))), (5, .int (nI sl)), (3, .int (nI m)), (0, .ref (h 0)), (1, .int (nI lg))]) hx hb dX4_runs_51 rfl hl (by decide) rfl (fun ls hl => ?_)
            refine lv_iload hx hb dX4_runs_52 (lv_at hl 1 rfl) ?_
            refine lv_iload_n hx hb dX4_runs_54 rfl (lv_at hl 3 rfl) ?_
            refine lv_icmp_le (tgt := 63) hx hb dX4_runs_55 (by decide) (fun c55 => ?_) (fun c55 => ?_)
            · skip
              replace c55 : (r + 1) ≤ m := by rw [nI_leI (by omega) (by omega)] at c55; exact c55
              refine lv_iload_n hx hb dX4_runs_63 rfl (lv_at hl 3 rfl) ?_
              refine lv_istore_n (lv' := [(3, .int (nI m)), (2, .int (nI (n + 0))), (4, .int (nI (r + 1))), (5, .int (nI sl)), (0, .ref (h 0)), (1, .int (nI lg))]) hx hb dX4_runs_64 rfl hl (by decide) rfl (fun ls hl => ?_)
              refine lv_iinc (v := (nI (sl + 1))) (lv' := [(5, .int (nI (sl + 1))), (3, .int (nI m)), (2, .int (nI (n + 0))), (4, .int (nI (r + 1))), (0, .ref (h 0)), (1, .int (nI lg))]) hx hb dX4_runs_65 hl (k := 3) rfl (n_inc1 _) (by decide) rfl (fun ls hl => ?_)
              refine lv_goto (tgt := 10) hx hb dX4_runs_68 (by decide) ?_
              exact ih10 (sl + 1) (r + 1) (n + 0) m _ _ _ (by omega) (by omega) (by rw [ha]; exact rsg_s (by omega) (by first | rw [if_pos c25] | rw [if_neg c25]) (by first | rw [if_pos c42] | rw [if_neg c42] | rfl) (by first | rw [if_neg (by omega)] | rw [if_pos (by omega)])) (by omega) hP hD hS (lv_sub hl [0, 3, 1, 2, 4, 5] rfl)
            · skip
              replace c55 : ¬ ((r + 1) ≤ m) := by rw [nI_leI (by omega) (by omega)] at c55; exact c55
              refine lv_iload hx hb dX4_runs_58 (lv_at hl 1 rfl) ?_
              refine lv_goto (tgt := 64) hx hb dX4_runs_60 (by decide) ?_
              refine lv_istore_n (lv' := [(3, .int (nI (r + 1))), (2, .int (nI (n + 0))), (4, .int (nI (r + 1))), (5, .int (nI sl)), (0, .ref (h 0)), (1, .int (nI lg))]) hx hb dX4_runs_64 rfl hl (by decide) rfl (fun ls hl => ?_)
              refine lv_iinc (v := (nI (sl + 1))) (lv' := [(5, .int (nI (sl + 1))), (3, .int (nI (r + 1))), (2, .int (nI (n + 0))), (4, .int (nI (r + 1))), (0, .ref (h 0)), (1, .int (nI lg))]) hx hb dX4_runs_65 hl (k := 3) rfl (n_inc1 _) (by decide) rfl (fun ls hl => ?_)
              refine lv_goto (tgt := 10) hx hb dX4_runs_68 (by decide) ?_
              exact ih10 (sl + 1) (r + 1) (n + 0) (r + 1) _ _ _ (by omega) (by omega) (by rw [ha]; exact rsg_s (by omega) (by first | rw [if_pos c25] | rw [if_neg c25]) (by first | rw [if_pos c42] | rw [if_neg c42] | rfl) (by first | rw [if_neg (by omega)] | rw [if_pos (by omega)])) (by omega) hP hD hS (lv_sub hl [0, 3, 1, 2, 4, 5] rfl)
          · skip
            replace c42 : (r + 1) = 1 := by rw [nI_eq (by omega) (by omega)] at c42; exact c42
            refine lv_iconst (v := (nI 1)) hx hb dX4_runs_45 (by decide) ?_
            refine lv_goto (tgt := 50) hx hb dX4_runs_46 (by decide) ?_
            refine lv_iadd hx hb dX4_runs_50 ?_
            refine n_as (x' := nI (n + 1)) (nI_add _ _) ?_
            refine lv_istore_n (lv' := [(2, .int (nI (n + 1))), (4, .int (nI (r + 1))), (5, .int (nI sl)), (3, .int (nI m)), (0, .ref (h 0)), (1, .int (nI lg))]) hx hb dX4_runs_51 rfl hl (by decide) rfl (fun ls hl => ?_)
            refine lv_iload hx hb dX4_runs_52 (lv_at hl 1 rfl) ?_
            refine lv_iload_n hx hb dX4_runs_54 rfl (lv_at hl 3 rfl) ?_
            refine lv_icmp_le (tgt := 63) hx hb dX4_runs_55 (by decide) (fun c55 => ?_) (fun c55 => ?_)
            · skip
              replace c55 : (r + 1) ≤ m := by rw [nI_leI (by omega) (by omega)] at c55; exact c55
              refine lv_iload_n hx hb dX4_runs_63 rfl (lv_at hl 3 rfl) ?_
              refine lv_istore_n (lv' := [(3, .int (nI m)), (2, .int (nI (n + 1))), (4, .int (nI (r + 1))), (5, .int (nI sl)), (0, .ref (h 0)), (1, .int (nI lg))]) hx hb dX4_runs_64 rfl hl (by decide) rfl (fun ls hl => ?_)
              refine lv_iinc (v := (nI (sl + 1))) (lv' := [(5, .int (nI (sl + 1))), (3, .int (nI m)), (2, .int (nI (n + 1))), (4, .int (nI (r + 1))), (0, .ref (h 0)), (1, .int (nI lg))]) hx hb dX4_runs_65 hl (k := 3) rfl (n_inc1 _) (by decide) rfl (fun ls hl => ?_)
              refine lv_goto (tgt := 10) hx hb dX4_runs_68 (by decide) ?_
              exact ih10 (sl + 1) (r + 1) (n + 1) m _ _ _ (by omega) (by omega) (by rw [ha]; exact rsg_s (by omega) (by first | rw [if_pos c25] | rw [if_neg c25]) (by first | rw [if_pos c42] | rw [if_neg c42] | rfl) (by first | rw [if_neg (by omega)] | rw [if_pos (by omega)])) (by omega) hP hD hS (lv_sub hl [0, 3, 1, 2, 4, 5] rfl)
            · skip
              replace c55 : ¬ ((r + 1) ≤ m) := by rw [nI_leI (by omega) (by omega)] at c55; exact c55
              refine lv_iload hx hb dX4_runs_58 (lv_at hl 1 rfl) ?_
              refine lv_goto (tgt := 64) hx hb dX4_runs_60 (by decide) ?_
              refine lv_istore_n (lv' := [(3, .int (nI (r + 1))), (2, .int (nI (n + 1))), (4, .int (nI (r + 1))), (5, .int (nI sl)), (0, .ref (h 0)), (1, .int (nI lg))]) hx hb dX4_runs_64 rfl hl (by decide) rfl (fun ls hl => ?_)
              refine lv_iinc (v := (nI (sl + 1))) (lv' := [(5, .int (nI (sl + 1))), (3, .int (nI (r + 1))), (2, .int (nI (n + 1))), (4, .int (nI (r + 1))), (0, .ref (h 0)), (1, .int (nI lg))]) hx hb dX4_runs_65 hl (k := 3) rfl (n_inc1 _) (by decide) rfl (fun ls hl => ?_)
              refine lv_goto (tgt := 10) hx hb dX4_runs_68 (by decide) ?_
              exact ih10 (sl + 1) (r + 1) (n + 1) (r + 1) _ _ _ (by omega) (by omega) (by rw [ha]; exact rsg_s (by omega) (by first | rw [if_pos c25] | rw [if_neg c25]) (by first | rw [if_pos c42] | rw [if_neg c42] | rfl) (by first | rw [if_neg (by omega)] | rw [if_pos (by omega)])) (by omega) hP hD hS (lv_sub hl [0, 3, 1, 2, 4, 5] rfl)
  exact LP10 _ 0 0 0 0 _ _ _ (by omega) (by omega) (rfl) (Nat.lt_succ_self _) hP hD hS (lv_sub hl [0, 1, 2, 3, 4, 5] rfl)
set_option maxHeartbeats 4000000 in
set_option maxRecDepth 100000 in
theorem c_X4_blocks {l : Launch} {D : va_G} {cI cG cC cR : ClassId} {h : Nat → Nat} {now past bef tri tex : Nat → Int32} {pasts typed ati : Int32} : CtI l yX4_blocks wsX4_blocks { frames := 2, cells := 0, slots := 0, locals := 43 } D (TY cI cG cC cR) [.ref (h 0)] (MW h cI now past pasts bef tri tex typed ati) (fun (_ : Unit) => MW h cI now past pasts bef tri tex typed ati) (fun (r : Int32) (_ : Unit) => r = nI (blN now 8)) := by
  refine CtI.of (cc := cX4_blocks) (maxL := 3) (ty := .int) (by decide) rfl (Nat.le_of_ble_eq_true rfl) ?_
  intro P0 e0 s0 m0 a0 b0 t0 c0 A0 Q0 ls F hK hP hD hA RETN hl
  obtain ⟨hx, hb, hml, hown, hts⟩ := id F
  have hS : va_S A0 s0.heap s0.heap [] := va_S.rf
  have hl : lv_has ls 3 [(0, .ref (h 0))] := hl
  refine lv_iconst (v := (nI 0)) hx hb dX4_blocks_0 (by decide) ?_
  refine lv_istore_n (lv' := [(1, .int (nI 0)), (0, .ref (h 0))]) hx hb dX4_blocks_1 rfl hl (by decide) rfl (fun ls hl => ?_)
  refine lv_iconst (v := (nI 0)) hx hb dX4_blocks_2 (by decide) ?_
  refine lv_istore_n (lv' := [(2, .int (nI 0)), (1, .int (nI 0)), (0, .ref (h 0))]) hx hb dX4_blocks_3 rfl hl (by decide) rfl (fun ls hl => ?_)
  have LP4 : ∀ (nn : Nat) (w : Nat) (n : Nat) (H : Heap) (locs : List Loc) (ls : Array Slot), w ≤ 8 → n = blN now w → 8 - w < nn → va_P D vwCl (MW h cI now past pasts bef tri tex typed ati) H → va_D A0 (MW h cI now past pasts bef tri tex typed ati) → va_S A0 s0.heap H locs → lv_has ls 3 [(2, .int (nI w)), (1, .int (nI n)), (0, .ref (h 0))] → W P0 l e0 { frames := 2, cells := 0, slots := 0, locals := 43 } s0 m0 a0 b0 t0 c0 H locs 0 0 Q0 (F0 m0 4 ls []) := by
    intro nn
    induction nn with
    | zero => intro w n H locs ls hw hn hmu; exact absurd hmu (Nat.not_lt_zero _)
    | succ nn ih4 =>
      intro w n H locs ls hw hn hmu4 hP hD hS hl
      refine lv_iload_n hx hb dX4_blocks_4 rfl (lv_at hl 0 rfl) ?_
      refine lv_bipush (v := (nI 8)) hx hb dX4_blocks_5 (by decide) ?_
      refine lv_icmp_ge (tgt := 32) hx hb dX4_blocks_7 (by decide) (fun c7 => ?_) (fun c7 => ?_)
      · skip
        replace c7 : 8 ≤ w := by rw [nI_leI (by omega) (by omega)] at c7; exact c7
        refine lv_iload_n hx hb dX4_blocks_32 rfl (lv_at hl 1 rfl) ?_
        exact RETN _ _ (nI n) () _ _ dX4_blocks_33 (rfl) (by rw [hn, show w = 8 by omega]) hP hD hS
      · skip
        replace c7 : ¬ (8 ≤ w) := by rw [nI_leI (by omega) (by omega)] at c7; exact c7
        refine lv_iload_n hx hb dX4_blocks_10 rfl (lv_at hl 1 rfl) ?_
        refine lv_aload_n hx hb dX4_blocks_11 rfl (lv_at hl 2 rfl) ?_
        refine lv_iload_n hx hb dX4_blocks_12 rfl (lv_at hl 0 rfl) ?_
        refine cl_Vi (b := (h 0)) (As := [.int (nI w)]) (rest := [.int (nI n)]) (wc := MW h cI now past pasts bef tri tex typed ati) (wsN := fun (_ : Unit) => MW h cI now past pasts bef tri tex typed ati) F hK hA hP hD hS (c_X4_isBlock) (cwV 1 hts gX4_blocks_X4_isBlock rfl rfl rfl (by decide +kernel) ⟨Nat.le_of_ble_eq_true rfl, Nat.le_of_ble_eq_true rfl⟩) [0, 1, 2, 3, 4, 5] [] [0, 1, 2, 3, 4, 5] ([]) rfl rfl (fun _ => rfl) (by decide) (by decide) 0 rfl rfl rfl hl.1 rfl (Nat.le_of_ble_eq_true rfl) ⟨Nat.zero_le _, Nat.zero_le _⟩ dX4_blocks_13 (fun r_2 _ H locs hw_1 hP hD hS => ?_)
        try dsimp only at hw_1 hP hD
        obtain rfl : r_2 = (bI (isB now (nI w))) := hw_1
        refine lv_if_eq (tgt := 23) hx hb dX4_blocks_16 (by decide) (fun c16 => ?_) (fun c16 => ?_)
        · skip
          replace c16 : (bI (isB now (nI w))) = nI 0 := c16
          refine lv_iconst (v := (nI 0)) hx hb dX4_blocks_23 (by decide) ?_
          refine lv_iadd hx hb dX4_blocks_24 ?_
          refine n_as (x' := nI (n + 0)) (nI_add _ _) ?_
          refine lv_istore_n (lv' := [(1, .int (nI (n + 0))), (2, .int (nI w)), (0, .ref (h 0))]) hx hb dX4_blocks_25 rfl hl (by decide) rfl (fun ls hl => ?_)
          refine lv_iinc (v := (nI (w + 1))) (lv' := [(2, .int (nI (w + 1))), (1, .int (nI (n + 0))), (0, .ref (h 0))]) hx hb dX4_blocks_26 hl (k := 1) rfl (n_inc1 _) (by decide) rfl (fun ls hl => ?_)
          refine lv_goto (tgt := 4) hx hb dX4_blocks_29 (by decide) ?_
          exact ih4 (w + 1) (n + 0) _ _ _ (by omega) (by rw [hn]; unfold blN; rw [fb_ct_succ]; first | (rw [bI_cf c16]; rfl) | (rw [bI_ct c16]; rfl)) (by omega) hP hD hS (lv_sub hl [0, 1, 2] rfl)
        · skip
          replace c16 : ¬ (bI (isB now (nI w))) = nI 0 := c16
          refine lv_iconst (v := (nI 1)) hx hb dX4_blocks_19 (by decide) ?_
          refine lv_goto (tgt := 24) hx hb dX4_blocks_20 (by decide) ?_
          refine lv_iadd hx hb dX4_blocks_24 ?_
          refine n_as (x' := nI (n + 1)) (nI_add _ _) ?_
          refine lv_istore_n (lv' := [(1, .int (nI (n + 1))), (2, .int (nI w)), (0, .ref (h 0))]) hx hb dX4_blocks_25 rfl hl (by decide) rfl (fun ls hl => ?_)
          refine lv_iinc (v := (nI (w + 1))) (lv' := [(2, .int (nI (w + 1))), (1, .int (nI (n + 1))), (0, .ref (h 0))]) hx hb dX4_blocks_26 hl (k := 1) rfl (n_inc1 _) (by decide) rfl (fun ls hl => ?_)
          refine lv_goto (tgt := 4) hx hb dX4_blocks_29 (by decide) ?_
          exact ih4 (w + 1) (n + 1) _ _ _ (by omega) (by rw [hn]; unfold blN; rw [fb_ct_succ]; first | (rw [bI_cf c16]; rfl) | (rw [bI_ct c16]; rfl)) (by omega) hP hD hS (lv_sub hl [0, 1, 2] rfl)
  exact LP4 _ 0 0 _ _ _ (by omega) (rfl) (Nat.lt_succ_self _) hP hD hS (lv_sub hl [0, 1, 2] rfl)
set_option maxHeartbeats 4000000 in
set_option maxRecDepth 100000 in
theorem c_X4_count {l : Launch} {D : va_G} {cI cG cC cR : ClassId} {h : Nat → Nat} {now past bef tri tex : Nat → Int32} {ati : Int32} {k tl : Nat} (hbt : Bits now) {v : Int32} : CtI l yX4_count wsX4_count { frames := 3, cells := 0, slots := 0, locals := 67 } D (TY cI cG cC cR) [.ref (h 0), .int v] (MW h cI now past (nI k) bef tri tex (nI tl) ati) (fun (_ : Unit) => MW h cI now past (nI k) bef tri tex (nI tl) ati) (fun (r : Int32) (_ : Unit) => r = ctA now k tl v) := by
  refine CtI.of (cc := cX4_count) (maxL := 2) (ty := .int) (by decide) rfl (Nat.le_of_ble_eq_true rfl) ?_
  intro P0 e0 s0 m0 a0 b0 t0 c0 A0 Q0 ls F hK hP hD hA RETN hl
  obtain ⟨hx, hb, hml, hown, hts⟩ := id F
  have hS : va_S A0 s0.heap s0.heap [] := va_S.rf
  have hl : lv_has ls 2 [(0, .ref (h 0)), (1, .int v)] := hl
  have lk102 := hts (.fieldLink RX4 102 "SlotMapsModel" "typed" "I") (by decide +kernel)
  have lk29 := hts (.fieldLink RX4 29 "SlotMapsModel" "pasts" "I") (by decide +kernel)
  have lk7 := hts (.fieldLink RX4 7 "SlotMapsModel" "now" "[I") (by decide +kernel)
  have hI4 : ∀ w ∈ u_ws RX4 TX4 8, w ∈ wsX4_count := by decide +kernel
  refine lv_iload_n hx hb dX4_count_0 rfl (lv_at hl 1 rfl) ?_
  rcases sw_in (v := v) (lo := 0) (hi := 11) (by decide) with hsw | ⟨j, hlo_j, hhi_j, rfl⟩
  · skip
    refine lv_tableOut (tgt := 120) hx hb dX4_count_1 hsw (by decide) ?_
    refine lv_iconst (v := (-1)) hx hb dX4_count_120 (by decide) ?_
    exact RETN _ _ (-1) () _ _ dX4_count_121 (rfl) ((ctA_n (inB_out (by decide) (by decide) hsw)).symm) hP hD hS
  · skip
    rcases (show j = 0 ∨ j = 1 ∨ j = 2 ∨ j = 3 ∨ j = 4 ∨ j = 5 ∨ j = 6 ∨ j = 7 ∨ j = 8 ∨ j = 9 ∨ j = 10 ∨ j = 11 by omega) with rfl | rfl | rfl | rfl | rfl | rfl | rfl | rfl | rfl | rfl | rfl | rfl
    · skip
      refine lv_tableIn (off := 63) (tgt := 64) hx hb dX4_count_1 (by decide) (by decide) rfl (by decide) ?_
      refine lv_aload_n hx hb dX4_count_64 rfl (lv_at hl 0 rfl) ?_
      refine lv_iload_n hx hb dX4_count_65 rfl (lv_at hl 1 rfl) ?_
      refine cl_Vi (b := (h 0)) (As := [.int (nI 0)]) (rest := []) (wc := MW h cI now past (nI k) bef tri tex (nI tl) ati) (wsN := fun (_ : Unit) => MW h cI now past (nI k) bef tri tex (nI tl) ati) F hK hA hP hD hS (c_X4_inAll) (cwV 1 hts gX4_count_X4_inAll rfl rfl rfl (by decide +kernel) ⟨Nat.le_of_ble_eq_true rfl, Nat.le_of_ble_eq_true rfl⟩) [0, 1, 2, 3, 4, 5] [] [0, 1, 2, 3, 4, 5] ([]) rfl rfl (fun _ => rfl) (by decide) (by decide) 0 rfl rfl rfl hl.1 rfl (Nat.le_of_ble_eq_true rfl) ⟨Nat.zero_le _, Nat.zero_le _⟩ dX4_count_66 (fun r_2 _ H locs hw_1 hP hD hS => ?_)
      try dsimp only at hw_1 hP hD
      obtain rfl : r_2 = (nI (tot now (nI 0))) := hw_1
      exact RETN _ _ (nI (tot now (nI 0))) () _ _ dX4_count_69 (rfl) (by rw [ctA_j (by decide)]; try rfl) hP hD hS
    · skip
      refine lv_tableIn (off := 63) (tgt := 64) hx hb dX4_count_1 (by decide) (by decide) rfl (by decide) ?_
      refine lv_aload_n hx hb dX4_count_64 rfl (lv_at hl 0 rfl) ?_
      refine lv_iload_n hx hb dX4_count_65 rfl (lv_at hl 1 rfl) ?_
      refine cl_Vi (b := (h 0)) (As := [.int (nI 1)]) (rest := []) (wc := MW h cI now past (nI k) bef tri tex (nI tl) ati) (wsN := fun (_ : Unit) => MW h cI now past (nI k) bef tri tex (nI tl) ati) F hK hA hP hD hS (c_X4_inAll) (cwV 1 hts gX4_count_X4_inAll rfl rfl rfl (by decide +kernel) ⟨Nat.le_of_ble_eq_true rfl, Nat.le_of_ble_eq_true rfl⟩) [0, 1, 2, 3, 4, 5] [] [0, 1, 2, 3, 4, 5] ([]) rfl rfl (fun _ => rfl) (by decide) (by decide) 0 rfl rfl rfl hl.1 rfl (Nat.le_of_ble_eq_true rfl) ⟨Nat.zero_le _, Nat.zero_le _⟩ dX4_count_66 (fun r_4 _ H locs hw_3 hP hD hS => ?_)
      try dsimp only at hw_3 hP hD
      obtain rfl : r_4 = (nI (tot now (nI 1))) := hw_3
      exact RETN _ _ (nI (tot now (nI 1))) () _ _ dX4_count_69 (rfl) (by rw [ctA_j (by decide)]; try rfl) hP hD hS
    · skip
      refine lv_tableIn (off := 63) (tgt := 64) hx hb dX4_count_1 (by decide) (by decide) rfl (by decide) ?_
      refine lv_aload_n hx hb dX4_count_64 rfl (lv_at hl 0 rfl) ?_
      refine lv_iload_n hx hb dX4_count_65 rfl (lv_at hl 1 rfl) ?_
      refine cl_Vi (b := (h 0)) (As := [.int (nI 2)]) (rest := []) (wc := MW h cI now past (nI k) bef tri tex (nI tl) ati) (wsN := fun (_ : Unit) => MW h cI now past (nI k) bef tri tex (nI tl) ati) F hK hA hP hD hS (c_X4_inAll) (cwV 1 hts gX4_count_X4_inAll rfl rfl rfl (by decide +kernel) ⟨Nat.le_of_ble_eq_true rfl, Nat.le_of_ble_eq_true rfl⟩) [0, 1, 2, 3, 4, 5] [] [0, 1, 2, 3, 4, 5] ([]) rfl rfl (fun _ => rfl) (by decide) (by decide) 0 rfl rfl rfl hl.1 rfl (Nat.le_of_ble_eq_true rfl) ⟨Nat.zero_le _, Nat.zero_le _⟩ dX4_count_66 (fun r_6 _ H locs hw_5 hP hD hS => ?_)
      try dsimp only at hw_5 hP hD
      obtain rfl : r_6 = (nI (tot now (nI 2))) := hw_5
      exact RETN _ _ (nI (tot now (nI 2))) () _ _ dX4_count_69 (rfl) (by rw [ctA_j (by decide)]; try rfl) hP hD hS
    · skip
      refine lv_tableIn (off := 63) (tgt := 64) hx hb dX4_count_1 (by decide) (by decide) rfl (by decide) ?_
      refine lv_aload_n hx hb dX4_count_64 rfl (lv_at hl 0 rfl) ?_
      refine lv_iload_n hx hb dX4_count_65 rfl (lv_at hl 1 rfl) ?_
      refine cl_Vi (b := (h 0)) (As := [.int (nI 3)]) (rest := []) (wc := MW h cI now past (nI k) bef tri tex (nI tl) ati) (wsN := fun (_ : Unit) => MW h cI now past (nI k) bef tri tex (nI tl) ati) F hK hA hP hD hS (c_X4_inAll) (cwV 1 hts gX4_count_X4_inAll rfl rfl rfl (by decide +kernel) ⟨Nat.le_of_ble_eq_true rfl, Nat.le_of_ble_eq_true rfl⟩) [0, 1, 2, 3, 4, 5] [] [0, 1, 2, 3, 4, 5] ([]) rfl rfl (fun _ => rfl) (by decide) (by decide) 0 rfl rfl rfl hl.1 rfl (Nat.le_of_ble_eq_true rfl) ⟨Nat.zero_le _, Nat.zero_le _⟩ dX4_count_66 (fun r_8 _ H locs hw_7 hP hD hS => ?_)
      try dsimp only at hw_7 hP hD
      obtain rfl : r_8 = (nI (tot now (nI 3))) := hw_7
      exact RETN _ _ (nI (tot now (nI 3))) () _ _ dX4_count_69 (rfl) (by rw [ctA_j (by decide)]; try rfl) hP hD hS
    · skip
      refine lv_tableIn (off := 69) (tgt := 70) hx hb dX4_count_1 (by decide) (by decide) rfl (by decide) ?_
      refine lv_aload_n hx hb dX4_count_70 rfl (lv_at hl 0 rfl) ?_
      refine cl_Vi (b := (h 0)) (As := []) (rest := []) (wc := MW h cI now past (nI k) bef tri tex (nI tl) ati) (wsN := fun (_ : Unit) => MW h cI now past (nI k) bef tri tex (nI tl) ati) F hK hA hP hD hS (c_X4_blocks) (cwV 0 hts gX4_count_X4_blocks rfl rfl rfl (by decide +kernel) ⟨Nat.le_of_ble_eq_true rfl, Nat.le_of_ble_eq_true rfl⟩) [0, 1, 2, 3, 4, 5] [] [0, 1, 2, 3, 4, 5] ([]) rfl rfl (fun _ => rfl) (by decide) (by decide) 0 rfl rfl rfl hl.1 rfl (Nat.le_of_ble_eq_true rfl) ⟨Nat.zero_le _, Nat.zero_le _⟩ dX4_count_71 (fun r_10 _ H locs hw_9 hP hD hS => ?_)
      try dsimp only at hw_9 hP hD
      obtain rfl : r_10 = (nI (blN now 8)) := hw_9
      exact RETN _ _ (nI (blN now 8)) () _ _ dX4_count_74 (rfl) (by rw [ctA_j (by decide)]; try rfl) hP hD hS
    · skip
      refine lv_tableIn (off := 74) (tgt := 75) hx hb dX4_count_1 (by decide) (by decide) rfl (by decide) ?_
      refine lv_aload_n hx hb dX4_count_75 rfl (lv_at hl 0 rfl) ?_
      refine va_get (D := D) (ci := 4) (v := .ref (h 1)) (C := RX4) (T := TX4) (N := 8) hx hb hts hI4 hown hK.1 hP 0 rfl rfl 0 (by decide) lk7 (fun _ h9 => h9) rfl dX4_count_76 ?_
      refine lv_sipush (v := (nI 666)) hx hb dX4_count_79 (by decide) ?_
      refine n_iald hx hb hK hP 1 0 rfl rfl (by decide) (by omega) dX4_count_82 ?_
      exact RETN _ _ (now 666) () _ _ dX4_count_83 (rfl) (by rw [ctA_j (by decide)]; try rfl) hP hD hS
    · skip
      refine lv_tableIn (off := 83) (tgt := 84) hx hb dX4_count_1 (by decide) (by decide) rfl (by decide) ?_
      refine lv_aload_n hx hb dX4_count_84 rfl (lv_at hl 0 rfl) ?_
      refine cl_Vi (b := (h 0)) (As := []) (rest := []) (wc := MW h cI now past (nI k) bef tri tex (nI tl) ati) (wsN := fun (_ : Unit) => MW h cI now past (nI k) bef tri tex (nI tl) ati) F hK hA hP hD hS (c_X4_bits hbt) (cwV 0 hts gX4_count_X4_bits rfl rfl rfl (by decide +kernel) ⟨Nat.le_of_ble_eq_true rfl, Nat.le_of_ble_eq_true rfl⟩) [0, 1, 2, 3, 4, 5] [] [0, 1, 2, 3, 4, 5] ([]) rfl rfl (fun _ => rfl) (by decide) (by decide) 0 rfl rfl rfl hl.1 rfl (Nat.le_of_ble_eq_true rfl) ⟨Nat.zero_le _, Nat.zero_le _⟩ dX4_count_85 (fun r_12 _ H locs hw_11 hP hD hS => ?_)
      try dsimp only at hw_11 hP hD
      obtain rfl : r_12 = (nI (biN now 10)) := hw_11
      exact RETN _ _ (nI (biN now 10)) () _ _ dX4_count_88 (rfl) (by rw [ctA_j (by decide)]; try rfl) hP hD hS
    · skip
      refine lv_tableIn (off := 88) (tgt := 89) hx hb dX4_count_1 (by decide) (by decide) rfl (by decide) ?_
      refine lv_aload_n hx hb dX4_count_89 rfl (lv_at hl 0 rfl) ?_
      refine cl_Vi (b := (h 0)) (As := []) (rest := []) (wc := MW h cI now past (nI k) bef tri tex (nI tl) ati) (wsN := fun (_ : Unit) => MW h cI now past (nI k) bef tri tex (nI tl) ati) F hK hA hP hD hS (c_X4_full) (cwV 0 hts gX4_count_X4_full rfl rfl rfl (by decide +kernel) ⟨Nat.le_of_ble_eq_true rfl, Nat.le_of_ble_eq_true rfl⟩) [0, 1, 2, 3, 4, 5] [] [0, 1, 2, 3, 4, 5] ([]) rfl rfl (fun _ => rfl) (by decide) (by decide) 0 rfl rfl rfl hl.1 rfl (Nat.le_of_ble_eq_true rfl) ⟨Nat.zero_le _, Nat.zero_le _⟩ dX4_count_90 (fun r_14 _ H locs hw_13 hP hD hS => ?_)
      try dsimp only at hw_13 hP hD
      obtain rfl : r_14 = (nI (fuN now 10)) := hw_13
      exact RETN _ _ (nI (fuN now 10)) () _ _ dX4_count_93 (rfl) (by rw [ctA_j (by decide)]; try rfl) hP hD hS
    · skip
      refine lv_tableIn (off := 93) (tgt := 94) hx hb dX4_count_1 (by decide) (by decide) rfl (by decide) ?_
      refine lv_aload_n hx hb dX4_count_94 rfl (lv_at hl 0 rfl) ?_
      refine lv_iload_n hx hb dX4_count_95 rfl (lv_at hl 1 rfl) ?_
      refine lv_bipush (v := (nI 9)) hx hb dX4_count_96 (by decide) ?_
      refine lv_icmp_ne (tgt := 105) hx hb dX4_count_98 (by decide) (fun c98 => ?_) (fun c98 => ?_)
      · skip
        refine lv_iconst (v := (nI 0)) hx hb dX4_count_105 (by decide) ?_
        refine cl_Vi (b := (h 0)) (As := [.int (nI 0)]) (rest := []) (wc := MW h cI now past (nI k) bef tri tex (nI tl) ati) (wsN := fun (_ : Unit) => MW h cI now past (nI k) bef tri tex (nI tl) ati) F hK hA hP hD hS (c_X4_runs (by decide)) (cwV 1 hts gX4_count_X4_runs rfl rfl rfl (by decide +kernel) ⟨Nat.le_of_ble_eq_true rfl, Nat.le_of_ble_eq_true rfl⟩) [0, 1, 2, 3, 4, 5] [] [0, 1, 2, 3, 4, 5] ([]) rfl rfl (fun _ => rfl) (by decide) (by decide) 0 rfl rfl rfl hl.1 rfl (Nat.le_of_ble_eq_true rfl) ⟨Nat.zero_le _, Nat.zero_le _⟩ dX4_count_106 (fun r_16 _ H locs hw_15 hP hD hS => ?_)
        try dsimp only at hw_15 hP hD
        obtain rfl : r_16 = (nI ((rsg now 320 0 0 0 0).1)) := hw_15
        exact RETN _ _ (nI ((rsg now 320 0 0 0 0).1)) () _ _ dX4_count_109 (rfl) (by rw [ctA_j (by decide)]; try rfl) hP hD hS
      · skip
        exfalso
        exact absurd c98 (by decide)
    · skip
      refine lv_tableIn (off := 93) (tgt := 94) hx hb dX4_count_1 (by decide) (by decide) rfl (by decide) ?_
      refine lv_aload_n hx hb dX4_count_94 rfl (lv_at hl 0 rfl) ?_
      refine lv_iload_n hx hb dX4_count_95 rfl (lv_at hl 1 rfl) ?_
      refine lv_bipush (v := (nI 9)) hx hb dX4_count_96 (by decide) ?_
      refine lv_icmp_ne (tgt := 105) hx hb dX4_count_98 (by decide) (fun c98 => ?_) (fun c98 => ?_)
      · skip
        exfalso
        exact absurd c98 (by decide)
      · skip
        refine lv_iconst (v := (nI 1)) hx hb dX4_count_101 (by decide) ?_
        refine lv_goto (tgt := 106) hx hb dX4_count_102 (by decide) ?_
        refine cl_Vi (b := (h 0)) (As := [.int (nI 1)]) (rest := []) (wc := MW h cI now past (nI k) bef tri tex (nI tl) ati) (wsN := fun (_ : Unit) => MW h cI now past (nI k) bef tri tex (nI tl) ati) F hK hA hP hD hS (c_X4_runs (by decide)) (cwV 1 hts gX4_count_X4_runs rfl rfl rfl (by decide +kernel) ⟨Nat.le_of_ble_eq_true rfl, Nat.le_of_ble_eq_true rfl⟩) [0, 1, 2, 3, 4, 5] [] [0, 1, 2, 3, 4, 5] ([]) rfl rfl (fun _ => rfl) (by decide) (by decide) 0 rfl rfl rfl hl.1 rfl (Nat.le_of_ble_eq_true rfl) ⟨Nat.zero_le _, Nat.zero_le _⟩ dX4_count_106 (fun r_18 _ H locs hw_17 hP hD hS => ?_)
        try dsimp only at hw_17 hP hD
        obtain rfl : r_18 = (nI ((rsg now 320 0 0 0 0).2)) := hw_17
        exact RETN _ _ (nI ((rsg now 320 0 0 0 0).2)) () _ _ dX4_count_109 (rfl) (by rw [ctA_j (by decide)]; try rfl) hP hD hS
    · skip
      refine lv_tableIn (off := 109) (tgt := 110) hx hb dX4_count_1 (by decide) (by decide) rfl (by decide) ?_
      refine lv_aload_n hx hb dX4_count_110 rfl (lv_at hl 0 rfl) ?_
      refine va_get (D := D) (ci := 4) (v := .int (nI k)) (C := RX4) (T := TX4) (N := 8) hx hb hts hI4 hown hK.1 hP 0 rfl rfl 2 (by decide) lk29 (fun _ h9 => h9) rfl dX4_count_111 ?_
      exact RETN _ _ (nI k) () _ _ dX4_count_114 (rfl) (by rw [ctA_j (by decide)]; try rfl) hP hD hS
    · skip
      refine lv_tableIn (off := 114) (tgt := 115) hx hb dX4_count_1 (by decide) (by decide) rfl (by decide) ?_
      refine lv_aload_n hx hb dX4_count_115 rfl (lv_at hl 0 rfl) ?_
      refine va_get (D := D) (ci := 4) (v := .int (nI tl)) (C := RX4) (T := TX4) (N := 8) hx hb hts hI4 hown hK.1 hP 0 rfl rfl 6 (by decide) lk102 (fun _ h9 => h9) rfl dX4_count_116 ?_
      exact RETN _ _ (nI tl) () _ _ dX4_count_119 (rfl) (by rw [ctA_j (by decide)]; try rfl) hP hD hS
set_option maxHeartbeats 4000000 in
set_option maxRecDepth 100000 in
theorem c_X4_slot {l : Launch} {D : va_G} {cI cG cC cR : ClassId} {h : Nat → Nat} {now past bef tri tex : Nat → Int32} {pasts typed ati : Int32} {va vb : Int32} : CtI l yX4_slot wsX4_slot { frames := 1, cells := 0, slots := 0, locals := 22 } D (TY cI cG cC cR) [.ref (h 0), .int va, .int vb] (MW h cI now past pasts bef tri tex typed ati) (fun (_ : Unit) => MW h cI now past pasts bef tri tex typed ati) (fun (r : Int32) (_ : Unit) => r = slA now va vb) := by
  refine CtI.of (cc := cX4_slot) (maxL := 3) (ty := .int) (by decide) rfl (Nat.le_of_ble_eq_true rfl) ?_
  intro P0 e0 s0 m0 a0 b0 t0 c0 A0 Q0 ls F hK hP hD hA RETN hl
  obtain ⟨hx, hb, hml, hown, hts⟩ := id F
  have hS : va_S A0 s0.heap s0.heap [] := va_S.rf
  have hl : lv_has ls 3 [(0, .ref (h 0)), (1, .int va), (2, .int vb)] := hl
  have lk7 := hts (.fieldLink RX4 7 "SlotMapsModel" "now" "[I") (by decide +kernel)
  have hI4 : ∀ w ∈ u_ws RX4 TX4 8, w ∈ wsX4_slot := by decide +kernel
  refine lv_iload_n hx hb dX4_slot_0 rfl (lv_at hl 1 rfl) ?_
  refine lv_iconst (v := (nI 0)) hx hb dX4_slot_1 (by decide) ?_
  refine lv_sipush (v := (nI 319)) hx hb dX4_slot_2 (by decide) ?_
  refine cl_S0 (As := [.int va, .int (nI 0), .int (nI 319)]) (rest := []) F hK hA hP hD hS (c_X4_in) (va_cwS 3 hts gX4_slot_X4_in rfl rfl rfl (by decide +kernel) ⟨Nat.le_of_ble_eq_true rfl, Nat.le_of_ble_eq_true rfl⟩) rfl hl.1 rfl (Nat.le_of_ble_eq_true rfl) ⟨Nat.zero_le _, Nat.zero_le _⟩ dX4_slot_5 (fun r_1 H locs hw_2 hP hS => ?_)
  try dsimp only at hw_2
  obtain rfl : r_1 = (bI (inB va (nI 0) (nI 319))) := hw_2
  refine lv_if_eq (tgt := 20) hx hb dX4_slot_8 (by decide) (fun c8 => ?_) (fun c8 => ?_)
  · skip
    replace c8 : (bI (inB va (nI 0) (nI 319))) = nI 0 := c8
    refine lv_iconst (v := (-1)) hx hb dX4_slot_20 (by decide) ?_
    exact RETN _ _ (-1) () _ _ dX4_slot_21 (rfl) (by first | rw [slA_n (Or.inl (bI_cf c8))] | rw [slA_n (Or.inr (bI_cf c17))]) hP hD hS
  · skip
    replace c8 : ¬ (bI (inB va (nI 0) (nI 319))) = nI 0 := c8
    obtain ⟨a, hlo_a, hhi_a, rfl⟩ := inB_nat (by omega) (by omega) (bI_ct c8)
    refine lv_iload_n hx hb dX4_slot_11 rfl (lv_at hl 2 rfl) ?_
    refine lv_iconst (v := (nI 0)) hx hb dX4_slot_12 (by decide) ?_
    refine lv_iconst (v := (nI 1)) hx hb dX4_slot_13 (by decide) ?_
    refine cl_S0 (As := [.int vb, .int (nI 0), .int (nI 1)]) (rest := []) F hK hA hP hD hS (c_X4_in) (va_cwS 3 hts gX4_slot_X4_in rfl rfl rfl (by decide +kernel) ⟨Nat.le_of_ble_eq_true rfl, Nat.le_of_ble_eq_true rfl⟩) rfl hl.1 rfl (Nat.le_of_ble_eq_true rfl) ⟨Nat.zero_le _, Nat.zero_le _⟩ dX4_slot_14 (fun r_3 H locs hw_4 hP hS => ?_)
    try dsimp only at hw_4
    obtain rfl : r_3 = (bI (inB vb (nI 0) (nI 1))) := hw_4
    refine lv_if_ne (tgt := 22) hx hb dX4_slot_17 (by decide) (fun c17 => ?_) (fun c17 => ?_)
    · skip
      replace c17 : ¬ (bI (inB vb (nI 0) (nI 1))) = nI 0 := c17
      obtain ⟨b2, hlo_b2, hhi_b2, rfl⟩ := inB_nat (by omega) (by omega) (bI_ct c17)
      refine lv_iload_n hx hb dX4_slot_22 rfl (lv_at hl 2 rfl) ?_
      refine lv_if_ne (tgt := 35) hx hb dX4_slot_23 (by decide) (fun c23 => ?_) (fun c23 => ?_)
      · skip
        replace c23 : ¬ b2 = 0 := by rw [show (0 : Int32) = nI 0 from rfl, nI_eq (by omega) (by omega)] at c23; exact c23
        refine lv_aload_n hx hb dX4_slot_35 rfl (lv_at hl 0 rfl) ?_
        refine va_get (D := D) (ci := 4) (v := .ref (h 1)) (C := RX4) (T := TX4) (N := 8) hx hb hts hI4 hown hK.1 hP 0 rfl rfl 0 (by decide) lk7 (fun _ h9 => h9) rfl dX4_slot_36 ?_
        refine lv_sipush (v := (nI 320)) hx hb dX4_slot_39 (by decide) ?_
        refine lv_iload_n hx hb dX4_slot_42 rfl (lv_at hl 1 rfl) ?_
        refine lv_iadd hx hb dX4_slot_43 ?_
        refine n_as (x' := nI (320 + a)) (nI_add _ _) ?_
        refine n_iald hx hb hK hP 1 0 rfl rfl (by decide) (by omega) dX4_slot_44 ?_
        refine lv_if_ne (tgt := 53) hx hb dX4_slot_45 (by decide) (fun c45 => ?_) (fun c45 => ?_)
        · skip
          replace c45 : ¬ (now (320 + a)) = nI 0 := c45
          refine lv_aload_n hx hb dX4_slot_53 rfl (lv_at hl 0 rfl) ?_
          refine va_get (D := D) (ci := 4) (v := .ref (h 1)) (C := RX4) (T := TX4) (N := 8) hx hb hts hI4 hown hK.1 hP 0 rfl rfl 0 (by decide) lk7 (fun _ h9 => h9) rfl dX4_slot_54 ?_
          refine lv_sipush (v := (nI 320)) hx hb dX4_slot_57 (by decide) ?_
          refine lv_iload_n hx hb dX4_slot_60 rfl (lv_at hl 1 rfl) ?_
          refine lv_iadd hx hb dX4_slot_61 ?_
          refine n_as (x' := nI (320 + a)) (nI_add _ _) ?_
          refine n_iald hx hb hK hP 1 0 rfl rfl (by decide) (by omega) dX4_slot_62 ?_
          refine lv_iconst (v := (nI 1)) hx hb dX4_slot_63 (by decide) ?_
          refine lv_isub hx hb dX4_slot_64 ?_
          exact RETN _ _ ((now (320 + a)) - (nI 1)) () _ _ dX4_slot_65 (rfl) (by rw [slA_j (by omega) (by omega)]; first | rw [if_pos c23] | (rw [if_neg c23]; first | rw [if_pos c45] | rw [if_neg c45])) hP hD hS
        · skip
          replace c45 : (now (320 + a)) = nI 0 := c45
          refine lv_bipush (v := (-9)) hx hb dX4_slot_48 (by decide) ?_
          refine lv_goto (tgt := 65) hx hb dX4_slot_50 (by decide) ?_
          exact RETN _ _ (-9) () _ _ dX4_slot_65 (rfl) (by rw [slA_j (by omega) (by omega)]; first | rw [if_pos c23] | (rw [if_neg c23]; first | rw [if_pos c45] | rw [if_neg c45])) hP hD hS
      · skip
        replace c23 : b2 = 0 := by rw [show (0 : Int32) = nI 0 from rfl, nI_eq (by omega) (by omega)] at c23; exact c23
        refine lv_aload_n hx hb dX4_slot_26 rfl (lv_at hl 0 rfl) ?_
        refine va_get (D := D) (ci := 4) (v := .ref (h 1)) (C := RX4) (T := TX4) (N := 8) hx hb hts hI4 hown hK.1 hP 0 rfl rfl 0 (by decide) lk7 (fun _ h9 => h9) rfl dX4_slot_27 ?_
        refine lv_iload_n hx hb dX4_slot_30 rfl (lv_at hl 1 rfl) ?_
        refine n_iald hx hb hK hP 1 0 rfl rfl (by decide) (by omega) dX4_slot_31 ?_
        refine lv_goto (tgt := 65) hx hb dX4_slot_32 (by decide) ?_
        exact RETN _ _ (now a) () _ _ dX4_slot_65 (rfl) (by rw [slA_j (by omega) (by omega)]; first | rw [if_pos c23] | (rw [if_neg c23]; first | rw [if_pos c45] | rw [if_neg c45])) hP hD hS
    · skip
      replace c17 : (bI (inB vb (nI 0) (nI 1))) = nI 0 := c17
      refine lv_iconst (v := (-1)) hx hb dX4_slot_20 (by decide) ?_
      exact RETN _ _ (-1) () _ _ dX4_slot_21 (rfl) (by first | rw [slA_n (Or.inl (bI_cf c8))] | rw [slA_n (Or.inr (bI_cf c17))]) hP hD hS
set_option maxHeartbeats 4000000 in
set_option maxRecDepth 100000 in
theorem c_X4_word {l : Launch} {D : va_G} {cI cG cC cR : ClassId} {h : Nat → Nat} {now past bef tri tex : Nat → Int32} {pasts typed ati : Int32} {va vb : Int32} : CtI l yX4_word wsX4_word { frames := 2, cells := 0, slots := 0, locals := 45 } D (TY cI cG cC cR) [.ref (h 0), .int va, .int vb] (MW h cI now past pasts bef tri tex typed ati) (fun (_ : Unit) => MW h cI now past pasts bef tri tex typed ati) (fun (r : Int32) (_ : Unit) => r = wdA now va vb) := by
  refine CtI.of (cc := cX4_word) (maxL := 3) (ty := .int) (by decide) rfl (Nat.le_of_ble_eq_true rfl) ?_
  intro P0 e0 s0 m0 a0 b0 t0 c0 A0 Q0 ls F hK hP hD hA RETN hl
  obtain ⟨hx, hb, hml, hown, hts⟩ := id F
  have hS : va_S A0 s0.heap s0.heap [] := va_S.rf
  have hl : lv_has ls 3 [(0, .ref (h 0)), (1, .int va), (2, .int vb)] := hl
  have lk7 := hts (.fieldLink RX4 7 "SlotMapsModel" "now" "[I") (by decide +kernel)
  have hI4 : ∀ w ∈ u_ws RX4 TX4 8, w ∈ wsX4_word := by decide +kernel
  refine lv_iload_n hx hb dX4_word_0 rfl (lv_at hl 1 rfl) ?_
  refine cl_S0 (As := [.int va]) (rest := []) F hK hA hP hD hS (c_X4_isWord) (va_cwS 1 hts gX4_word_X4_isWord rfl rfl rfl (by decide +kernel) ⟨Nat.le_of_ble_eq_true rfl, Nat.le_of_ble_eq_true rfl⟩) rfl hl.1 rfl (Nat.le_of_ble_eq_true rfl) ⟨Nat.zero_le _, Nat.zero_le _⟩ dX4_word_1 (fun r_1 H locs hw_2 hP hS => ?_)
  try dsimp only at hw_2
  obtain rfl : r_1 = (bI (inB va (nI 0) (nI 9))) := hw_2
  refine lv_if_eq (tgt := 17) hx hb dX4_word_4 (by decide) (fun c4 => ?_) (fun c4 => ?_)
  · skip
    replace c4 : (bI (inB va (nI 0) (nI 9))) = nI 0 := c4
    refine lv_iconst (v := (-1)) hx hb dX4_word_17 (by decide) ?_
    exact RETN _ _ (-1) () _ _ dX4_word_18 (rfl) (by first | rw [wdA_n (Or.inl (bI_cf c4))] | rw [wdA_n (Or.inr (bI_cf c14))]) hP hD hS
  · skip
    replace c4 : ¬ (bI (inB va (nI 0) (nI 9))) = nI 0 := c4
    obtain ⟨w, hlo_w, hhi_w, rfl⟩ := inB_nat (by omega) (by omega) (bI_ct c4)
    refine lv_iload_n hx hb dX4_word_7 rfl (lv_at hl 2 rfl) ?_
    refine lv_iconst (v := (nI 0)) hx hb dX4_word_8 (by decide) ?_
    refine lv_bipush (v := (nI 6)) hx hb dX4_word_9 (by decide) ?_
    refine cl_S0 (As := [.int vb, .int (nI 0), .int (nI 6)]) (rest := []) F hK hA hP hD hS (c_X4_in) (va_cwS 3 hts gX4_word_X4_in rfl rfl rfl (by decide +kernel) ⟨Nat.le_of_ble_eq_true rfl, Nat.le_of_ble_eq_true rfl⟩) rfl hl.1 rfl (Nat.le_of_ble_eq_true rfl) ⟨Nat.zero_le _, Nat.zero_le _⟩ dX4_word_11 (fun r_3 H locs hw_4 hP hS => ?_)
    try dsimp only at hw_4
    obtain rfl : r_3 = (bI (inB vb (nI 0) (nI 6))) := hw_4
    refine lv_if_ne (tgt := 19) hx hb dX4_word_14 (by decide) (fun c14 => ?_) (fun c14 => ?_)
    · skip
      replace c14 : ¬ (bI (inB vb (nI 0) (nI 6))) = nI 0 := c14
      obtain ⟨j, hlo_j, hhi_j, rfl⟩ := inB_nat (by omega) (by omega) (bI_ct c14)
      refine lv_iload_n hx hb dX4_word_19 rfl (lv_at hl 2 rfl) ?_
      refine lv_iconst (v := (nI 4)) hx hb dX4_word_20 (by decide) ?_
      refine lv_icmp_ge (tgt := 33) hx hb dX4_word_21 (by decide) (fun c21 => ?_) (fun c21 => ?_)
      · skip
        replace c21 : 4 ≤ j := by rw [nI_leI (by omega) (by omega)] at c21; exact c21
        refine lv_iload_n hx hb dX4_word_33 rfl (lv_at hl 2 rfl) ?_
        refine lv_iconst (v := (nI 4)) hx hb dX4_word_34 (by decide) ?_
        refine lv_icmp_ne (tgt := 51) hx hb dX4_word_35 (by decide) (fun c35 => ?_) (fun c35 => ?_)
        · skip
          replace c35 : ¬ j = 4 := by rw [nI_eq (by omega) (by omega)] at c35; exact c35
          refine lv_iload_n hx hb dX4_word_51 rfl (lv_at hl 2 rfl) ?_
          refine lv_iconst (v := (nI 5)) hx hb dX4_word_52 (by decide) ?_
          refine lv_icmp_ne (tgt := 64) hx hb dX4_word_53 (by decide) (fun c53 => ?_) (fun c53 => ?_)
          · skip
            replace c53 : ¬ j = 5 := by rw [nI_eq (by omega) (by omega)] at c53; exact c53
            refine lv_aload_n hx hb dX4_word_64 rfl (lv_at hl 0 rfl) ?_
            refine lv_iload_n hx hb dX4_word_65 rfl (lv_at hl 1 rfl) ?_
            refine cl_Vi (b := (h 0)) (As := [.int (nI w)]) (rest := []) (wc := MW h cI now past pasts bef tri tex typed ati) (wsN := fun (_ : Unit) => MW h cI now past pasts bef tri tex typed ati) F hK hA hP hD hS (c_X4_firstIn (by omega)) (cwV 1 hts gX4_word_X4_firstIn rfl rfl rfl (by decide +kernel) ⟨Nat.le_of_ble_eq_true rfl, Nat.le_of_ble_eq_true rfl⟩) [0, 1, 2, 3, 4, 5] [] [0, 1, 2, 3, 4, 5] ([]) rfl rfl (fun _ => rfl) (by decide) (by decide) 0 rfl rfl rfl hl.1 rfl (Nat.le_of_ble_eq_true rfl) ⟨Nat.zero_le _, Nat.zero_le _⟩ dX4_word_66 (fun r_6 _ H locs hw_5 hP hD hS => ?_)
            try dsimp only at hw_5 hP hD
            obtain rfl : r_6 = (oI (fi now w)) := hw_5
            exact RETN _ _ (oI (fi now w)) () _ _ dX4_word_69 (rfl) (by rw [wdA_j (by omega) (by omega)]; unfold wdN; first | rw [if_pos (by omega)] | (rw [if_neg (by omega)]; first | rw [if_pos (by omega)] | (rw [if_neg (by omega)]; first | rw [if_pos (by omega)] | rw [if_neg (by omega)]))) hP hD hS
          · skip
            replace c53 : j = 5 := by rw [nI_eq (by omega) (by omega)] at c53; exact c53
            refine lv_aload_n hx hb dX4_word_56 rfl (lv_at hl 0 rfl) ?_
            refine lv_iload_n hx hb dX4_word_57 rfl (lv_at hl 1 rfl) ?_
            refine cl_Vi (b := (h 0)) (As := [.int (nI w)]) (rest := []) (wc := MW h cI now past pasts bef tri tex typed ati) (wsN := fun (_ : Unit) => MW h cI now past pasts bef tri tex typed ati) F hK hA hP hD hS (c_X4_right (by omega)) (cwV 1 hts gX4_word_X4_right rfl rfl rfl (by decide +kernel) ⟨Nat.le_of_ble_eq_true rfl, Nat.le_of_ble_eq_true rfl⟩) [0, 1, 2, 3, 4, 5] [] [0, 1, 2, 3, 4, 5] ([]) rfl rfl (fun _ => rfl) (by decide) (by decide) 0 rfl rfl rfl hl.1 rfl (Nat.le_of_ble_eq_true rfl) ⟨Nat.zero_le _, Nat.zero_le _⟩ dX4_word_58 (fun r_8 _ H locs hw_7 hP hD hS => ?_)
            try dsimp only at hw_7 hP hD
            obtain rfl : r_8 = (rt now w) := hw_7
            refine lv_goto (tgt := 69) hx hb dX4_word_61 (by decide) ?_
            exact RETN _ _ (rt now w) () _ _ dX4_word_69 (rfl) (by rw [wdA_j (by omega) (by omega)]; unfold wdN; first | rw [if_pos (by omega)] | (rw [if_neg (by omega)]; first | rw [if_pos (by omega)] | (rw [if_neg (by omega)]; first | rw [if_pos (by omega)] | rw [if_neg (by omega)]))) hP hD hS
        · skip
          replace c35 : j = 4 := by rw [nI_eq (by omega) (by omega)] at c35; exact c35
          refine lv_aload_n hx hb dX4_word_38 rfl (lv_at hl 0 rfl) ?_
          refine va_get (D := D) (ci := 4) (v := .ref (h 1)) (C := RX4) (T := TX4) (N := 8) hx hb hts hI4 hown hK.1 hP 0 rfl rfl 0 (by decide) lk7 (fun _ h9 => h9) rfl dX4_word_39 ?_
          refine lv_sipush (v := (nI 640)) hx hb dX4_word_42 (by decide) ?_
          refine lv_iload_n hx hb dX4_word_45 rfl (lv_at hl 1 rfl) ?_
          refine lv_iadd hx hb dX4_word_46 ?_
          refine n_as (x' := nI (640 + w)) (nI_add _ _) ?_
          refine n_iald hx hb hK hP 1 0 rfl rfl (by decide) (by omega) dX4_word_47 ?_
          refine lv_goto (tgt := 69) hx hb dX4_word_48 (by decide) ?_
          exact RETN _ _ (now (640 + w)) () _ _ dX4_word_69 (rfl) (by rw [wdA_j (by omega) (by omega)]; unfold wdN; first | rw [if_pos (by omega)] | (rw [if_neg (by omega)]; first | rw [if_pos (by omega)] | (rw [if_neg (by omega)]; first | rw [if_pos (by omega)] | rw [if_neg (by omega)]))) hP hD hS
      · skip
        replace c21 : ¬ (4 ≤ j) := by rw [nI_leI (by omega) (by omega)] at c21; exact c21
        refine lv_aload_n hx hb dX4_word_24 rfl (lv_at hl 0 rfl) ?_
        refine lv_iload_n hx hb dX4_word_25 rfl (lv_at hl 1 rfl) ?_
        refine lv_iload_n hx hb dX4_word_26 rfl (lv_at hl 2 rfl) ?_
        refine cl_Vi (b := (h 0)) (As := [.int (nI w), .int (nI j)]) (rest := []) (wc := MW h cI now past pasts bef tri tex typed ati) (wsN := fun (_ : Unit) => MW h cI now past pasts bef tri tex typed ati) F hK hA hP hD hS (c_X4_inWord (by omega)) (cwV 2 hts gX4_word_X4_inWord rfl rfl rfl (by decide +kernel) ⟨Nat.le_of_ble_eq_true rfl, Nat.le_of_ble_eq_true rfl⟩) [0, 1, 2, 3, 4, 5] [] [0, 1, 2, 3, 4, 5] ([]) rfl rfl (fun _ => rfl) (by decide) (by decide) 0 rfl rfl rfl hl.1 rfl (Nat.le_of_ble_eq_true rfl) ⟨Nat.zero_le _, Nat.zero_le _⟩ dX4_word_27 (fun r_10 _ H locs hw_9 hP hD hS => ?_)
        try dsimp only at hw_9 hP hD
        obtain rfl : r_10 = (nI (cw now w (nI j))) := hw_9
        refine lv_goto (tgt := 69) hx hb dX4_word_30 (by decide) ?_
        exact RETN _ _ (nI (cw now w (nI j))) () _ _ dX4_word_69 (rfl) (by rw [wdA_j (by omega) (by omega)]; unfold wdN; first | rw [if_pos (by omega)] | (rw [if_neg (by omega)]; first | rw [if_pos (by omega)] | (rw [if_neg (by omega)]; first | rw [if_pos (by omega)] | rw [if_neg (by omega)]))) hP hD hS
    · skip
      replace c14 : (bI (inB vb (nI 0) (nI 6))) = nI 0 := c14
      refine lv_iconst (v := (-1)) hx hb dX4_word_17 (by decide) ?_
      exact RETN _ _ (-1) () _ _ dX4_word_18 (rfl) (by first | rw [wdA_n (Or.inl (bI_cf c4))] | rw [wdA_n (Or.inr (bI_cf c14))]) hP hD hS
set_option maxHeartbeats 4000000 in
set_option maxRecDepth 100000 in
theorem c_X4_block {l : Launch} {D : va_G} {cI cG cC cR : ClassId} {h : Nat → Nat} {now past bef tri tex : Nat → Int32} {pasts typed ati : Int32} {va vb : Int32} (hB : BInv now) : CtI l yX4_block wsX4_block { frames := 2, cells := 0, slots := 0, locals := 43 } D (TY cI cG cC cR) [.ref (h 0), .int va, .int vb] (MW h cI now past pasts bef tri tex typed ati) (fun (_ : Unit) => MW h cI now past pasts bef tri tex typed ati) (fun (r : Int32) (_ : Unit) => r = bkA now va vb) := by
  refine CtI.of (cc := cX4_block) (maxL := 7) (ty := .int) (by decide) rfl (Nat.le_of_ble_eq_true rfl) ?_
  intro P0 e0 s0 m0 a0 b0 t0 c0 A0 Q0 ls F hK hP hD hA RETN hl
  obtain ⟨hx, hb, hml, hown, hts⟩ := id F
  have hS : va_S A0 s0.heap s0.heap [] := va_S.rf
  have hl : lv_has ls 7 [(0, .ref (h 0)), (1, .int va), (2, .int vb)] := hl
  have lk7 := hts (.fieldLink RX4 7 "SlotMapsModel" "now" "[I") (by decide +kernel)
  have hI4 : ∀ w ∈ u_ws RX4 TX4 8, w ∈ wsX4_block := by decide +kernel
  refine lv_iload_n hx hb dX4_block_0 rfl (lv_at hl 1 rfl) ?_
  refine lv_iconst (v := (nI 0)) hx hb dX4_block_1 (by decide) ?_
  refine lv_bipush (v := (nI 7)) hx hb dX4_block_2 (by decide) ?_
  refine cl_S0 (As := [.int va, .int (nI 0), .int (nI 7)]) (rest := []) F hK hA hP hD hS (c_X4_in) (va_cwS 3 hts gX4_block_X4_in rfl rfl rfl (by decide +kernel) ⟨Nat.le_of_ble_eq_true rfl, Nat.le_of_ble_eq_true rfl⟩) rfl hl.1 rfl (Nat.le_of_ble_eq_true rfl) ⟨Nat.zero_le _, Nat.zero_le _⟩ dX4_block_4 (fun r_1 H locs hw_2 hP hS => ?_)
  try dsimp only at hw_2
  obtain rfl : r_1 = (bI (inB va (nI 0) (nI 7))) := hw_2
  refine lv_if_eq (tgt := 19) hx hb dX4_block_7 (by decide) (fun c7 => ?_) (fun c7 => ?_)
  · skip
    replace c7 : (bI (inB va (nI 0) (nI 7))) = nI 0 := c7
    refine lv_iconst (v := (-1)) hx hb dX4_block_19 (by decide) ?_
    exact RETN _ _ (-1) () _ _ dX4_block_20 (rfl) (by first | rw [bkA_n (Or.inl (bI_cf c7))] | rw [bkA_n (Or.inr (bI_cf c16))]) hP hD hS
  · skip
    replace c7 : ¬ (bI (inB va (nI 0) (nI 7))) = nI 0 := c7
    obtain ⟨a, hlo_a, hhi_a, rfl⟩ := inB_nat (by omega) (by omega) (bI_ct c7)
    refine lv_iload_n hx hb dX4_block_10 rfl (lv_at hl 2 rfl) ?_
    refine lv_iconst (v := (nI 0)) hx hb dX4_block_11 (by decide) ?_
    refine lv_iconst (v := (nI 3)) hx hb dX4_block_12 (by decide) ?_
    refine cl_S0 (As := [.int vb, .int (nI 0), .int (nI 3)]) (rest := []) F hK hA hP hD hS (c_X4_in) (va_cwS 3 hts gX4_block_X4_in rfl rfl rfl (by decide +kernel) ⟨Nat.le_of_ble_eq_true rfl, Nat.le_of_ble_eq_true rfl⟩) rfl hl.1 rfl (Nat.le_of_ble_eq_true rfl) ⟨Nat.zero_le _, Nat.zero_le _⟩ dX4_block_13 (fun r_3 H locs hw_4 hP hS => ?_)
    try dsimp only at hw_4
    obtain rfl : r_3 = (bI (inB vb (nI 0) (nI 3))) := hw_4
    refine lv_if_ne (tgt := 21) hx hb dX4_block_16 (by decide) (fun c16 => ?_) (fun c16 => ?_)
    · skip
      replace c16 : ¬ (bI (inB vb (nI 0) (nI 3))) = nI 0 := c16
      obtain ⟨j, hlo_j, hhi_j, rfl⟩ := inB_nat (by omega) (by omega) (bI_ct c16)
      refine lv_aload_n hx hb dX4_block_21 rfl (lv_at hl 0 rfl) ?_
      refine lv_iload_n hx hb dX4_block_22 rfl (lv_at hl 1 rfl) ?_
      refine cl_Vi (b := (h 0)) (As := [.int (nI a)]) (rest := []) (wc := MW h cI now past pasts bef tri tex typed ati) (wsN := fun (_ : Unit) => MW h cI now past pasts bef tri tex typed ati) F hK hA hP hD hS (c_X4_isBlock) (cwV 1 hts gX4_block_X4_isBlock rfl rfl rfl (by decide +kernel) ⟨Nat.le_of_ble_eq_true rfl, Nat.le_of_ble_eq_true rfl⟩) [0, 1, 2, 3, 4, 5] [] [0, 1, 2, 3, 4, 5] ([]) rfl rfl (fun _ => rfl) (by decide) (by decide) 0 rfl rfl rfl hl.1 rfl (Nat.le_of_ble_eq_true rfl) ⟨Nat.zero_le _, Nat.zero_le _⟩ dX4_block_23 (fun r_6 _ H locs hw_5 hP hD hS => ?_)
      try dsimp only at hw_5 hP hD
      obtain rfl : r_6 = (bI (isB now (nI a))) := hw_5
      refine lv_if_ne (tgt := 32) hx hb dX4_block_26 (by decide) (fun c26 => ?_) (fun c26 => ?_)
      · skip
        replace c26 : ¬ (bI (isB now (nI a))) = nI 0 := c26
        have hb1 := bI_ct c26
        have hb2 := hb1
        rw [isB_k (by omega)] at hb2
        obtain ⟨p, z, hp, hz, hok, hmod, hpz⟩ := hB a (by omega) (of_decide_eq_true hb2)
        refine lv_aload_n hx hb dX4_block_32 rfl (lv_at hl 0 rfl) ?_
        refine va_get (D := D) (ci := 4) (v := .ref (h 1)) (C := RX4) (T := TX4) (N := 8) hx hb hts hI4 hown hK.1 hP 0 rfl rfl 0 (by decide) lk7 (fun _ h9 => h9) rfl dX4_block_33 ?_
        refine lv_sipush (v := (nI 650)) hx hb dX4_block_36 (by decide) ?_
        refine lv_iconst (v := (nI 2)) hx hb dX4_block_39 (by decide) ?_
        refine lv_iload_n hx hb dX4_block_40 rfl (lv_at hl 1 rfl) ?_
        refine lv_imul hx hb dX4_block_41 ?_
        refine n_as (x' := nI (2 * a)) (pk_mul _ _) ?_
        refine lv_iadd hx hb dX4_block_42 ?_
        refine n_as (x' := nI (650 + (2 * a))) (nI_add _ _) ?_
        refine n_iald hx hb hK hP 1 0 rfl rfl (by decide) (by omega) dX4_block_43 ?_
        refine n_as (x' := (nI p)) (hp) ?_
        refine lv_istore_n (lv' := [(3, .int (nI p)), (0, .ref (h 0)), (1, .int (nI a)), (2, .int (nI j))]) hx hb dX4_block_44 rfl hl (by decide) rfl (fun ls hl => ?_)
        refine lv_aload_n hx hb dX4_block_45 rfl (lv_at hl 1 rfl) ?_
        refine va_get (D := D) (ci := 4) (v := .ref (h 1)) (C := RX4) (T := TX4) (N := 8) hx hb hts hI4 hown hK.1 hP 0 rfl rfl 0 (by decide) lk7 (fun _ h9 => h9) rfl dX4_block_46 ?_
        refine lv_sipush (v := (nI 650)) hx hb dX4_block_49 (by decide) ?_
        refine lv_iconst (v := (nI 2)) hx hb dX4_block_52 (by decide) ?_
        refine lv_iload_n hx hb dX4_block_53 rfl (lv_at hl 2 rfl) ?_
        refine lv_imul hx hb dX4_block_54 ?_
        refine n_as (x' := nI (2 * a)) (pk_mul _ _) ?_
        refine lv_iadd hx hb dX4_block_55 ?_
        refine n_as (x' := nI (650 + (2 * a))) (nI_add _ _) ?_
        refine lv_iconst (v := (nI 1)) hx hb dX4_block_56 (by decide) ?_
        refine lv_iadd hx hb dX4_block_57 ?_
        refine n_as (x' := nI ((650 + (2 * a)) + 1)) (nI_add _ _) ?_
        refine n_iald hx hb hK hP 1 0 rfl rfl (by decide) (by omega) dX4_block_58 ?_
        refine n_as (x' := (nI z)) (hz) ?_
        refine lv_istore (lv' := [(4, .int (nI z)), (3, .int (nI p)), (0, .ref (h 0)), (1, .int (nI a)), (2, .int (nI j))]) hx hb dX4_block_59 hl (by decide) rfl (fun ls hl => ?_)
        refine lv_iconst (v := (nI 0)) hx hb dX4_block_61 (by decide) ?_
        refine lv_istore (lv' := [(5, .int (nI 0)), (4, .int (nI z)), (3, .int (nI p)), (0, .ref (h 0)), (1, .int (nI a)), (2, .int (nI j))]) hx hb dX4_block_62 hl (by decide) rfl (fun ls hl => ?_)
        refine lv_iload_n hx hb dX4_block_64 rfl (lv_at hl 2 rfl) ?_
        refine lv_istore (lv' := [(6, .int (nI p)), (5, .int (nI 0)), (4, .int (nI z)), (3, .int (nI p)), (0, .ref (h 0)), (1, .int (nI a)), (2, .int (nI j))]) hx hb dX4_block_65 hl (by decide) rfl (fun ls hl => ?_)
        have LP67 : ∀ (nn : Nat) (i : Nat) (n : Nat) (H : Heap) (locs : List Loc) (ls : Array Slot), i ≤ z → n = bkN now p i j → z - i < nn → va_P D vwCl (MW h cI now past pasts bef tri tex typed ati) H → va_D A0 (MW h cI now past pasts bef tri tex typed ati) → va_S A0 s0.heap H locs → lv_has ls 7 [(6, .int (nI (p + i))), (5, .int (nI n)), (4, .int (nI z)), (3, .int (nI p)), (0, .ref (h 0)), (1, .int (nI a)), (2, .int (nI j))] → W P0 l e0 { frames := 2, cells := 0, slots := 0, locals := 43 } s0 m0 a0 b0 t0 c0 H locs 0 0 Q0 (F0 m0 67 ls []) := by
          intro nn
          induction nn with
          | zero => intro i n H locs ls hi hn hmu; exact absurd hmu (Nat.not_lt_zero _)
          | succ nn ih67 =>
            intro i n H locs ls hi hn hmu67 hP hD hS hl
            have hnl := bkN_le now p i j
            refine lv_iload hx hb dX4_block_67 (lv_at hl 0 rfl) ?_
            refine lv_iload_n hx hb dX4_block_69 rfl (lv_at hl 3 rfl) ?_
            refine lv_iload hx hb dX4_block_70 (lv_at hl 2 rfl) ?_
            refine lv_iadd hx hb dX4_block_72 ?_
            refine n_as (x' := nI (p + z)) (nI_add _ _) ?_
            refine lv_icmp_ge (tgt := 112) hx hb dX4_block_73 (by decide) (fun c73 => ?_) (fun c73 => ?_)
            · skip
              replace c73 : (p + z) ≤ (p + i) := by rw [nI_leI (by omega) (by omega)] at c73; exact c73
              refine lv_iload_n hx hb dX4_block_112 rfl (lv_at hl 6 rfl) ?_
              refine lv_if_ne (tgt := 120) hx hb dX4_block_113 (by decide) (fun c113 => ?_) (fun c113 => ?_)
              · skip
                replace c113 : ¬ j = 0 := by rw [show (0 : Int32) = nI 0 from rfl, nI_eq (by omega) (by omega)] at c113; exact c113
                refine lv_iload_n hx hb dX4_block_120 rfl (lv_at hl 6 rfl) ?_
                refine lv_iconst (v := (nI 1)) hx hb dX4_block_121 (by decide) ?_
                refine lv_icmp_ne (tgt := 130) hx hb dX4_block_122 (by decide) (fun c122 => ?_) (fun c122 => ?_)
                · skip
                  replace c122 : ¬ j = 1 := by rw [nI_eq (by omega) (by omega)] at c122; exact c122
                  refine lv_iload hx hb dX4_block_130 (lv_at hl 1 rfl) ?_
                  exact RETN _ _ (nI n) () _ _ dX4_block_132 (rfl) (by rw [bkA_j (by omega) (by omega) hb1 hp hz hpz]; first | rw [if_pos c113] | (rw [if_neg c113]; first | rw [if_pos c122] | rw [if_neg c122, hn, show i = z by omega])) hP hD hS
                · skip
                  replace c122 : j = 1 := by rw [nI_eq (by omega) (by omega)] at c122; exact c122
                  refine lv_iload hx hb dX4_block_125 (lv_at hl 2 rfl) ?_
                  refine lv_goto (tgt := 132) hx hb dX4_block_127 (by decide) ?_
                  exact RETN _ _ (nI z) () _ _ dX4_block_132 (rfl) (by rw [bkA_j (by omega) (by omega) hb1 hp hz hpz]; first | rw [if_pos c113] | (rw [if_neg c113]; first | rw [if_pos c122] | rw [if_neg c122, hn, show i = z by omega])) hP hD hS
              · skip
                replace c113 : j = 0 := by rw [show (0 : Int32) = nI 0 from rfl, nI_eq (by omega) (by omega)] at c113; exact c113
                refine lv_iload_n hx hb dX4_block_116 rfl (lv_at hl 3 rfl) ?_
                refine lv_goto (tgt := 132) hx hb dX4_block_117 (by decide) ?_
                exact RETN _ _ (nI p) () _ _ dX4_block_132 (rfl) (by rw [bkA_j (by omega) (by omega) hb1 hp hz hpz]; first | rw [if_pos c113] | (rw [if_neg c113]; first | rw [if_pos c122] | rw [if_neg c122, hn, show i = z by omega])) hP hD hS
            · skip
              replace c73 : ¬ ((p + z) ≤ (p + i)) := by rw [nI_leI (by omega) (by omega)] at c73; exact c73
              refine lv_iload hx hb dX4_block_76 (lv_at hl 1 rfl) ?_
              refine lv_aload_n hx hb dX4_block_78 rfl (lv_at hl 4 rfl) ?_
              refine va_get (D := D) (ci := 4) (v := .ref (h 1)) (C := RX4) (T := TX4) (N := 8) hx hb hts hI4 hown hK.1 hP 0 rfl rfl 0 (by decide) lk7 (fun _ h9 => h9) rfl dX4_block_79 ?_
              refine lv_iload hx hb dX4_block_82 (lv_at hl 0 rfl) ?_
              refine n_iald hx hb hK hP 1 0 rfl rfl (by decide) (by omega) dX4_block_84 ?_
              refine lv_iload_n hx hb dX4_block_85 rfl (lv_at hl 6 rfl) ?_
              refine lv_iconst (v := (nI 2)) hx hb dX4_block_86 (by decide) ?_
              refine lv_icmp_ne (tgt := 94) hx hb dX4_block_87 (by decide) (fun c87 => ?_) (fun c87 => ?_)
              · skip
                replace c87 : ¬ j = 2 := by rw [nI_eq (by omega) (by omega)] at c87; exact c87
                refine lv_iconst (v := (nI 3)) hx hb dX4_block_94 (by decide) ?_
                refine lv_icmp_ne (tgt := 102) hx hb dX4_block_95 (by decide) (fun c95 => ?_) (fun c95 => ?_)
                · skip
                  refine lv_iconst (v := (nI 0)) hx hb dX4_block_102 (by decide) ?_
                  refine lv_iadd hx hb dX4_block_103 ?_
                  refine n_as (x' := nI (n + 0)) (nI_add _ _) ?_
                  refine lv_istore (lv' := [(5, .int (nI (n + 0))), (6, .int (nI (p + i))), (4, .int (nI z)), (3, .int (nI p)), (0, .ref (h 0)), (1, .int (nI a)), (2, .int (nI j))]) hx hb dX4_block_104 hl (by decide) rfl (fun ls hl => ?_)
                  refine lv_iinc (v := (nI ((p + i) + 1))) (lv' := [(6, .int (nI ((p + i) + 1))), (5, .int (nI (n + 0))), (4, .int (nI z)), (3, .int (nI p)), (0, .ref (h 0)), (1, .int (nI a)), (2, .int (nI j))]) hx hb dX4_block_106 hl (k := 1) rfl (n_inc1 _) (by decide) rfl (fun ls hl => ?_)
                  refine lv_goto (tgt := 67) hx hb dX4_block_109 (by decide) ?_
                  exact ih67 (i + 1) (n + 0) _ _ _ (by omega) (by rw [hn]; unfold bkN; rw [fb_ct_succ]; simp [c87, c95]) (by omega) hP hD hS (lv_sub hl [0, 1, 2, 3, 4, 5, 6] rfl)
                · skip
                  refine lv_iconst (v := (nI 1)) hx hb dX4_block_98 (by decide) ?_
                  refine lv_goto (tgt := 103) hx hb dX4_block_99 (by decide) ?_
                  refine lv_iadd hx hb dX4_block_103 ?_
                  refine n_as (x' := nI (n + 1)) (nI_add _ _) ?_
                  refine lv_istore (lv' := [(5, .int (nI (n + 1))), (6, .int (nI (p + i))), (4, .int (nI z)), (3, .int (nI p)), (0, .ref (h 0)), (1, .int (nI a)), (2, .int (nI j))]) hx hb dX4_block_104 hl (by decide) rfl (fun ls hl => ?_)
                  refine lv_iinc (v := (nI ((p + i) + 1))) (lv' := [(6, .int (nI ((p + i) + 1))), (5, .int (nI (n + 1))), (4, .int (nI z)), (3, .int (nI p)), (0, .ref (h 0)), (1, .int (nI a)), (2, .int (nI j))]) hx hb dX4_block_106 hl (k := 1) rfl (n_inc1 _) (by decide) rfl (fun ls hl => ?_)
                  refine lv_goto (tgt := 67) hx hb dX4_block_109 (by decide) ?_
                  exact ih67 (i + 1) (n + 1) _ _ _ (by omega) (by rw [hn]; unfold bkN; rw [fb_ct_succ]; simp [c87, c95]) (by omega) hP hD hS (lv_sub hl [0, 1, 2, 3, 4, 5, 6] rfl)
              · skip
                replace c87 : j = 2 := by rw [nI_eq (by omega) (by omega)] at c87; exact c87
                refine lv_iconst (v := (nI 1)) hx hb dX4_block_90 (by decide) ?_
                refine lv_goto (tgt := 95) hx hb dX4_block_91 (by decide) ?_
                refine lv_icmp_ne (tgt := 102) hx hb dX4_block_95 (by decide) (fun c95 => ?_) (fun c95 => ?_)
                · skip
                  refine lv_iconst (v := (nI 0)) hx hb dX4_block_102 (by decide) ?_
                  refine lv_iadd hx hb dX4_block_103 ?_
                  refine n_as (x' := nI (n + 0)) (nI_add _ _) ?_
                  refine lv_istore (lv' := [(5, .int (nI (n + 0))), (6, .int (nI (p + i))), (4, .int (nI z)), (3, .int (nI p)), (0, .ref (h 0)), (1, .int (nI a)), (2, .int (nI j))]) hx hb dX4_block_104 hl (by decide) rfl (fun ls hl => ?_)
                  refine lv_iinc (v := (nI ((p + i) + 1))) (lv' := [(6, .int (nI ((p + i) + 1))), (5, .int (nI (n + 0))), (4, .int (nI z)), (3, .int (nI p)), (0, .ref (h 0)), (1, .int (nI a)), (2, .int (nI j))]) hx hb dX4_block_106 hl (k := 1) rfl (n_inc1 _) (by decide) rfl (fun ls hl => ?_)
                  refine lv_goto (tgt := 67) hx hb dX4_block_109 (by decide) ?_
                  exact ih67 (i + 1) (n + 0) _ _ _ (by omega) (by rw [hn]; unfold bkN; rw [fb_ct_succ]; simp [c87, c95]) (by omega) hP hD hS (lv_sub hl [0, 1, 2, 3, 4, 5, 6] rfl)
                · skip
                  refine lv_iconst (v := (nI 1)) hx hb dX4_block_98 (by decide) ?_
                  refine lv_goto (tgt := 103) hx hb dX4_block_99 (by decide) ?_
                  refine lv_iadd hx hb dX4_block_103 ?_
                  refine n_as (x' := nI (n + 1)) (nI_add _ _) ?_
                  refine lv_istore (lv' := [(5, .int (nI (n + 1))), (6, .int (nI (p + i))), (4, .int (nI z)), (3, .int (nI p)), (0, .ref (h 0)), (1, .int (nI a)), (2, .int (nI j))]) hx hb dX4_block_104 hl (by decide) rfl (fun ls hl => ?_)
                  refine lv_iinc (v := (nI ((p + i) + 1))) (lv' := [(6, .int (nI ((p + i) + 1))), (5, .int (nI (n + 1))), (4, .int (nI z)), (3, .int (nI p)), (0, .ref (h 0)), (1, .int (nI a)), (2, .int (nI j))]) hx hb dX4_block_106 hl (k := 1) rfl (n_inc1 _) (by decide) rfl (fun ls hl => ?_)
                  refine lv_goto (tgt := 67) hx hb dX4_block_109 (by decide) ?_
                  exact ih67 (i + 1) (n + 1) _ _ _ (by omega) (by rw [hn]; unfold bkN; rw [fb_ct_succ]; simp [c87, c95]) (by omega) hP hD hS (lv_sub hl [0, 1, 2, 3, 4, 5, 6] rfl)
        exact LP67 _ 0 0 _ _ _ (by omega) (rfl) (Nat.lt_succ_self _) hP hD hS (lv_sub hl [0, 1, 2, 3, 4, 5, 6] rfl)
      · skip
        replace c26 : (bI (isB now (nI a))) = nI 0 := c26
        refine lv_bipush (v := (-9)) hx hb dX4_block_29 (by decide) ?_
        exact RETN _ _ (-9) () _ _ dX4_block_31 (rfl) (by rw [bkA_9 (by omega) (by omega) (bI_cf c26)]) hP hD hS
    · skip
      replace c16 : (bI (inB vb (nI 0) (nI 3))) = nI 0 := c16
      refine lv_iconst (v := (-1)) hx hb dX4_block_19 (by decide) ?_
      exact RETN _ _ (-1) () _ _ dX4_block_20 (rfl) (by first | rw [bkA_n (Or.inl (bI_cf c7))] | rw [bkA_n (Or.inr (bI_cf c16))]) hP hD hS
set_option maxHeartbeats 4000000 in
set_option maxRecDepth 100000 in
theorem c_X4_audit {l : Launch} {D : va_G} {cI cG cC cR : ClassId} {h : Nat → Nat} {now past bef tri tex : Nat → Int32} {pasts typed ati : Int32} {v : Int32} (hbt : Bits now) : CtI l yX4_audit wsX4_audit { frames := 2, cells := 0, slots := 0, locals := 45 } D (TY cI cG cC cR) [.ref (h 0), .int v] (MW h cI now past pasts bef tri tex typed ati) (fun (_ : Unit) => MW h cI now past pasts bef tri tex typed ati) (fun (r : Int32) (_ : Unit) => r = adA now v) := by
  refine CtI.of (cc := cX4_audit) (maxL := 7) (ty := .int) (by decide) rfl (Nat.le_of_ble_eq_true rfl) ?_
  intro P0 e0 s0 m0 a0 b0 t0 c0 A0 Q0 ls F hK hP hD hA RETN hl
  obtain ⟨hx, hb, hml, hown, hts⟩ := id F
  have hS : va_S A0 s0.heap s0.heap [] := va_S.rf
  have hl : lv_has ls 7 [(0, .ref (h 0)), (1, .int v)] := hl
  have lk7 := hts (.fieldLink RX4 7 "SlotMapsModel" "now" "[I") (by decide +kernel)
  have hI4 : ∀ w ∈ u_ws RX4 TX4 8, w ∈ wsX4_audit := by decide +kernel
  refine lv_iload_n hx hb dX4_audit_0 rfl (lv_at hl 1 rfl) ?_
  refine lv_iconst (v := (nI 0)) hx hb dX4_audit_1 (by decide) ?_
  refine lv_iconst (v := (nI 2)) hx hb dX4_audit_2 (by decide) ?_
  refine cl_S0 (As := [.int v, .int (nI 0), .int (nI 2)]) (rest := []) F hK hA hP hD hS (c_X4_in) (va_cwS 3 hts gX4_audit_X4_in rfl rfl rfl (by decide +kernel) ⟨Nat.le_of_ble_eq_true rfl, Nat.le_of_ble_eq_true rfl⟩) rfl hl.1 rfl (Nat.le_of_ble_eq_true rfl) ⟨Nat.zero_le _, Nat.zero_le _⟩ dX4_audit_3 (fun r_1 H locs hw_2 hP hS => ?_)
  try dsimp only at hw_2
  obtain rfl : r_1 = (bI (inB v (nI 0) (nI 2))) := hw_2
  refine lv_if_ne (tgt := 11) hx hb dX4_audit_6 (by decide) (fun c6 => ?_) (fun c6 => ?_)
  · skip
    replace c6 : ¬ (bI (inB v (nI 0) (nI 2))) = nI 0 := c6
    obtain ⟨j, hlo_j, hhi_j, rfl⟩ := inB_nat (by omega) (by omega) (bI_ct c6)
    refine lv_iconst (v := (nI 0)) hx hb dX4_audit_11 (by decide) ?_
    refine lv_istore_n (lv' := [(2, .int (nI 0)), (0, .ref (h 0)), (1, .int (nI j))]) hx hb dX4_audit_12 rfl hl (by decide) rfl (fun ls hl => ?_)
    refine lv_iconst (v := (nI 0)) hx hb dX4_audit_13 (by decide) ?_
    refine lv_istore_n (lv' := [(3, .int (nI 0)), (2, .int (nI 0)), (0, .ref (h 0)), (1, .int (nI j))]) hx hb dX4_audit_14 rfl hl (by decide) rfl (fun ls hl => ?_)
    refine lv_bipush (v := (-9)) hx hb dX4_audit_15 (by decide) ?_
    refine lv_istore (lv' := [(4, .int (-9)), (3, .int (nI 0)), (2, .int (nI 0)), (0, .ref (h 0)), (1, .int (nI j))]) hx hb dX4_audit_17 hl (by decide) rfl (fun ls hl => ?_)
    refine lv_bipush (v := (nI 9)) hx hb dX4_audit_19 (by decide) ?_
    refine n_as (x' := (dn 10)) (by decide) ?_
    refine lv_istore (lv' := [(5, .int (dn 10)), (4, .int (-9)), (3, .int (nI 0)), (2, .int (nI 0)), (0, .ref (h 0)), (1, .int (nI j))]) hx hb dX4_audit_21 hl (by decide) rfl (fun ls hl => ?_)
    have LP23 : ∀ (nn : Nat) (w1 : Nat) (n : Nat) (m : Nat) (x : Int32) (H : Heap) (locs : List Loc) (ls : Array Slot), w1 ≤ 10 → n + fb_ct (wr now) w1 = fb_ct (wr now) 10 → m + fb_ct (wr1 now) w1 = fb_ct (wr1 now) 10 → x = oI (ls1 (wr now) (10 - w1) w1) → w1 < nn → va_P D vwCl (MW h cI now past pasts bef tri tex typed ati) H → va_D A0 (MW h cI now past pasts bef tri tex typed ati) → va_S A0 s0.heap H locs → lv_has ls 7 [(5, .int (dn w1)), (4, .int x), (3, .int (nI m)), (2, .int (nI n)), (0, .ref (h 0)), (1, .int (nI j))] → W P0 l e0 { frames := 2, cells := 0, slots := 0, locals := 45 } s0 m0 a0 b0 t0 c0 H locs 0 0 Q0 (F0 m0 23 ls []) := by
      intro nn
      induction nn with
      | zero => intro w1 n m x H locs ls hw1 hn hm hx1 hmu; exact absurd hmu (Nat.not_lt_zero _)
      | succ nn ih23 =>
        intro w1 n m x H locs ls hw1 hn hm hx1 hmu23 hP hD hS hl
        refine lv_iload hx hb dX4_audit_23 (lv_at hl 0 rfl) ?_
        refine lv_if_lt (tgt := 111) hx hb dX4_audit_25 (by decide) (fun c25 => ?_) (fun c25 => ?_)
        · skip
          obtain rfl : w1 = 0 := dn_1 hw1 c25
          refine lv_iload_n hx hb dX4_audit_111 rfl (lv_at hl 5 rfl) ?_
          refine lv_if_ne (tgt := 119) hx hb dX4_audit_112 (by decide) (fun c112 => ?_) (fun c112 => ?_)
          · skip
            replace c112 : ¬ j = 0 := by rw [show (0 : Int32) = nI 0 from rfl, nI_eq (by omega) (by omega)] at c112; exact c112
            refine lv_iload_n hx hb dX4_audit_119 rfl (lv_at hl 5 rfl) ?_
            refine lv_iconst (v := (nI 1)) hx hb dX4_audit_120 (by decide) ?_
            refine lv_icmp_ne (tgt := 129) hx hb dX4_audit_121 (by decide) (fun c121 => ?_) (fun c121 => ?_)
            · skip
              replace c121 : ¬ j = 1 := by rw [nI_eq (by omega) (by omega)] at c121; exact c121
              refine lv_iload_n hx hb dX4_audit_129 rfl (lv_at hl 2 rfl) ?_
              exact RETN _ _ (nI m) () _ _ dX4_audit_130 (rfl) (by rw [adA_j (by omega)]; first | rw [if_pos c112, ← hn]; rfl | (rw [if_neg c112]; first | rw [if_pos c121, hx1] | rw [if_neg c121, ← hm]; rfl)) hP hD hS
            · skip
              replace c121 : j = 1 := by rw [nI_eq (by omega) (by omega)] at c121; exact c121
              refine lv_iload hx hb dX4_audit_124 (lv_at hl 1 rfl) ?_
              refine lv_goto (tgt := 130) hx hb dX4_audit_126 (by decide) ?_
              exact RETN _ _ x () _ _ dX4_audit_130 (rfl) (by rw [adA_j (by omega)]; first | rw [if_pos c112, ← hn]; rfl | (rw [if_neg c112]; first | rw [if_pos c121, hx1] | rw [if_neg c121, ← hm]; rfl)) hP hD hS
          · skip
            replace c112 : j = 0 := by rw [show (0 : Int32) = nI 0 from rfl, nI_eq (by omega) (by omega)] at c112; exact c112
            refine lv_iload_n hx hb dX4_audit_115 rfl (lv_at hl 3 rfl) ?_
            refine lv_goto (tgt := 130) hx hb dX4_audit_116 (by decide) ?_
            exact RETN _ _ (nI n) () _ _ dX4_audit_130 (rfl) (by rw [adA_j (by omega)]; first | rw [if_pos c112, ← hn]; rfl | (rw [if_neg c112]; first | rw [if_pos c121, hx1] | rw [if_neg c121, ← hm]; rfl)) hP hD hS
        · skip
          obtain ⟨w, rfl⟩ := dn_0 hw1 c25
          rw [dn_s] at hl
          refine lv_aload_n hx hb dX4_audit_28 rfl (lv_at hl 4 rfl) ?_
          refine va_get (D := D) (ci := 4) (v := .ref (h 1)) (C := RX4) (T := TX4) (N := 8) hx hb hts hI4 hown hK.1 hP 0 rfl rfl 0 (by decide) lk7 (fun _ h9 => h9) rfl dX4_audit_29 ?_
          refine lv_sipush (v := (nI 640)) hx hb dX4_audit_32 (by decide) ?_
          refine lv_iload hx hb dX4_audit_35 (lv_at hl 0 rfl) ?_
          refine lv_iadd hx hb dX4_audit_37 ?_
          refine n_as (x' := nI (640 + w)) (nI_add _ _) ?_
          refine n_iald hx hb hK hP 1 0 rfl rfl (by decide) (by omega) dX4_audit_38 ?_
          refine lv_aload_n hx hb dX4_audit_39 rfl (lv_at hl 4 rfl) ?_
          refine lv_iload hx hb dX4_audit_40 (lv_at hl 0 rfl) ?_
          refine cl_Vi (b := (h 0)) (As := [.int (nI w)]) (rest := [.int (now (640 + w))]) (wc := MW h cI now past pasts bef tri tex typed ati) (wsN := fun (_ : Unit) => MW h cI now past pasts bef tri tex typed ati) F hK hA hP hD hS (c_X4_right (by omega)) (cwV 1 hts gX4_audit_X4_right rfl rfl rfl (by decide +kernel) ⟨Nat.le_of_ble_eq_true rfl, Nat.le_of_ble_eq_true rfl⟩) [0, 1, 2, 3, 4, 5] [] [0, 1, 2, 3, 4, 5] ([]) rfl rfl (fun _ => rfl) (by decide) (by decide) 0 rfl rfl rfl hl.1 rfl (Nat.le_of_ble_eq_true rfl) ⟨Nat.zero_le _, Nat.zero_le _⟩ dX4_audit_42 (fun r_4 _ H locs hw_3 hP hD hS => ?_)
          try dsimp only at hw_3 hP hD
          obtain rfl : r_4 = (rt now w) := hw_3
          refine lv_icmp_eq (tgt := 52) hx hb dX4_audit_45 (by decide) (fun c45 => ?_) (fun c45 => ?_)
          · skip
            refine lv_iconst (v := (nI 0)) hx hb dX4_audit_52 (by decide) ?_
            refine lv_istore (lv' := [(6, .int (nI 0)), (5, .int (nI w)), (4, .int x), (3, .int (nI m)), (2, .int (nI n)), (0, .ref (h 0)), (1, .int (nI j))]) hx hb dX4_audit_53 hl (by decide) rfl (fun ls hl => ?_)
            refine lv_iload_n hx hb dX4_audit_55 rfl (lv_at hl 4 rfl) ?_
            refine lv_iload hx hb dX4_audit_56 (lv_at hl 0 rfl) ?_
            refine lv_if_eq (tgt := 65) hx hb dX4_audit_58 (by decide) (fun c58 => ?_) (fun c58 => ?_)
            · skip
              refine lv_iconst (v := (nI 0)) hx hb dX4_audit_65 (by decide) ?_
              refine lv_iadd hx hb dX4_audit_66 ?_
              refine n_as (x' := nI (n + 0)) (nI_add _ _) ?_
              refine lv_istore_n (lv' := [(2, .int (nI (n + 0))), (6, .int (nI 0)), (5, .int (nI w)), (4, .int x), (3, .int (nI m)), (0, .ref (h 0)), (1, .int (nI j))]) hx hb dX4_audit_67 rfl hl (by decide) rfl (fun ls hl => ?_)
              refine lv_iload_n hx hb dX4_audit_68 rfl (lv_at hl 4 rfl) ?_
              refine lv_iload hx hb dX4_audit_69 (lv_at hl 1 rfl) ?_
              refine lv_if_eq (tgt := 88) hx hb dX4_audit_71 (by decide) (fun c71 => ?_) (fun c71 => ?_)
              · skip
                refine lv_iconst (v := (nI 0)) hx hb dX4_audit_88 (by decide) ?_
                refine lv_iadd hx hb dX4_audit_89 ?_
                refine n_as (x' := nI (m + 0)) (nI_add _ _) ?_
                refine lv_istore_n (lv' := [(3, .int (nI (m + 0))), (2, .int (nI (n + 0))), (6, .int (nI 0)), (5, .int (nI w)), (4, .int x), (0, .ref (h 0)), (1, .int (nI j))]) hx hb dX4_audit_90 rfl hl (by decide) rfl (fun ls hl => ?_)
                refine lv_iload hx hb dX4_audit_91 (lv_at hl 2 rfl) ?_
                refine lv_if_eq (tgt := 101) hx hb dX4_audit_93 (by decide) (fun c93 => ?_) (fun c93 => ?_)
                · skip
                  refine lv_iload hx hb dX4_audit_101 (lv_at hl 4 rfl) ?_
                  refine lv_istore (lv' := [(4, .int x), (3, .int (nI (m + 0))), (2, .int (nI (n + 0))), (6, .int (nI 0)), (5, .int (nI w)), (0, .ref (h 0)), (1, .int (nI j))]) hx hb dX4_audit_103 hl (by decide) rfl (fun ls hl => ?_)
                  refine lv_iinc (v := (dn w)) (lv' := [(5, .int (dn w)), (4, .int x), (3, .int (nI (m + 0))), (2, .int (nI (n + 0))), (6, .int (nI 0)), (0, .ref (h 0)), (1, .int (nI j))]) hx hb dX4_audit_105 hl (k := 4) rfl (dn_d w) (by decide) rfl (fun ls hl => ?_)
                  refine lv_goto (tgt := 23) hx hb dX4_audit_108 (by decide) ?_
                  exact ih23 w (n + 0) (m + 0) x _ _ _ (by omega) (by rw [← hn, fb_ct_succ]; simp [wr, c45]; try omega) (by rw [← hm, fb_ct_succ]; simp [wr1, c45]; try omega) (by first | (rw [hx1, ls1_no (a := w) (e := 10) (by omega) (by simp [wr, c45])]) | (rw [ls1_yes (a := w) (e := 10) (by omega) (by simp [wr, c45])]; rfl)) (by omega) hP hD hS (lv_sub hl [0, 1, 2, 3, 5, 6] rfl)
                · skip
                  exfalso
                  exact absurd c93 (by decide)
              · skip
                exfalso
                exact absurd c71 (by decide)
            · skip
              exfalso
              exact absurd c58 (by decide)
          · skip
            refine lv_iconst (v := (nI 1)) hx hb dX4_audit_48 (by decide) ?_
            refine lv_goto (tgt := 53) hx hb dX4_audit_49 (by decide) ?_
            refine lv_istore (lv' := [(6, .int (nI 1)), (5, .int (nI w)), (4, .int x), (3, .int (nI m)), (2, .int (nI n)), (0, .ref (h 0)), (1, .int (nI j))]) hx hb dX4_audit_53 hl (by decide) rfl (fun ls hl => ?_)
            refine lv_iload_n hx hb dX4_audit_55 rfl (lv_at hl 4 rfl) ?_
            refine lv_iload hx hb dX4_audit_56 (lv_at hl 0 rfl) ?_
            refine lv_if_eq (tgt := 65) hx hb dX4_audit_58 (by decide) (fun c58 => ?_) (fun c58 => ?_)
            · skip
              exfalso
              exact absurd c58 (by decide)
            · skip
              refine lv_iconst (v := (nI 1)) hx hb dX4_audit_61 (by decide) ?_
              refine lv_goto (tgt := 66) hx hb dX4_audit_62 (by decide) ?_
              refine lv_iadd hx hb dX4_audit_66 ?_
              refine n_as (x' := nI (n + 1)) (nI_add _ _) ?_
              refine lv_istore_n (lv' := [(2, .int (nI (n + 1))), (6, .int (nI 1)), (5, .int (nI w)), (4, .int x), (3, .int (nI m)), (0, .ref (h 0)), (1, .int (nI j))]) hx hb dX4_audit_67 rfl hl (by decide) rfl (fun ls hl => ?_)
              refine lv_iload_n hx hb dX4_audit_68 rfl (lv_at hl 4 rfl) ?_
              refine lv_iload hx hb dX4_audit_69 (lv_at hl 1 rfl) ?_
              refine lv_if_eq (tgt := 88) hx hb dX4_audit_71 (by decide) (fun c71 => ?_) (fun c71 => ?_)
              · skip
                exfalso
                exact absurd c71 (by decide)
              · skip
                refine lv_aload_n hx hb dX4_audit_74 rfl (lv_at hl 5 rfl) ?_
                refine va_get (D := D) (ci := 4) (v := .ref (h 1)) (C := RX4) (T := TX4) (N := 8) hx hb hts hI4 hown hK.1 hP 0 rfl rfl 0 (by decide) lk7 (fun _ h9 => h9) rfl dX4_audit_75 ?_
                refine lv_sipush (v := (nI 640)) hx hb dX4_audit_78 (by decide) ?_
                refine lv_iload hx hb dX4_audit_81 (lv_at hl 2 rfl) ?_
                refine lv_iadd hx hb dX4_audit_83 ?_
                refine n_as (x' := nI (640 + w)) (nI_add _ _) ?_
                refine n_iald hx hb hK hP 1 0 rfl rfl (by decide) (by omega) dX4_audit_84 ?_
                refine lv_goto (tgt := 89) hx hb dX4_audit_85 (by decide) ?_
                refine lv_iadd hx hb dX4_audit_89 ?_
                refine n_as (x' := (nI (m + (if now (640 + w) = nI 1 then 1 else 0)))) (bit_add (hbt w (by omega))) ?_
                refine lv_istore_n (lv' := [(3, .int (nI (m + (if now (640 + w) = nI 1 then 1 else 0)))), (2, .int (nI (n + 1))), (6, .int (nI 1)), (5, .int (nI w)), (4, .int x), (0, .ref (h 0)), (1, .int (nI j))]) hx hb dX4_audit_90 rfl hl (by decide) rfl (fun ls hl => ?_)
                refine lv_iload hx hb dX4_audit_91 (lv_at hl 2 rfl) ?_
                refine lv_if_eq (tgt := 101) hx hb dX4_audit_93 (by decide) (fun c93 => ?_) (fun c93 => ?_)
                · skip
                  exfalso
                  exact absurd c93 (by decide)
                · skip
                  refine lv_iload hx hb dX4_audit_96 (lv_at hl 3 rfl) ?_
                  refine lv_goto (tgt := 103) hx hb dX4_audit_98 (by decide) ?_
                  refine lv_istore (lv' := [(4, .int (nI w)), (3, .int (nI (m + (if now (640 + w) = nI 1 then 1 else 0)))), (2, .int (nI (n + 1))), (6, .int (nI 1)), (5, .int (nI w)), (0, .ref (h 0)), (1, .int (nI j))]) hx hb dX4_audit_103 hl (by decide) rfl (fun ls hl => ?_)
                  refine lv_iinc (v := (dn w)) (lv' := [(5, .int (dn w)), (4, .int (nI w)), (3, .int (nI (m + (if now (640 + w) = nI 1 then 1 else 0)))), (2, .int (nI (n + 1))), (6, .int (nI 1)), (0, .ref (h 0)), (1, .int (nI j))]) hx hb dX4_audit_105 hl (k := 4) rfl (dn_d w) (by decide) rfl (fun ls hl => ?_)
                  refine lv_goto (tgt := 23) hx hb dX4_audit_108 (by decide) ?_
                  exact ih23 w (n + 1) (m + (if now (640 + w) = nI 1 then 1 else 0)) (nI w) _ _ _ (by omega) (by rw [← hn, fb_ct_succ]; simp [wr, c45]; try omega) (by rw [← hm, fb_ct_succ]; simp [wr1, c45]; try omega) (by first | (rw [hx1, ls1_no (a := w) (e := 10) (by omega) (by simp [wr, c45])]) | (rw [ls1_yes (a := w) (e := 10) (by omega) (by simp [wr, c45])]; rfl)) (by omega) hP hD hS (lv_sub hl [0, 1, 2, 3, 5, 6] rfl)
    exact LP23 _ 10 0 0 (-9) _ _ _ (by omega) (Nat.zero_add _) (Nat.zero_add _) (rfl) (Nat.lt_succ_self _) hP hD hS (lv_sub hl [0, 1, 2, 3, 4, 5] rfl)
  · skip
    replace c6 : (bI (inB v (nI 0) (nI 2))) = nI 0 := c6
    refine lv_iconst (v := (-1)) hx hb dX4_audit_9 (by decide) ?_
    exact RETN _ _ (-1) () _ _ dX4_audit_10 (rfl) (by rw [adA_n (bI_cf c6)]) hP hD hS
set_option maxHeartbeats 4000000 in
set_option maxRecDepth 100000 in
theorem c_X4_next {l : Launch} {D : va_G} {cI cG cC cR : ClassId} {h : Nat → Nat} {now past bef tri tex : Nat → Int32} {pasts typed ati : Int32} {v : Int32} : CtI l yX4_next wsX4_next { frames := 5, cells := 0, slots := 0, locals := 113 } D (TY cI cG cC cR) [.ref (h 0), .int v] (MW h cI now past pasts bef tri tex typed ati) (fun (u : Nat → Int32) => MW h cI now past pasts bef u tex typed ati) (fun (r : Int32) (u : Nat → Int32) => r = nxA now v) := by
  refine CtI.of (cc := cX4_next) (maxL := 6) (ty := .int) (by decide) rfl (Nat.le_of_ble_eq_true rfl) ?_
  intro P0 e0 s0 m0 a0 b0 t0 c0 A0 Q0 ls F hK hP hD hA RETN hl
  obtain ⟨hx, hb, hml, hown, hts⟩ := id F
  have hS : va_S A0 s0.heap s0.heap [] := va_S.rf
  have hl : lv_has ls 6 [(0, .ref (h 0)), (1, .int v)] := hl
  have lk19 := hts (.fieldLink RX4 19 "SlotMapsModel" "trial" "[I") (by decide +kernel)
  have lk7 := hts (.fieldLink RX4 7 "SlotMapsModel" "now" "[I") (by decide +kernel)
  have hI4 : ∀ w ∈ u_ws RX4 TX4 8, w ∈ wsX4_next := by decide +kernel
  refine lv_iload_n hx hb dX4_next_0 rfl (lv_at hl 1 rfl) ?_
  refine lv_iconst (v := (nI 0)) hx hb dX4_next_1 (by decide) ?_
  refine lv_iconst (v := (nI 2)) hx hb dX4_next_2 (by decide) ?_
  refine cl_S0 (As := [.int v, .int (nI 0), .int (nI 2)]) (rest := []) F hK hA hP hD hS (c_X4_in) (va_cwS 3 hts gX4_next_X4_in rfl rfl rfl (by decide +kernel) ⟨Nat.le_of_ble_eq_true rfl, Nat.le_of_ble_eq_true rfl⟩) rfl hl.1 rfl (Nat.le_of_ble_eq_true rfl) ⟨Nat.zero_le _, Nat.zero_le _⟩ dX4_next_3 (fun r_1 H locs hw_2 hP hS => ?_)
  try dsimp only at hw_2
  obtain rfl : r_1 = (bI (inB v (nI 0) (nI 2))) := hw_2
  refine lv_if_ne (tgt := 11) hx hb dX4_next_6 (by decide) (fun c6 => ?_) (fun c6 => ?_)
  · skip
    replace c6 : ¬ (bI (inB v (nI 0) (nI 2))) = nI 0 := c6
    obtain ⟨j, hlo_j, hhi_j, rfl⟩ := inB_nat (by omega) (by omega) (bI_ct c6)
    refine lv_aload_n hx hb dX4_next_11 rfl (lv_at hl 0 rfl) ?_
    refine va_get (D := D) (ci := 4) (v := .ref (h 1)) (C := RX4) (T := TX4) (N := 8) hx hb hts hI4 hown hK.1 hP 0 rfl rfl 0 (by decide) lk7 (fun _ h9 => h9) rfl dX4_next_12 ?_
    refine lv_iconst (v := (nI 0)) hx hb dX4_next_15 (by decide) ?_
    refine lv_aload_n hx hb dX4_next_16 rfl (lv_at hl 0 rfl) ?_
    refine va_get (D := D) (ci := 4) (v := .ref (h 4)) (C := RX4) (T := TX4) (N := 8) hx hb hts hI4 hown hK.1 hP 0 rfl rfl 4 (by decide) lk19 (fun _ h9 => h9) rfl dX4_next_17 ?_
    refine lv_iconst (v := (nI 0)) hx hb dX4_next_20 (by decide) ?_
    refine cl_Sv (As := [.ref (h 1), .int (nI 0), .ref (h 4), .int (nI 0)]) (rest := []) (wc := [(h 1, .inl (cI, 667, .inl now)), (h 4, .inl (cI, 667, .inl tri))]) (wsN := fun (_ : Unit) => MW h cI now past pasts bef (va_cpy now tri 0 0 667) tex typed ati) F hK hA hP hD hS (c_X4_copies (by omega) (by omega) (by omega) (by omega)) (va_cwS 4 hts gX4_next_X4_copies rfl rfl rfl (by decide +kernel) ⟨Nat.le_of_ble_eq_true rfl, Nat.le_of_ble_eq_true rfl⟩) [1, 4] [0, 2, 3, 5] [0, 4, 1, 2, 5, 3] ([(h 0, .inr (4, [.ref (h 1), .ref (h 2), .int pasts, .ref (h 3), .ref (h 4), .ref (h 5), .int typed, .int ati])), (h 2, .inl (cI, 3335, .inl past)), (h 3, .inl (cI, 667, .inl bef)), (h 5, .inl (cI, 80, .inl tex))]) rfl rfl (fun _ => rfl) (by decide) (by decide) rfl hl.1 rfl (Nat.le_of_ble_eq_true rfl) ⟨Nat.zero_le _, Nat.zero_le _⟩ dX4_next_21 (fun _ H locs hw_3 hP hD hS => ?_)
    try dsimp only at hw_3 hP hD
    have hP := vc_arr (g := now) (wsN := MW h cI now past pasts bef now tex typed ati) 4 rfl (fun j hj => sb_cpy0 hj) rfl hP
    have hD := vc_arrD (g := now) (wsN := MW h cI now past pasts bef now tex typed ati) 4 rfl rfl hD
    refine lv_aload_n hx hb dX4_next_24 rfl (lv_at hl 0 rfl) ?_
    refine lv_iconst (v := (nI 2)) hx hb dX4_next_25 (by decide) ?_
    have hto := tot_le now (nI 2) 10 (by decide)
    replace hto : tot now (nI 2) ≤ 320 := hto
    refine cl_Vi (b := (h 0)) (As := [.int (nI 2)]) (rest := []) (wc := MW h cI now past pasts bef now tex typed ati) (wsN := fun (_ : Unit) => MW h cI now past pasts bef now tex typed ati) F hK hA hP hD hS (c_X4_inAll) (cwV 1 hts gX4_next_X4_inAll rfl rfl rfl (by decide +kernel) ⟨Nat.le_of_ble_eq_true rfl, Nat.le_of_ble_eq_true rfl⟩) [0, 1, 2, 3, 4, 5] [] [0, 1, 2, 3, 4, 5] ([]) rfl rfl (fun _ => rfl) (by decide) (by decide) 0 rfl rfl rfl hl.1 rfl (Nat.le_of_ble_eq_true rfl) ⟨Nat.zero_le _, Nat.zero_le _⟩ dX4_next_26 (fun r_6 _ H locs hw_5 hP hD hS => ?_)
    try dsimp only at hw_5 hP hD
    obtain rfl : r_6 = (nI (tot now (nI 2))) := hw_5
    refine lv_istore_n (lv' := [(2, .int (nI (tot now (nI 2)))), (0, .ref (h 0)), (1, .int (nI j))]) hx hb dX4_next_29 rfl hl (by decide) rfl (fun ls hl => ?_)
    refine lv_aload_n hx hb dX4_next_30 rfl (lv_at hl 1 rfl) ?_
    refine cl_Vi (b := (h 0)) (As := []) (rest := []) (wc := MW h cI now past pasts bef now tex typed ati) (wsN := fun (u1 : Nat → Int32) => MW h cI u1 past pasts bef now tex typed ati) F hK hA hP hD hS (c_X4_takes1) (cwV 0 hts gX4_next_X4_takes1 rfl rfl rfl (by decide +kernel) ⟨Nat.le_of_ble_eq_true rfl, Nat.le_of_ble_eq_true rfl⟩) [0, 1, 2, 3, 4, 5] [] [0, 1, 2, 3, 4, 5] ([]) rfl rfl (fun _ => rfl) (by decide) (by decide) 0 rfl rfl rfl hl.1 rfl (Nat.le_of_ble_eq_true rfl) ⟨Nat.zero_le _, Nat.zero_le _⟩ dX4_next_31 (fun r1 u1 H locs hw_7 hP hD hS => ?_)
    try dsimp only at hw_7 hP hD
    obtain ⟨hr1, rfl⟩ := hw_7
    have hP : va_P D vwCl (MW h cI ((tk now).2) past pasts bef now tex typed ati) H := hP
    have hD : va_D A0 (MW h cI ((tk now).2) past pasts bef now tex typed ati) := hD
    cases ho : (tk now).1 with
    | none =>
      obtain rfl : r1 = -3 := by rw [hr1, ho]; rfl
      refine lv_istore_n (lv' := [(3, .int (-3)), (2, .int (nI (tot now (nI 2)))), (0, .ref (h 0)), (1, .int (nI j))]) hx hb dX4_next_34 rfl hl (by decide) rfl (fun ls hl => ?_)
      refine lv_aload_n hx hb dX4_next_35 rfl (lv_at hl 2 rfl) ?_
      refine va_get (D := D) (ci := 4) (v := .ref (h 1)) (C := RX4) (T := TX4) (N := 8) hx hb hts hI4 hown hK.1 hP 0 rfl rfl 0 (by decide) lk7 (fun _ h9 => h9) rfl dX4_next_36 ?_
      refine lv_sipush (v := (nI 666)) hx hb dX4_next_39 (by decide) ?_
      refine n_iald hx hb hK hP 1 0 rfl rfl (by decide) (by omega) dX4_next_42 ?_
      refine lv_aload_n hx hb dX4_next_43 rfl (lv_at hl 2 rfl) ?_
      refine va_get (D := D) (ci := 4) (v := .ref (h 4)) (C := RX4) (T := TX4) (N := 8) hx hb hts hI4 hown hK.1 hP 0 rfl rfl 4 (by decide) lk19 (fun _ h9 => h9) rfl dX4_next_44 ?_
      refine lv_sipush (v := (nI 666)) hx hb dX4_next_47 (by decide) ?_
      refine n_iald hx hb hK hP 4 0 rfl rfl (by decide) (by omega) dX4_next_50 ?_
      refine lv_isub hx hb dX4_next_51 ?_
      refine lv_istore (lv' := [(4, .int ((((tk now).2) 666) - (now 666))), (3, .int (-3)), (2, .int (nI (tot now (nI 2)))), (0, .ref (h 0)), (1, .int (nI j))]) hx hb dX4_next_52 hl (by decide) rfl (fun ls hl => ?_)
      refine lv_aload_n hx hb dX4_next_54 rfl (lv_at hl 3 rfl) ?_
      refine lv_iconst (v := (nI 2)) hx hb dX4_next_55 (by decide) ?_
      have hto2 := tot_le (tk now).2 (nI 2) 10 (by decide)
      replace hto2 : tot (tk now).2 (nI 2) ≤ 320 := hto2
      refine cl_Vi (b := (h 0)) (As := [.int (nI 2)]) (rest := []) (wc := MW h cI ((tk now).2) past pasts bef now tex typed ati) (wsN := fun (_ : Unit) => MW h cI ((tk now).2) past pasts bef now tex typed ati) F hK hA hP hD hS (c_X4_inAll) (cwV 1 hts gX4_next_X4_inAll rfl rfl rfl (by decide +kernel) ⟨Nat.le_of_ble_eq_true rfl, Nat.le_of_ble_eq_true rfl⟩) [0, 1, 2, 3, 4, 5] [] [0, 1, 2, 3, 4, 5] ([]) rfl rfl (fun _ => rfl) (by decide) (by decide) 0 rfl rfl rfl hl.1 rfl (Nat.le_of_ble_eq_true rfl) ⟨Nat.zero_le _, Nat.zero_le _⟩ dX4_next_56 (fun r_10 _ H locs hw_9 hP hD hS => ?_)
      try dsimp only at hw_9 hP hD
      obtain rfl : r_10 = (nI (tot (tk now).2 (nI 2))) := hw_9
      refine lv_iload_n hx hb dX4_next_59 rfl (lv_at hl 2 rfl) ?_
      refine lv_icmp_ge (tgt := 67) hx hb dX4_next_60 (by decide) (fun c60 => ?_) (fun c60 => ?_)
      · skip
        replace c60 : (tot now (nI 2)) ≤ (tot (tk now).2 (nI 2)) := by rw [nI_leI (by omega) (by omega)] at c60; exact c60
        refine lv_iconst (v := (nI 0)) hx hb dX4_next_67 (by decide) ?_
        refine lv_istore (lv' := [(5, .int (nI 0)), (4, .int ((((tk now).2) 666) - (now 666))), (3, .int (-3)), (2, .int (nI (tot now (nI 2)))), (0, .ref (h 0)), (1, .int (nI j))]) hx hb dX4_next_68 hl (by decide) rfl (fun ls hl => ?_)
        refine lv_aload_n hx hb dX4_next_70 rfl (lv_at hl 4 rfl) ?_
        refine va_get (D := D) (ci := 4) (v := .ref (h 4)) (C := RX4) (T := TX4) (N := 8) hx hb hts hI4 hown hK.1 hP 0 rfl rfl 4 (by decide) lk19 (fun _ h9 => h9) rfl dX4_next_71 ?_
        refine lv_iconst (v := (nI 0)) hx hb dX4_next_74 (by decide) ?_
        refine lv_aload_n hx hb dX4_next_75 rfl (lv_at hl 4 rfl) ?_
        refine va_get (D := D) (ci := 4) (v := .ref (h 1)) (C := RX4) (T := TX4) (N := 8) hx hb hts hI4 hown hK.1 hP 0 rfl rfl 0 (by decide) lk7 (fun _ h9 => h9) rfl dX4_next_76 ?_
        refine lv_iconst (v := (nI 0)) hx hb dX4_next_79 (by decide) ?_
        refine cl_Sv (As := [.ref (h 4), .int (nI 0), .ref (h 1), .int (nI 0)]) (rest := []) (wc := [(h 4, .inl (cI, 667, .inl now)), (h 1, .inl (cI, 667, .inl ((tk now).2)))]) (wsN := fun (_ : Unit) => MW h cI (va_cpy now ((tk now).2) 0 0 667) past pasts bef now tex typed ati) F hK hA hP hD hS (c_X4_copies (by omega) (by omega) (by omega) (by omega)) (va_cwS 4 hts gX4_next_X4_copies rfl rfl rfl (by decide +kernel) ⟨Nat.le_of_ble_eq_true rfl, Nat.le_of_ble_eq_true rfl⟩) [4, 1] [0, 2, 3, 5] [0, 5, 1, 2, 4, 3] ([(h 0, .inr (4, [.ref (h 1), .ref (h 2), .int pasts, .ref (h 3), .ref (h 4), .ref (h 5), .int typed, .int ati])), (h 2, .inl (cI, 3335, .inl past)), (h 3, .inl (cI, 667, .inl bef)), (h 5, .inl (cI, 80, .inl tex))]) rfl rfl (fun _ => rfl) (by decide) (by decide) rfl hl.1 rfl (Nat.le_of_ble_eq_true rfl) ⟨Nat.zero_le _, Nat.zero_le _⟩ dX4_next_80 (fun _ H locs hw_11 hP hD hS => ?_)
        try dsimp only at hw_11 hP hD
        have hP := vc_arr (g := now) (wsN := MW h cI now past pasts bef now tex typed ati) 1 rfl (fun j hj => sb_cpy0 hj) rfl hP
        have hD := vc_arrD (g := now) (wsN := MW h cI now past pasts bef now tex typed ati) 1 rfl rfl hD
        refine lv_iload_n hx hb dX4_next_83 rfl (lv_at hl 2 rfl) ?_
        refine lv_if_ge (tgt := 92) hx hb dX4_next_84 (by decide) (fun c84 => ?_) (fun c84 => ?_)
        · skip
          exfalso
          exact absurd c84 (by decide)
        · skip
          refine lv_bipush (v := (-9)) hx hb dX4_next_87 (by decide) ?_
          refine lv_goto (tgt := 120) hx hb dX4_next_89 (by decide) ?_
          exact RETN _ _ (-9) now _ _ dX4_next_120 (rfl) (by first | rw [nxA_0 (by omega) ho] | (rw [nxA_j (by omega) ho]; first | rw [if_pos c93] | (rw [if_neg c93]; first | rw [if_pos c102] | (rw [if_neg c102]; first | rw [if_pos (by omega)] | rw [if_neg (by omega)])))) hP hD hS
      · skip
        replace c60 : ¬ ((tot now (nI 2)) ≤ (tot (tk now).2 (nI 2))) := by rw [nI_leI (by omega) (by omega)] at c60; exact c60
        refine lv_iconst (v := (nI 1)) hx hb dX4_next_63 (by decide) ?_
        refine lv_goto (tgt := 68) hx hb dX4_next_64 (by decide) ?_
        refine lv_istore (lv' := [(5, .int (nI 1)), (4, .int ((((tk now).2) 666) - (now 666))), (3, .int (-3)), (2, .int (nI (tot now (nI 2)))), (0, .ref (h 0)), (1, .int (nI j))]) hx hb dX4_next_68 hl (by decide) rfl (fun ls hl => ?_)
        refine lv_aload_n hx hb dX4_next_70 rfl (lv_at hl 4 rfl) ?_
        refine va_get (D := D) (ci := 4) (v := .ref (h 4)) (C := RX4) (T := TX4) (N := 8) hx hb hts hI4 hown hK.1 hP 0 rfl rfl 4 (by decide) lk19 (fun _ h9 => h9) rfl dX4_next_71 ?_
        refine lv_iconst (v := (nI 0)) hx hb dX4_next_74 (by decide) ?_
        refine lv_aload_n hx hb dX4_next_75 rfl (lv_at hl 4 rfl) ?_
        refine va_get (D := D) (ci := 4) (v := .ref (h 1)) (C := RX4) (T := TX4) (N := 8) hx hb hts hI4 hown hK.1 hP 0 rfl rfl 0 (by decide) lk7 (fun _ h9 => h9) rfl dX4_next_76 ?_
        refine lv_iconst (v := (nI 0)) hx hb dX4_next_79 (by decide) ?_
        refine cl_Sv (As := [.ref (h 4), .int (nI 0), .ref (h 1), .int (nI 0)]) (rest := []) (wc := [(h 4, .inl (cI, 667, .inl now)), (h 1, .inl (cI, 667, .inl ((tk now).2)))]) (wsN := fun (_ : Unit) => MW h cI (va_cpy now ((tk now).2) 0 0 667) past pasts bef now tex typed ati) F hK hA hP hD hS (c_X4_copies (by omega) (by omega) (by omega) (by omega)) (va_cwS 4 hts gX4_next_X4_copies rfl rfl rfl (by decide +kernel) ⟨Nat.le_of_ble_eq_true rfl, Nat.le_of_ble_eq_true rfl⟩) [4, 1] [0, 2, 3, 5] [0, 5, 1, 2, 4, 3] ([(h 0, .inr (4, [.ref (h 1), .ref (h 2), .int pasts, .ref (h 3), .ref (h 4), .ref (h 5), .int typed, .int ati])), (h 2, .inl (cI, 3335, .inl past)), (h 3, .inl (cI, 667, .inl bef)), (h 5, .inl (cI, 80, .inl tex))]) rfl rfl (fun _ => rfl) (by decide) (by decide) rfl hl.1 rfl (Nat.le_of_ble_eq_true rfl) ⟨Nat.zero_le _, Nat.zero_le _⟩ dX4_next_80 (fun _ H locs hw_13 hP hD hS => ?_)
        try dsimp only at hw_13 hP hD
        have hP := vc_arr (g := now) (wsN := MW h cI now past pasts bef now tex typed ati) 1 rfl (fun j hj => sb_cpy0 hj) rfl hP
        have hD := vc_arrD (g := now) (wsN := MW h cI now past pasts bef now tex typed ati) 1 rfl rfl hD
        refine lv_iload_n hx hb dX4_next_83 rfl (lv_at hl 2 rfl) ?_
        refine lv_if_ge (tgt := 92) hx hb dX4_next_84 (by decide) (fun c84 => ?_) (fun c84 => ?_)
        · skip
          exfalso
          exact absurd c84 (by decide)
        · skip
          refine lv_bipush (v := (-9)) hx hb dX4_next_87 (by decide) ?_
          refine lv_goto (tgt := 120) hx hb dX4_next_89 (by decide) ?_
          exact RETN _ _ (-9) now _ _ dX4_next_120 (rfl) (by first | rw [nxA_0 (by omega) ho] | (rw [nxA_j (by omega) ho]; first | rw [if_pos c93] | (rw [if_neg c93]; first | rw [if_pos c102] | (rw [if_neg c102]; first | rw [if_pos (by omega)] | rw [if_neg (by omega)])))) hP hD hS
    | some sl =>
      obtain rfl : r1 = nI sl := by rw [hr1, ho]; rfl
      have hsl := tk_lt ho
      refine lv_istore_n (lv' := [(3, .int (nI sl)), (2, .int (nI (tot now (nI 2)))), (0, .ref (h 0)), (1, .int (nI j))]) hx hb dX4_next_34 rfl hl (by decide) rfl (fun ls hl => ?_)
      refine lv_aload_n hx hb dX4_next_35 rfl (lv_at hl 2 rfl) ?_
      refine va_get (D := D) (ci := 4) (v := .ref (h 1)) (C := RX4) (T := TX4) (N := 8) hx hb hts hI4 hown hK.1 hP 0 rfl rfl 0 (by decide) lk7 (fun _ h9 => h9) rfl dX4_next_36 ?_
      refine lv_sipush (v := (nI 666)) hx hb dX4_next_39 (by decide) ?_
      refine n_iald hx hb hK hP 1 0 rfl rfl (by decide) (by omega) dX4_next_42 ?_
      refine lv_aload_n hx hb dX4_next_43 rfl (lv_at hl 2 rfl) ?_
      refine va_get (D := D) (ci := 4) (v := .ref (h 4)) (C := RX4) (T := TX4) (N := 8) hx hb hts hI4 hown hK.1 hP 0 rfl rfl 4 (by decide) lk19 (fun _ h9 => h9) rfl dX4_next_44 ?_
      refine lv_sipush (v := (nI 666)) hx hb dX4_next_47 (by decide) ?_
      refine n_iald hx hb hK hP 4 0 rfl rfl (by decide) (by omega) dX4_next_50 ?_
      refine lv_isub hx hb dX4_next_51 ?_
      refine lv_istore (lv' := [(4, .int ((((tk now).2) 666) - (now 666))), (3, .int (nI sl)), (2, .int (nI (tot now (nI 2)))), (0, .ref (h 0)), (1, .int (nI j))]) hx hb dX4_next_52 hl (by decide) rfl (fun ls hl => ?_)
      refine lv_aload_n hx hb dX4_next_54 rfl (lv_at hl 3 rfl) ?_
      refine lv_iconst (v := (nI 2)) hx hb dX4_next_55 (by decide) ?_
      have hto2 := tot_le (tk now).2 (nI 2) 10 (by decide)
      replace hto2 : tot (tk now).2 (nI 2) ≤ 320 := hto2
      refine cl_Vi (b := (h 0)) (As := [.int (nI 2)]) (rest := []) (wc := MW h cI ((tk now).2) past pasts bef now tex typed ati) (wsN := fun (_ : Unit) => MW h cI ((tk now).2) past pasts bef now tex typed ati) F hK hA hP hD hS (c_X4_inAll) (cwV 1 hts gX4_next_X4_inAll rfl rfl rfl (by decide +kernel) ⟨Nat.le_of_ble_eq_true rfl, Nat.le_of_ble_eq_true rfl⟩) [0, 1, 2, 3, 4, 5] [] [0, 1, 2, 3, 4, 5] ([]) rfl rfl (fun _ => rfl) (by decide) (by decide) 0 rfl rfl rfl hl.1 rfl (Nat.le_of_ble_eq_true rfl) ⟨Nat.zero_le _, Nat.zero_le _⟩ dX4_next_56 (fun r_16 _ H locs hw_15 hP hD hS => ?_)
      try dsimp only at hw_15 hP hD
      obtain rfl : r_16 = (nI (tot (tk now).2 (nI 2))) := hw_15
      refine lv_iload_n hx hb dX4_next_59 rfl (lv_at hl 2 rfl) ?_
      refine lv_icmp_ge (tgt := 67) hx hb dX4_next_60 (by decide) (fun c60 => ?_) (fun c60 => ?_)
      · skip
        replace c60 : (tot now (nI 2)) ≤ (tot (tk now).2 (nI 2)) := by rw [nI_leI (by omega) (by omega)] at c60; exact c60
        refine lv_iconst (v := (nI 0)) hx hb dX4_next_67 (by decide) ?_
        refine lv_istore (lv' := [(5, .int (nI 0)), (4, .int ((((tk now).2) 666) - (now 666))), (3, .int (nI sl)), (2, .int (nI (tot now (nI 2)))), (0, .ref (h 0)), (1, .int (nI j))]) hx hb dX4_next_68 hl (by decide) rfl (fun ls hl => ?_)
        refine lv_aload_n hx hb dX4_next_70 rfl (lv_at hl 4 rfl) ?_
        refine va_get (D := D) (ci := 4) (v := .ref (h 4)) (C := RX4) (T := TX4) (N := 8) hx hb hts hI4 hown hK.1 hP 0 rfl rfl 4 (by decide) lk19 (fun _ h9 => h9) rfl dX4_next_71 ?_
        refine lv_iconst (v := (nI 0)) hx hb dX4_next_74 (by decide) ?_
        refine lv_aload_n hx hb dX4_next_75 rfl (lv_at hl 4 rfl) ?_
        refine va_get (D := D) (ci := 4) (v := .ref (h 1)) (C := RX4) (T := TX4) (N := 8) hx hb hts hI4 hown hK.1 hP 0 rfl rfl 0 (by decide) lk7 (fun _ h9 => h9) rfl dX4_next_76 ?_
        refine lv_iconst (v := (nI 0)) hx hb dX4_next_79 (by decide) ?_
        refine cl_Sv (As := [.ref (h 4), .int (nI 0), .ref (h 1), .int (nI 0)]) (rest := []) (wc := [(h 4, .inl (cI, 667, .inl now)), (h 1, .inl (cI, 667, .inl ((tk now).2)))]) (wsN := fun (_ : Unit) => MW h cI (va_cpy now ((tk now).2) 0 0 667) past pasts bef now tex typed ati) F hK hA hP hD hS (c_X4_copies (by omega) (by omega) (by omega) (by omega)) (va_cwS 4 hts gX4_next_X4_copies rfl rfl rfl (by decide +kernel) ⟨Nat.le_of_ble_eq_true rfl, Nat.le_of_ble_eq_true rfl⟩) [4, 1] [0, 2, 3, 5] [0, 5, 1, 2, 4, 3] ([(h 0, .inr (4, [.ref (h 1), .ref (h 2), .int pasts, .ref (h 3), .ref (h 4), .ref (h 5), .int typed, .int ati])), (h 2, .inl (cI, 3335, .inl past)), (h 3, .inl (cI, 667, .inl bef)), (h 5, .inl (cI, 80, .inl tex))]) rfl rfl (fun _ => rfl) (by decide) (by decide) rfl hl.1 rfl (Nat.le_of_ble_eq_true rfl) ⟨Nat.zero_le _, Nat.zero_le _⟩ dX4_next_80 (fun _ H locs hw_17 hP hD hS => ?_)
        try dsimp only at hw_17 hP hD
        have hP := vc_arr (g := now) (wsN := MW h cI now past pasts bef now tex typed ati) 1 rfl (fun j hj => sb_cpy0 hj) rfl hP
        have hD := vc_arrD (g := now) (wsN := MW h cI now past pasts bef now tex typed ati) 1 rfl rfl hD
        refine lv_iload_n hx hb dX4_next_83 rfl (lv_at hl 2 rfl) ?_
        refine lv_if_ge (tgt := 92) hx hb dX4_next_84 (by decide) (fun c84 => ?_) (fun c84 => ?_)
        · skip
          replace c84 : 0 ≤ sl := by rw [show (0 : Int32) = nI 0 from rfl, nI_leI (by omega) (by omega)] at c84; exact c84
          refine lv_iload_n hx hb dX4_next_92 rfl (lv_at hl 5 rfl) ?_
          refine lv_if_ne (tgt := 100) hx hb dX4_next_93 (by decide) (fun c93 => ?_) (fun c93 => ?_)
          · skip
            replace c93 : ¬ j = 0 := by rw [show (0 : Int32) = nI 0 from rfl, nI_eq (by omega) (by omega)] at c93; exact c93
            refine lv_iload_n hx hb dX4_next_100 rfl (lv_at hl 5 rfl) ?_
            refine lv_iconst (v := (nI 1)) hx hb dX4_next_101 (by decide) ?_
            refine lv_icmp_ne (tgt := 110) hx hb dX4_next_102 (by decide) (fun c102 => ?_) (fun c102 => ?_)
            · skip
              replace c102 : ¬ j = 1 := by rw [nI_eq (by omega) (by omega)] at c102; exact c102
              refine lv_iload hx hb dX4_next_110 (lv_at hl 0 rfl) ?_
              refine lv_if_eq (tgt := 119) hx hb dX4_next_112 (by decide) (fun c112 => ?_) (fun c112 => ?_)
              · skip
                refine lv_iconst (v := (nI 0)) hx hb dX4_next_119 (by decide) ?_
                exact RETN _ _ (nI 0) now _ _ dX4_next_120 (rfl) (by first | rw [nxA_0 (by omega) ho] | (rw [nxA_j (by omega) ho]; first | rw [if_pos c93] | (rw [if_neg c93]; first | rw [if_pos c102] | (rw [if_neg c102]; first | rw [if_pos (by omega)] | rw [if_neg (by omega)])))) hP hD hS
              · skip
                exfalso
                exact absurd c112 (by decide)
            · skip
              replace c102 : j = 1 := by rw [nI_eq (by omega) (by omega)] at c102; exact c102
              refine lv_iload hx hb dX4_next_105 (lv_at hl 1 rfl) ?_
              refine lv_goto (tgt := 120) hx hb dX4_next_107 (by decide) ?_
              exact RETN _ _ ((((tk now).2) 666) - (now 666)) now _ _ dX4_next_120 (rfl) (by first | rw [nxA_0 (by omega) ho] | (rw [nxA_j (by omega) ho]; first | rw [if_pos c93] | (rw [if_neg c93]; first | rw [if_pos c102] | (rw [if_neg c102]; first | rw [if_pos (by omega)] | rw [if_neg (by omega)])))) hP hD hS
          · skip
            replace c93 : j = 0 := by rw [show (0 : Int32) = nI 0 from rfl, nI_eq (by omega) (by omega)] at c93; exact c93
            refine lv_iload_n hx hb dX4_next_96 rfl (lv_at hl 2 rfl) ?_
            refine lv_goto (tgt := 120) hx hb dX4_next_97 (by decide) ?_
            exact RETN _ _ (nI sl) now _ _ dX4_next_120 (rfl) (by first | rw [nxA_0 (by omega) ho] | (rw [nxA_j (by omega) ho]; first | rw [if_pos c93] | (rw [if_neg c93]; first | rw [if_pos c102] | (rw [if_neg c102]; first | rw [if_pos (by omega)] | rw [if_neg (by omega)])))) hP hD hS
        · skip
          replace c84 : ¬ (0 ≤ sl) := by rw [show (0 : Int32) = nI 0 from rfl, nI_leI (by omega) (by omega)] at c84; exact c84
          exfalso
          omega
      · skip
        replace c60 : ¬ ((tot now (nI 2)) ≤ (tot (tk now).2 (nI 2))) := by rw [nI_leI (by omega) (by omega)] at c60; exact c60
        refine lv_iconst (v := (nI 1)) hx hb dX4_next_63 (by decide) ?_
        refine lv_goto (tgt := 68) hx hb dX4_next_64 (by decide) ?_
        refine lv_istore (lv' := [(5, .int (nI 1)), (4, .int ((((tk now).2) 666) - (now 666))), (3, .int (nI sl)), (2, .int (nI (tot now (nI 2)))), (0, .ref (h 0)), (1, .int (nI j))]) hx hb dX4_next_68 hl (by decide) rfl (fun ls hl => ?_)
        refine lv_aload_n hx hb dX4_next_70 rfl (lv_at hl 4 rfl) ?_
        refine va_get (D := D) (ci := 4) (v := .ref (h 4)) (C := RX4) (T := TX4) (N := 8) hx hb hts hI4 hown hK.1 hP 0 rfl rfl 4 (by decide) lk19 (fun _ h9 => h9) rfl dX4_next_71 ?_
        refine lv_iconst (v := (nI 0)) hx hb dX4_next_74 (by decide) ?_
        refine lv_aload_n hx hb dX4_next_75 rfl (lv_at hl 4 rfl) ?_
        refine va_get (D := D) (ci := 4) (v := .ref (h 1)) (C := RX4) (T := TX4) (N := 8) hx hb hts hI4 hown hK.1 hP 0 rfl rfl 0 (by decide) lk7 (fun _ h9 => h9) rfl dX4_next_76 ?_
        refine lv_iconst (v := (nI 0)) hx hb dX4_next_79 (by decide) ?_
        refine cl_Sv (As := [.ref (h 4), .int (nI 0), .ref (h 1), .int (nI 0)]) (rest := []) (wc := [(h 4, .inl (cI, 667, .inl now)), (h 1, .inl (cI, 667, .inl ((tk now).2)))]) (wsN := fun (_ : Unit) => MW h cI (va_cpy now ((tk now).2) 0 0 667) past pasts bef now tex typed ati) F hK hA hP hD hS (c_X4_copies (by omega) (by omega) (by omega) (by omega)) (va_cwS 4 hts gX4_next_X4_copies rfl rfl rfl (by decide +kernel) ⟨Nat.le_of_ble_eq_true rfl, Nat.le_of_ble_eq_true rfl⟩) [4, 1] [0, 2, 3, 5] [0, 5, 1, 2, 4, 3] ([(h 0, .inr (4, [.ref (h 1), .ref (h 2), .int pasts, .ref (h 3), .ref (h 4), .ref (h 5), .int typed, .int ati])), (h 2, .inl (cI, 3335, .inl past)), (h 3, .inl (cI, 667, .inl bef)), (h 5, .inl (cI, 80, .inl tex))]) rfl rfl (fun _ => rfl) (by decide) (by decide) rfl hl.1 rfl (Nat.le_of_ble_eq_true rfl) ⟨Nat.zero_le _, Nat.zero_le _⟩ dX4_next_80 (fun _ H locs hw_19 hP hD hS => ?_)
        try dsimp only at hw_19 hP hD
        have hP := vc_arr (g := now) (wsN := MW h cI now past pasts bef now tex typed ati) 1 rfl (fun j hj => sb_cpy0 hj) rfl hP
        have hD := vc_arrD (g := now) (wsN := MW h cI now past pasts bef now tex typed ati) 1 rfl rfl hD
        refine lv_iload_n hx hb dX4_next_83 rfl (lv_at hl 2 rfl) ?_
        refine lv_if_ge (tgt := 92) hx hb dX4_next_84 (by decide) (fun c84 => ?_) (fun c84 => ?_)
        · skip
          replace c84 : 0 ≤ sl := by rw [show (0 : Int32) = nI 0 from rfl, nI_leI (by omega) (by omega)] at c84; exact c84
          refine lv_iload_n hx hb dX4_next_92 rfl (lv_at hl 5 rfl) ?_
          refine lv_if_ne (tgt := 100) hx hb dX4_next_93 (by decide) (fun c93 => ?_) (fun c93 => ?_)
          · skip
            replace c93 : ¬ j = 0 := by rw [show (0 : Int32) = nI 0 from rfl, nI_eq (by omega) (by omega)] at c93; exact c93
            refine lv_iload_n hx hb dX4_next_100 rfl (lv_at hl 5 rfl) ?_
            refine lv_iconst (v := (nI 1)) hx hb dX4_next_101 (by decide) ?_
            refine lv_icmp_ne (tgt := 110) hx hb dX4_next_102 (by decide) (fun c102 => ?_) (fun c102 => ?_)
            · skip
              replace c102 : ¬ j = 1 := by rw [nI_eq (by omega) (by omega)] at c102; exact c102
              refine lv_iload hx hb dX4_next_110 (lv_at hl 0 rfl) ?_
              refine lv_if_eq (tgt := 119) hx hb dX4_next_112 (by decide) (fun c112 => ?_) (fun c112 => ?_)
              · skip
                exfalso
                exact absurd c112 (by decide)
              · skip
                refine lv_iconst (v := (nI 1)) hx hb dX4_next_115 (by decide) ?_
                refine lv_goto (tgt := 120) hx hb dX4_next_116 (by decide) ?_
                exact RETN _ _ (nI 1) now _ _ dX4_next_120 (rfl) (by first | rw [nxA_0 (by omega) ho] | (rw [nxA_j (by omega) ho]; first | rw [if_pos c93] | (rw [if_neg c93]; first | rw [if_pos c102] | (rw [if_neg c102]; first | rw [if_pos (by omega)] | rw [if_neg (by omega)])))) hP hD hS
            · skip
              replace c102 : j = 1 := by rw [nI_eq (by omega) (by omega)] at c102; exact c102
              refine lv_iload hx hb dX4_next_105 (lv_at hl 1 rfl) ?_
              refine lv_goto (tgt := 120) hx hb dX4_next_107 (by decide) ?_
              exact RETN _ _ ((((tk now).2) 666) - (now 666)) now _ _ dX4_next_120 (rfl) (by first | rw [nxA_0 (by omega) ho] | (rw [nxA_j (by omega) ho]; first | rw [if_pos c93] | (rw [if_neg c93]; first | rw [if_pos c102] | (rw [if_neg c102]; first | rw [if_pos (by omega)] | rw [if_neg (by omega)])))) hP hD hS
          · skip
            replace c93 : j = 0 := by rw [show (0 : Int32) = nI 0 from rfl, nI_eq (by omega) (by omega)] at c93; exact c93
            refine lv_iload_n hx hb dX4_next_96 rfl (lv_at hl 2 rfl) ?_
            refine lv_goto (tgt := 120) hx hb dX4_next_97 (by decide) ?_
            exact RETN _ _ (nI sl) now _ _ dX4_next_120 (rfl) (by first | rw [nxA_0 (by omega) ho] | (rw [nxA_j (by omega) ho]; first | rw [if_pos c93] | (rw [if_neg c93]; first | rw [if_pos c102] | (rw [if_neg c102]; first | rw [if_pos (by omega)] | rw [if_neg (by omega)])))) hP hD hS
        · skip
          replace c84 : ¬ (0 ≤ sl) := by rw [show (0 : Int32) = nI 0 from rfl, nI_leI (by omega) (by omega)] at c84; exact c84
          exfalso
          omega
  · skip
    replace c6 : (bI (inB v (nI 0) (nI 2))) = nI 0 := c6
    refine lv_iconst (v := (-1)) hx hb dX4_next_9 (by decide) ?_
    exact RETN _ _ (-1) tri _ _ dX4_next_10 (rfl) (by rw [nxA_n (bI_cf c6)]) hP hD hS
set_option maxHeartbeats 4000000 in
set_option maxRecDepth 100000 in
theorem c_X4_runAt {l : Launch} {D : va_G} {cI cG cC cR : ClassId} {h : Nat → Nat} {now past bef tri tex : Nat → Int32} {pasts typed ati : Int32} {v : Int32} : CtI l yX4_runAt wsX4_runAt { frames := 1, cells := 0, slots := 0, locals := 23 } D (TY cI cG cC cR) [.ref (h 0), .int v] (MW h cI now past pasts bef tri tex typed ati) (fun (_ : Unit) => MW h cI now past pasts bef tri tex typed ati) (fun (r : Int32) (_ : Unit) => r = raA now v) := by
  refine CtI.of (cc := cX4_runAt) (maxL := 2) (ty := .int) (by decide) rfl (Nat.le_of_ble_eq_true rfl) ?_
  intro P0 e0 s0 m0 a0 b0 t0 c0 A0 Q0 ls F hK hP hD hA RETN hl
  obtain ⟨hx, hb, hml, hown, hts⟩ := id F
  have hS : va_S A0 s0.heap s0.heap [] := va_S.rf
  have hl : lv_has ls 2 [(0, .ref (h 0)), (1, .int v)] := hl
  refine lv_iload_n hx hb dX4_runAt_0 rfl (lv_at hl 1 rfl) ?_
  refine lv_iconst (v := (nI 1)) hx hb dX4_runAt_1 (by decide) ?_
  refine lv_bipush (v := (nI 64)) hx hb dX4_runAt_2 (by decide) ?_
  refine cl_S0 (As := [.int v, .int (nI 1), .int (nI 64)]) (rest := []) F hK hA hP hD hS (c_X4_in) (va_cwS 3 hts gX4_runAt_X4_in rfl rfl rfl (by decide +kernel) ⟨Nat.le_of_ble_eq_true rfl, Nat.le_of_ble_eq_true rfl⟩) rfl hl.1 rfl (Nat.le_of_ble_eq_true rfl) ⟨Nat.zero_le _, Nat.zero_le _⟩ dX4_runAt_4 (fun r_1 H locs hw_2 hP hS => ?_)
  try dsimp only at hw_2
  obtain rfl : r_1 = (bI (inB v (nI 1) (nI 64))) := hw_2
  refine lv_if_eq (tgt := 18) hx hb dX4_runAt_7 (by decide) (fun c7 => ?_) (fun c7 => ?_)
  · skip
    replace c7 : (bI (inB v (nI 1) (nI 64))) = nI 0 := c7
    refine lv_iconst (v := (-1)) hx hb dX4_runAt_18 (by decide) ?_
    exact RETN _ _ (-1) () _ _ dX4_runAt_19 (rfl) (by first | (unfold raA; rw [bI_cf c7]; rfl) | (unfold raA; rw [bI_ct c7, if_pos rfl, nI_clamp (by omega)])) hP hD hS
  · skip
    replace c7 : ¬ (bI (inB v (nI 1) (nI 64))) = nI 0 := c7
    obtain ⟨m, hlo_m, hhi_m, rfl⟩ := inB_nat (by omega) (by omega) (bI_ct c7)
    refine lv_aload_n hx hb dX4_runAt_10 rfl (lv_at hl 0 rfl) ?_
    refine lv_iload_n hx hb dX4_runAt_11 rfl (lv_at hl 1 rfl) ?_
    refine cl_Vi (b := (h 0)) (As := [.int (nI m)]) (rest := []) (wc := MW h cI now past pasts bef tri tex typed ati) (wsN := fun (_ : Unit) => MW h cI now past pasts bef tri tex typed ati) F hK hA hP hD hS (c_X4_runFrom (by omega) (by omega)) (cwV 1 hts gX4_runAt_X4_runFrom rfl rfl rfl (by decide +kernel) ⟨Nat.le_of_ble_eq_true rfl, Nat.le_of_ble_eq_true rfl⟩) [0, 1, 2, 3, 4, 5] [] [0, 1, 2, 3, 4, 5] ([]) rfl rfl (fun _ => rfl) (by decide) (by decide) 0 rfl rfl rfl hl.1 rfl (Nat.le_of_ble_eq_true rfl) ⟨Nat.zero_le _, Nat.zero_le _⟩ dX4_runAt_12 (fun r_4 _ H locs hw_3 hP hD hS => ?_)
    try dsimp only at hw_3 hP hD
    obtain rfl : r_4 = (oI (rn now m 320 0 0)) := hw_3
    refine lv_goto (tgt := 19) hx hb dX4_runAt_15 (by decide) ?_
    exact RETN _ _ (oI (rn now m 320 0 0)) () _ _ dX4_runAt_19 (rfl) (by first | (unfold raA; rw [bI_cf c7]; rfl) | (unfold raA; rw [bI_ct c7, if_pos rfl, nI_clamp (by omega)])) hP hD hS
set_option maxHeartbeats 4000000 in
set_option maxRecDepth 100000 in
theorem c_X4_placeFor {l : Launch} {D : va_G} {cI cG cC cR : ClassId} {h : Nat → Nat} {now past bef tri tex : Nat → Int32} {pasts typed ati : Int32} {v : Int32} : CtI l yX4_placeFor wsX4_placeFor { frames := 1, cells := 0, slots := 0, locals := 24 } D (TY cI cG cC cR) [.ref (h 0), .int v] (MW h cI now past pasts bef tri tex typed ati) (fun (_ : Unit) => MW h cI now past pasts bef tri tex typed ati) (fun (r : Int32) (_ : Unit) => r = pfA now v) := by
  refine CtI.of (cc := cX4_placeFor) (maxL := 2) (ty := .int) (by decide) rfl (Nat.le_of_ble_eq_true rfl) ?_
  intro P0 e0 s0 m0 a0 b0 t0 c0 A0 Q0 ls F hK hP hD hA RETN hl
  obtain ⟨hx, hb, hml, hown, hts⟩ := id F
  have hS : va_S A0 s0.heap s0.heap [] := va_S.rf
  have hl : lv_has ls 2 [(0, .ref (h 0)), (1, .int v)] := hl
  refine lv_iload_n hx hb dX4_placeFor_0 rfl (lv_at hl 1 rfl) ?_
  refine cl_S0 (As := [.int v]) (rest := []) F hK hA hP hD hS (c_X4_isSize) (va_cwS 1 hts gX4_placeFor_X4_isSize rfl rfl rfl (by decide +kernel) ⟨Nat.le_of_ble_eq_true rfl, Nat.le_of_ble_eq_true rfl⟩) rfl hl.1 rfl (Nat.le_of_ble_eq_true rfl) ⟨Nat.zero_le _, Nat.zero_le _⟩ dX4_placeFor_1 (fun r_1 H locs hw_2 hP hS => ?_)
  try dsimp only at hw_2
  obtain rfl : r_1 = (bI (szB v)) := hw_2
  refine lv_if_eq (tgt := 15) hx hb dX4_placeFor_4 (by decide) (fun c4 => ?_) (fun c4 => ?_)
  · skip
    replace c4 : (bI (szB v)) = nI 0 := c4
    refine lv_iconst (v := (-1)) hx hb dX4_placeFor_15 (by decide) ?_
    exact RETN _ _ (-1) () _ _ dX4_placeFor_16 (rfl) (by first | (unfold pfA; rw [bI_cf c4]; rfl) | (unfold pfA; rw [bI_ct c4, if_pos rfl, nI_clamp (by omega)])) hP hD hS
  · skip
    replace c4 : ¬ (bI (szB v)) = nI 0 := c4
    obtain ⟨z, rfl, hz⟩ := szB_t (bI_ct c4)
    have hzl := okz_le hz
    refine lv_aload_n hx hb dX4_placeFor_7 rfl (lv_at hl 0 rfl) ?_
    refine lv_iload_n hx hb dX4_placeFor_8 rfl (lv_at hl 1 rfl) ?_
    refine cl_Vi (b := (h 0)) (As := [.int (nI z)]) (rest := []) (wc := MW h cI now past pasts bef tri tex typed ati) (wsN := fun (_ : Unit) => MW h cI now past pasts bef tri tex typed ati) F hK hA hP hD hS (c_X4_placeOf hz) (cwV 1 hts gX4_placeFor_X4_placeOf rfl rfl rfl (by decide +kernel) ⟨Nat.le_of_ble_eq_true rfl, Nat.le_of_ble_eq_true rfl⟩) [0, 1, 2, 3, 4, 5] [] [0, 1, 2, 3, 4, 5] ([]) rfl rfl (fun _ => rfl) (by decide) (by decide) 0 rfl rfl rfl hl.1 rfl (Nat.le_of_ble_eq_true rfl) ⟨Nat.zero_le _, Nat.zero_le _⟩ dX4_placeFor_9 (fun r_4 _ H locs hw_3 hP hD hS => ?_)
    try dsimp only at hw_3 hP hD
    obtain rfl : r_4 = (oI (pl now z)) := hw_3
    refine lv_goto (tgt := 16) hx hb dX4_placeFor_12 (by decide) ?_
    exact RETN _ _ (oI (pl now z)) () _ _ dX4_placeFor_16 (rfl) (by first | (unfold pfA; rw [bI_cf c4]; rfl) | (unfold pfA; rw [bI_ct c4, if_pos rfl, nI_clamp (by omega)])) hP hD hS
set_option maxHeartbeats 4000000 in
set_option maxRecDepth 100000 in
theorem c_X4_takes {l : Launch} {D : va_G} {cI cG cC cR : ClassId} {h : Nat → Nat} {now past bef tri tex : Nat → Int32} {pasts typed ati : Int32} : CtI l yX4_takes wsX4_takes { frames := 5, cells := 0, slots := 0, locals := 113 } D (TY cI cG cC cR) [.ref (h 0)] (MW h cI now past pasts bef tri tex typed ati) (fun (_ : Unit) => MW h cI now past pasts bef now tex typed ati) (fun (r : Int32) (_ : Unit) => r = nI (reach now)) := by
  refine CtI.of (cc := cX4_takes) (maxL := 2) (ty := .int) (by decide) rfl (Nat.le_of_ble_eq_true rfl) ?_
  intro P0 e0 s0 m0 a0 b0 t0 c0 A0 Q0 ls F hK hP hD hA RETN hl
  obtain ⟨hx, hb, hml, hown, hts⟩ := id F
  have hS : va_S A0 s0.heap s0.heap [] := va_S.rf
  have hl : lv_has ls 2 [(0, .ref (h 0))] := hl
  have lk19 := hts (.fieldLink RX4 19 "SlotMapsModel" "trial" "[I") (by decide +kernel)
  have lk7 := hts (.fieldLink RX4 7 "SlotMapsModel" "now" "[I") (by decide +kernel)
  have hI4 : ∀ w ∈ u_ws RX4 TX4 8, w ∈ wsX4_takes := by decide +kernel
  refine lv_aload_n hx hb dX4_takes_0 rfl (lv_at hl 0 rfl) ?_
  refine va_get (D := D) (ci := 4) (v := .ref (h 1)) (C := RX4) (T := TX4) (N := 8) hx hb hts hI4 hown hK.1 hP 0 rfl rfl 0 (by decide) lk7 (fun _ h9 => h9) rfl dX4_takes_1 ?_
  refine lv_iconst (v := (nI 0)) hx hb dX4_takes_4 (by decide) ?_
  refine lv_aload_n hx hb dX4_takes_5 rfl (lv_at hl 0 rfl) ?_
  refine va_get (D := D) (ci := 4) (v := .ref (h 4)) (C := RX4) (T := TX4) (N := 8) hx hb hts hI4 hown hK.1 hP 0 rfl rfl 4 (by decide) lk19 (fun _ h9 => h9) rfl dX4_takes_6 ?_
  refine lv_iconst (v := (nI 0)) hx hb dX4_takes_9 (by decide) ?_
  refine cl_Sv (As := [.ref (h 1), .int (nI 0), .ref (h 4), .int (nI 0)]) (rest := []) (wc := [(h 1, .inl (cI, 667, .inl now)), (h 4, .inl (cI, 667, .inl tri))]) (wsN := fun (_ : Unit) => MW h cI now past pasts bef (va_cpy now tri 0 0 667) tex typed ati) F hK hA hP hD hS (c_X4_copies (by omega) (by omega) (by omega) (by omega)) (va_cwS 4 hts gX4_takes_X4_copies rfl rfl rfl (by decide +kernel) ⟨Nat.le_of_ble_eq_true rfl, Nat.le_of_ble_eq_true rfl⟩) [1, 4] [0, 2, 3, 5] [0, 4, 1, 2, 5, 3] ([(h 0, .inr (4, [.ref (h 1), .ref (h 2), .int pasts, .ref (h 3), .ref (h 4), .ref (h 5), .int typed, .int ati])), (h 2, .inl (cI, 3335, .inl past)), (h 3, .inl (cI, 667, .inl bef)), (h 5, .inl (cI, 80, .inl tex))]) rfl rfl (fun _ => rfl) (by decide) (by decide) rfl hl.1 rfl (Nat.le_of_ble_eq_true rfl) ⟨Nat.zero_le _, Nat.zero_le _⟩ dX4_takes_10 (fun _ H locs hw_1 hP hD hS => ?_)
  try dsimp only at hw_1 hP hD
  have hP := vc_arr (g := now) (wsN := MW h cI now past pasts bef now tex typed ati) 4 rfl (fun j hj => sb_cpy0 hj) rfl hP
  have hD := vc_arrD (g := now) (wsN := MW h cI now past pasts bef now tex typed ati) 4 rfl rfl hD
  refine lv_iconst (v := (nI 0)) hx hb dX4_takes_13 (by decide) ?_
  refine lv_istore_n (lv' := [(1, .int (nI 0)), (0, .ref (h 0))]) hx hb dX4_takes_14 rfl hl (by decide) rfl (fun ls hl => ?_)
  have LP15 : ∀ (nn : Nat) (n : Nat) (g : Nat → Int32) (H : Heap) (locs : List Loc) (ls : Array Slot), n + reach g = reach now → reach g < nn → va_P D vwCl (MW h cI g past pasts bef now tex typed ati) H → va_D A0 (MW h cI g past pasts bef now tex typed ati) → va_S A0 s0.heap H locs → lv_has ls 2 [(1, .int (nI n)), (0, .ref (h 0))] → W P0 l e0 { frames := 5, cells := 0, slots := 0, locals := 113 } s0 m0 a0 b0 t0 c0 H locs 0 0 Q0 (F0 m0 15 ls []) := by
    intro nn
    induction nn with
    | zero => intro n g H locs ls hn hmu; exact absurd hmu (Nat.not_lt_zero _)
    | succ nn ih15 =>
      intro n g H locs ls hn hmu15 hP hD hS hl
      refine lv_aload_n hx hb dX4_takes_15 rfl (lv_at hl 1 rfl) ?_
      refine cl_Vi (b := (h 0)) (As := []) (rest := []) (wc := MW h cI g past pasts bef now tex typed ati) (wsN := fun (u1 : Nat → Int32) => MW h cI u1 past pasts bef now tex typed ati) F hK hA hP hD hS (c_X4_takes1) (cwV 0 hts gX4_takes_X4_takes1 rfl rfl rfl (by decide +kernel) ⟨Nat.le_of_ble_eq_true rfl, Nat.le_of_ble_eq_true rfl⟩) [0, 1, 2, 3, 4, 5] [] [0, 1, 2, 3, 4, 5] ([]) rfl rfl (fun _ => rfl) (by decide) (by decide) 0 rfl rfl rfl hl.1 rfl (Nat.le_of_ble_eq_true rfl) ⟨Nat.zero_le _, Nat.zero_le _⟩ dX4_takes_16 (fun r1 u1 H locs hw_3 hP hD hS => ?_)
      try dsimp only at hw_3 hP hD
      obtain ⟨hr1, rfl⟩ := hw_3
      have hP : va_P D vwCl (MW h cI ((tk g).2) past pasts bef now tex typed ati) H := hP
      have hD : va_D A0 (MW h cI ((tk g).2) past pasts bef now tex typed ati) := hD
      cases ho : (tk g).1 with
      | none =>
        obtain rfl : r1 = -3 := by rw [hr1, ho]; rfl
        have hre := tk_none ho
        refine lv_if_lt (tgt := 28) hx hb dX4_takes_19 (by decide) (fun c19 => ?_) (fun c19 => ?_)
        · skip
          refine lv_aload_n hx hb dX4_takes_28 rfl (lv_at hl 1 rfl) ?_
          refine va_get (D := D) (ci := 4) (v := .ref (h 4)) (C := RX4) (T := TX4) (N := 8) hx hb hts hI4 hown hK.1 hP 0 rfl rfl 4 (by decide) lk19 (fun _ h9 => h9) rfl dX4_takes_29 ?_
          refine lv_iconst (v := (nI 0)) hx hb dX4_takes_32 (by decide) ?_
          refine lv_aload_n hx hb dX4_takes_33 rfl (lv_at hl 1 rfl) ?_
          refine va_get (D := D) (ci := 4) (v := .ref (h 1)) (C := RX4) (T := TX4) (N := 8) hx hb hts hI4 hown hK.1 hP 0 rfl rfl 0 (by decide) lk7 (fun _ h9 => h9) rfl dX4_takes_34 ?_
          refine lv_iconst (v := (nI 0)) hx hb dX4_takes_37 (by decide) ?_
          refine cl_Sv (As := [.ref (h 4), .int (nI 0), .ref (h 1), .int (nI 0)]) (rest := []) (wc := [(h 4, .inl (cI, 667, .inl now)), (h 1, .inl (cI, 667, .inl ((tk g).2)))]) (wsN := fun (_ : Unit) => MW h cI (va_cpy now ((tk g).2) 0 0 667) past pasts bef now tex typed ati) F hK hA hP hD hS (c_X4_copies (by omega) (by omega) (by omega) (by omega)) (va_cwS 4 hts gX4_takes_X4_copies rfl rfl rfl (by decide +kernel) ⟨Nat.le_of_ble_eq_true rfl, Nat.le_of_ble_eq_true rfl⟩) [4, 1] [0, 2, 3, 5] [0, 5, 1, 2, 4, 3] ([(h 0, .inr (4, [.ref (h 1), .ref (h 2), .int pasts, .ref (h 3), .ref (h 4), .ref (h 5), .int typed, .int ati])), (h 2, .inl (cI, 3335, .inl past)), (h 3, .inl (cI, 667, .inl bef)), (h 5, .inl (cI, 80, .inl tex))]) rfl rfl (fun _ => rfl) (by decide) (by decide) rfl hl.1 rfl (Nat.le_of_ble_eq_true rfl) ⟨Nat.zero_le _, Nat.zero_le _⟩ dX4_takes_38 (fun _ H locs hw_5 hP hD hS => ?_)
          try dsimp only at hw_5 hP hD
          have hP := vc_arr (g := now) (wsN := MW h cI now past pasts bef now tex typed ati) 1 rfl (fun j hj => sb_cpy0 hj) rfl hP
          have hD := vc_arrD (g := now) (wsN := MW h cI now past pasts bef now tex typed ati) 1 rfl rfl hD
          refine lv_iload_n hx hb dX4_takes_41 rfl (lv_at hl 0 rfl) ?_
          exact RETN _ _ (nI n) () _ _ dX4_takes_42 (rfl) (by rw [← hn, hre, Nat.add_zero]) hP hD hS
        · skip
          exfalso
          exact absurd (by decide) c19
      | some sl =>
        obtain rfl : r1 = nI sl := by rw [hr1, ho]; rfl
        have hsl := tk_lt ho
        have hre := tk_some ho
        refine lv_if_lt (tgt := 28) hx hb dX4_takes_19 (by decide) (fun c19 => ?_) (fun c19 => ?_)
        · skip
          replace c19 : sl < 0 := by rw [show (0 : Int32) = nI 0 from rfl, nI_ltI (by omega) (by omega)] at c19; exact c19
          exfalso
          omega
        · skip
          replace c19 : ¬ (sl < 0) := by rw [show (0 : Int32) = nI 0 from rfl, nI_ltI (by omega) (by omega)] at c19; exact c19
          refine lv_iinc (v := (nI (n + 1))) (lv' := [(1, .int (nI (n + 1))), (0, .ref (h 0))]) hx hb dX4_takes_22 hl (k := 0) rfl (n_inc1 _) (by decide) rfl (fun ls hl => ?_)
          refine lv_goto (tgt := 15) hx hb dX4_takes_25 (by decide) ?_
          exact ih15 (n + 1) ((tk g).2) _ _ _ (by omega) (by omega) hP hD hS (lv_sub hl [0, 1] rfl)
  exact LP15 _ 0 now _ _ _ (Nat.zero_add _) (Nat.lt_succ_self _) hP hD hS (lv_sub hl [0, 1] rfl)
end
