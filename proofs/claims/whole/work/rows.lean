section
-- ===== PART A: goes FIRST, ahead of the names: the tables' words, and 'selects' of the private methods out of them =====
/-- a private method of a class that the tables say can be made, by its rows of tables_1 -/
def lw_okq (q : MethodName × Nat) : Prop := (q.1.cls ≠ "java/lang/invoke/MethodHandle" ∧ q.1.cls ≠ "java/lang/invoke/VarHandle") ∧ Cond.instantiable q.1.cls q.2 ∈ tables_1 ∧ Cond.privateMethod q.1 ∈ tables_1 ∧ Cond.instanceMethod q.1 ∈ tables_1
theorem lw_p0 : lw_okq (⟨"DungeonDesk$Maker", "digRoom", "(ILDungeonDesk$Level;)V"⟩, 5) := ⟨⟨by decide +kernel, by decide +kernel⟩, List.mem_of_getElem? (i := 40) (by decide +kernel), List.mem_of_getElem? (i := 250) (by decide +kernel), List.mem_of_getElem? (i := 251) (by decide +kernel)⟩
theorem lw_p1 : lw_okq (⟨"DungeonDesk$Maker", "digRow", "(IIILDungeonDesk$Level;)V"⟩, 5) := ⟨⟨by decide +kernel, by decide +kernel⟩, List.mem_of_getElem? (i := 40) (by decide +kernel), List.mem_of_getElem? (i := 260) (by decide +kernel), List.mem_of_getElem? (i := 261) (by decide +kernel)⟩
theorem lw_p2 : lw_okq (⟨"DungeonDesk$Maker", "digWay", "(IILDungeonDesk$Level;)V"⟩, 5) := ⟨⟨by decide +kernel, by decide +kernel⟩, List.mem_of_getElem? (i := 40) (by decide +kernel), List.mem_of_getElem? (i := 274) (by decide +kernel), List.mem_of_getElem? (i := 275) (by decide +kernel)⟩
theorem lw_p3 : lw_okq (⟨"DungeonDesk$Maker", "centreColumn", "(I)I"⟩, 5) := ⟨⟨by decide +kernel, by decide +kernel⟩, List.mem_of_getElem? (i := 40) (by decide +kernel), List.mem_of_getElem? (i := 278) (by decide +kernel), List.mem_of_getElem? (i := 279) (by decide +kernel)⟩
theorem lw_p4 : lw_okq (⟨"DungeonDesk$Maker", "centreRow", "(I)I"⟩, 5) := ⟨⟨by decide +kernel, by decide +kernel⟩, List.mem_of_getElem? (i := 40) (by decide +kernel), List.mem_of_getElem? (i := 282) (by decide +kernel), List.mem_of_getElem? (i := 283) (by decide +kernel)⟩
theorem lw_p5 : lw_okq (⟨"DungeonDesk$Maker", "digColumn", "(IIILDungeonDesk$Level;)V"⟩, 5) := ⟨⟨by decide +kernel, by decide +kernel⟩, List.mem_of_getElem? (i := 40) (by decide +kernel), List.mem_of_getElem? (i := 286) (by decide +kernel), List.mem_of_getElem? (i := 287) (by decide +kernel)⟩
theorem lw_p6 : lw_okq (⟨"DungeonDesk$Maker", "drawPlace", "(I)I"⟩, 5) := ⟨⟨by decide +kernel, by decide +kernel⟩, List.mem_of_getElem? (i := 40) (by decide +kernel), List.mem_of_getElem? (i := 290) (by decide +kernel), List.mem_of_getElem? (i := 291) (by decide +kernel)⟩
theorem lw_p7 : lw_okq (⟨"DungeonDesk$Game", "arrive", "(I)V"⟩, 11) := ⟨⟨by decide +kernel, by decide +kernel⟩, List.mem_of_getElem? (i := 21) (by decide +kernel), List.mem_of_getElem? (i := 311) (by decide +kernel), List.mem_of_getElem? (i := 312) (by decide +kernel)⟩
theorem lw_p8 : lw_okq (⟨"DungeonDesk$Game", "walk", "(I)I"⟩, 11) := ⟨⟨by decide +kernel, by decide +kernel⟩, List.mem_of_getElem? (i := 21) (by decide +kernel), List.mem_of_getElem? (i := 367) (by decide +kernel), List.mem_of_getElem? (i := 368) (by decide +kernel)⟩
theorem lw_p9 : lw_okq (⟨"DungeonDesk$Game", "pickUp", "()I"⟩, 11) := ⟨⟨by decide +kernel, by decide +kernel⟩, List.mem_of_getElem? (i := 21) (by decide +kernel), List.mem_of_getElem? (i := 382) (by decide +kernel), List.mem_of_getElem? (i := 383) (by decide +kernel)⟩
theorem lw_p10 : lw_okq (⟨"DungeonDesk$Game", "useThing", "(I)I"⟩, 11) := ⟨⟨by decide +kernel, by decide +kernel⟩, List.mem_of_getElem? (i := 21) (by decide +kernel), List.mem_of_getElem? (i := 403) (by decide +kernel), List.mem_of_getElem? (i := 404) (by decide +kernel)⟩
theorem lw_p11 : lw_okq (⟨"DungeonDesk$Game", "drawFreePlace", "()I"⟩, 11) := ⟨⟨by decide +kernel, by decide +kernel⟩, List.mem_of_getElem? (i := 21) (by decide +kernel), List.mem_of_getElem? (i := 416) (by decide +kernel), List.mem_of_getElem? (i := 417) (by decide +kernel)⟩
theorem lw_p12 : lw_okq (⟨"DungeonDesk$Game", "isFree", "(I)Z"⟩, 11) := ⟨⟨by decide +kernel, by decide +kernel⟩, List.mem_of_getElem? (i := 21) (by decide +kernel), List.mem_of_getElem? (i := 420) (by decide +kernel), List.mem_of_getElem? (i := 421) (by decide +kernel)⟩
theorem lw_p13 : lw_okq (⟨"DungeonDesk$Game", "descend", "()I"⟩, 11) := ⟨⟨by decide +kernel, by decide +kernel⟩, List.mem_of_getElem? (i := 21) (by decide +kernel), List.mem_of_getElem? (i := 425) (by decide +kernel), List.mem_of_getElem? (i := 426) (by decide +kernel)⟩
theorem lw_p14 : lw_okq (⟨"DungeonDesk$Game", "passTime", "()V"⟩, 11) := ⟨⟨by decide +kernel, by decide +kernel⟩, List.mem_of_getElem? (i := 21) (by decide +kernel), List.mem_of_getElem? (i := 433) (by decide +kernel), List.mem_of_getElem? (i := 434) (by decide +kernel)⟩
theorem lw_p15 : lw_okq (⟨"DungeonDesk$Game", "takeTurns", "(I)V"⟩, 11) := ⟨⟨by decide +kernel, by decide +kernel⟩, List.mem_of_getElem? (i := 21) (by decide +kernel), List.mem_of_getElem? (i := 437) (by decide +kernel), List.mem_of_getElem? (i := 438) (by decide +kernel)⟩
def lw_privs_1 : List (MethodName × Nat) := [(⟨"DungeonDesk$Maker", "digRoom", "(ILDungeonDesk$Level;)V"⟩, 5), (⟨"DungeonDesk$Maker", "digRow", "(IIILDungeonDesk$Level;)V"⟩, 5), (⟨"DungeonDesk$Maker", "digWay", "(IILDungeonDesk$Level;)V"⟩, 5), (⟨"DungeonDesk$Maker", "centreColumn", "(I)I"⟩, 5), (⟨"DungeonDesk$Maker", "centreRow", "(I)I"⟩, 5), (⟨"DungeonDesk$Maker", "digColumn", "(IIILDungeonDesk$Level;)V"⟩, 5), (⟨"DungeonDesk$Maker", "drawPlace", "(I)I"⟩, 5), (⟨"DungeonDesk$Game", "arrive", "(I)V"⟩, 11), (⟨"DungeonDesk$Game", "walk", "(I)I"⟩, 11), (⟨"DungeonDesk$Game", "pickUp", "()I"⟩, 11), (⟨"DungeonDesk$Game", "useThing", "(I)I"⟩, 11), (⟨"DungeonDesk$Game", "drawFreePlace", "()I"⟩, 11), (⟨"DungeonDesk$Game", "isFree", "(I)Z"⟩, 11), (⟨"DungeonDesk$Game", "descend", "()I"⟩, 11), (⟨"DungeonDesk$Game", "passTime", "()V"⟩, 11), (⟨"DungeonDesk$Game", "takeTurns", "(I)V"⟩, 11)]
theorem lw_r1 : ∀ q ∈ lw_privs_1, lw_okq q := List.forall_mem_cons.mpr ⟨lw_p0, List.forall_mem_cons.mpr ⟨lw_p1, List.forall_mem_cons.mpr ⟨lw_p2, List.forall_mem_cons.mpr ⟨lw_p3, List.forall_mem_cons.mpr ⟨lw_p4, List.forall_mem_cons.mpr ⟨lw_p5, List.forall_mem_cons.mpr ⟨lw_p6, List.forall_mem_cons.mpr ⟨lw_p7, List.forall_mem_cons.mpr ⟨lw_p8, List.forall_mem_cons.mpr ⟨lw_p9, List.forall_mem_cons.mpr ⟨lw_p10, List.forall_mem_cons.mpr ⟨lw_p11, List.forall_mem_cons.mpr ⟨lw_p12, List.forall_mem_cons.mpr ⟨lw_p13, List.forall_mem_cons.mpr ⟨lw_p14, List.forall_mem_cons.mpr ⟨lw_p15, fun _ h => absurd h List.not_mem_nil⟩⟩⟩⟩⟩⟩⟩⟩⟩⟩⟩⟩⟩⟩⟩⟩
theorem lw_p16 : lw_okq (⟨"DungeonDesk$Game", "act", "(I)V"⟩, 11) := ⟨⟨by decide +kernel, by decide +kernel⟩, List.mem_of_getElem? (i := 21) (by decide +kernel), List.mem_of_getElem? (i := 444) (by decide +kernel), List.mem_of_getElem? (i := 445) (by decide +kernel)⟩
theorem lw_p17 : lw_okq (⟨"DungeonDesk$Game", "goOrHit", "(II)V"⟩, 11) := ⟨⟨by decide +kernel, by decide +kernel⟩, List.mem_of_getElem? (i := 21) (by decide +kernel), List.mem_of_getElem? (i := 449) (by decide +kernel), List.mem_of_getElem? (i := 450) (by decide +kernel)⟩
theorem lw_p18 : lw_okq (⟨"DungeonDesk$Game", "bestStep", "(II)I"⟩, 11) := ⟨⟨by decide +kernel, by decide +kernel⟩, List.mem_of_getElem? (i := 21) (by decide +kernel), List.mem_of_getElem? (i := 455) (by decide +kernel), List.mem_of_getElem? (i := 456) (by decide +kernel)⟩
theorem lw_p19 : lw_okq (⟨"DungeonDesk", "whoIsAt", "(I)I"⟩, 3) := ⟨⟨by decide +kernel, by decide +kernel⟩, List.mem_of_getElem? (i := 13) (by decide +kernel), List.mem_of_getElem? (i := 472) (by decide +kernel), List.mem_of_getElem? (i := 473) (by decide +kernel)⟩
theorem lw_p20 : lw_okq (⟨"DungeonDesk", "mixHero", "(J)J"⟩, 3) := ⟨⟨by decide +kernel, by decide +kernel⟩, List.mem_of_getElem? (i := 13) (by decide +kernel), List.mem_of_getElem? (i := 502) (by decide +kernel), List.mem_of_getElem? (i := 503) (by decide +kernel)⟩
theorem lw_p21 : lw_okq (⟨"DungeonDesk", "mixMonsters", "(J)J"⟩, 3) := ⟨⟨by decide +kernel, by decide +kernel⟩, List.mem_of_getElem? (i := 13) (by decide +kernel), List.mem_of_getElem? (i := 506) (by decide +kernel), List.mem_of_getElem? (i := 507) (by decide +kernel)⟩
theorem lw_p22 : lw_okq (⟨"DungeonDesk", "mixThings", "(J)J"⟩, 3) := ⟨⟨by decide +kernel, by decide +kernel⟩, List.mem_of_getElem? (i := 13) (by decide +kernel), List.mem_of_getElem? (i := 510) (by decide +kernel), List.mem_of_getElem? (i := 511) (by decide +kernel)⟩
theorem lw_p23 : lw_okq (⟨"DungeonDeskModel", "begin", "()V"⟩, 33) := ⟨⟨by decide +kernel, by decide +kernel⟩, List.mem_of_getElem? (i := 532) (by decide +kernel), List.mem_of_getElem? (i := 538) (by decide +kernel), List.mem_of_getElem? (i := 539) (by decide +kernel)⟩
theorem lw_p24 : lw_okq (⟨"DungeonDeskModel", "build", "(I)V"⟩, 33) := ⟨⟨by decide +kernel, by decide +kernel⟩, List.mem_of_getElem? (i := 532) (by decide +kernel), List.mem_of_getElem? (i := 542) (by decide +kernel), List.mem_of_getElem? (i := 543) (by decide +kernel)⟩
theorem lw_p25 : lw_okq (⟨"DungeonDeskModel", "make", "(I)I"⟩, 33) := ⟨⟨by decide +kernel, by decide +kernel⟩, List.mem_of_getElem? (i := 532) (by decide +kernel), List.mem_of_getElem? (i := 547) (by decide +kernel), List.mem_of_getElem? (i := 548) (by decide +kernel)⟩
theorem lw_p26 : lw_okq (⟨"DungeonDeskModel", "dig", "(IIII)V"⟩, 33) := ⟨⟨by decide +kernel, by decide +kernel⟩, List.mem_of_getElem? (i := 532) (by decide +kernel), List.mem_of_getElem? (i := 556) (by decide +kernel), List.mem_of_getElem? (i := 557) (by decide +kernel)⟩
theorem lw_p27 : lw_okq (⟨"DungeonDeskModel", "way", "(II)V"⟩, 33) := ⟨⟨by decide +kernel, by decide +kernel⟩, List.mem_of_getElem? (i := 532) (by decide +kernel), List.mem_of_getElem? (i := 560) (by decide +kernel), List.mem_of_getElem? (i := 561) (by decide +kernel)⟩
theorem lw_p28 : lw_okq (⟨"DungeonDeskModel", "monsterAt", "(II)I"⟩, 33) := ⟨⟨by decide +kernel, by decide +kernel⟩, List.mem_of_getElem? (i := 532) (by decide +kernel), List.mem_of_getElem? (i := 564) (by decide +kernel), List.mem_of_getElem? (i := 565) (by decide +kernel)⟩
theorem lw_p29 : lw_okq (⟨"DungeonDeskModel", "know", "()V"⟩, 33) := ⟨⟨by decide +kernel, by decide +kernel⟩, List.mem_of_getElem? (i := 532) (by decide +kernel), List.mem_of_getElem? (i := 568) (by decide +kernel), List.mem_of_getElem? (i := 569) (by decide +kernel)⟩
theorem lw_p30 : lw_okq (⟨"DungeonDeskModel", "isSeen", "(II)Z"⟩, 33) := ⟨⟨by decide +kernel, by decide +kernel⟩, List.mem_of_getElem? (i := 532) (by decide +kernel), List.mem_of_getElem? (i := 572) (by decide +kernel), List.mem_of_getElem? (i := 573) (by decide +kernel)⟩
theorem lw_p31 : lw_okq (⟨"DungeonDeskModel", "isNear", "(II)Z"⟩, 33) := ⟨⟨by decide +kernel, by decide +kernel⟩, List.mem_of_getElem? (i := 532) (by decide +kernel), List.mem_of_getElem? (i := 576) (by decide +kernel), List.mem_of_getElem? (i := 577) (by decide +kernel)⟩
def lw_privs_2 : List (MethodName × Nat) := [(⟨"DungeonDesk$Game", "act", "(I)V"⟩, 11), (⟨"DungeonDesk$Game", "goOrHit", "(II)V"⟩, 11), (⟨"DungeonDesk$Game", "bestStep", "(II)I"⟩, 11), (⟨"DungeonDesk", "whoIsAt", "(I)I"⟩, 3), (⟨"DungeonDesk", "mixHero", "(J)J"⟩, 3), (⟨"DungeonDesk", "mixMonsters", "(J)J"⟩, 3), (⟨"DungeonDesk", "mixThings", "(J)J"⟩, 3), (⟨"DungeonDeskModel", "begin", "()V"⟩, 33), (⟨"DungeonDeskModel", "build", "(I)V"⟩, 33), (⟨"DungeonDeskModel", "make", "(I)I"⟩, 33), (⟨"DungeonDeskModel", "dig", "(IIII)V"⟩, 33), (⟨"DungeonDeskModel", "way", "(II)V"⟩, 33), (⟨"DungeonDeskModel", "monsterAt", "(II)I"⟩, 33), (⟨"DungeonDeskModel", "know", "()V"⟩, 33), (⟨"DungeonDeskModel", "isSeen", "(II)Z"⟩, 33), (⟨"DungeonDeskModel", "isNear", "(II)Z"⟩, 33)]
theorem lw_r2 : ∀ q ∈ lw_privs_2, lw_okq q := List.forall_mem_cons.mpr ⟨lw_p16, List.forall_mem_cons.mpr ⟨lw_p17, List.forall_mem_cons.mpr ⟨lw_p18, List.forall_mem_cons.mpr ⟨lw_p19, List.forall_mem_cons.mpr ⟨lw_p20, List.forall_mem_cons.mpr ⟨lw_p21, List.forall_mem_cons.mpr ⟨lw_p22, List.forall_mem_cons.mpr ⟨lw_p23, List.forall_mem_cons.mpr ⟨lw_p24, List.forall_mem_cons.mpr ⟨lw_p25, List.forall_mem_cons.mpr ⟨lw_p26, List.forall_mem_cons.mpr ⟨lw_p27, List.forall_mem_cons.mpr ⟨lw_p28, List.forall_mem_cons.mpr ⟨lw_p29, List.forall_mem_cons.mpr ⟨lw_p30, List.forall_mem_cons.mpr ⟨lw_p31, fun _ h => absurd h List.not_mem_nil⟩⟩⟩⟩⟩⟩⟩⟩⟩⟩⟩⟩⟩⟩⟩⟩
theorem lw_p32 : lw_okq (⟨"DungeonDeskModel", "isClear", "(IIII)Z"⟩, 33) := ⟨⟨by decide +kernel, by decide +kernel⟩, List.mem_of_getElem? (i := 532) (by decide +kernel), List.mem_of_getElem? (i := 583) (by decide +kernel), List.mem_of_getElem? (i := 584) (by decide +kernel)⟩
theorem lw_p33 : lw_okq (⟨"DungeonDeskModel", "isFloor", "(II)Z"⟩, 33) := ⟨⟨by decide +kernel, by decide +kernel⟩, List.mem_of_getElem? (i := 532) (by decide +kernel), List.mem_of_getElem? (i := 590) (by decide +kernel), List.mem_of_getElem? (i := 591) (by decide +kernel)⟩
theorem lw_p34 : lw_okq (⟨"DungeonDeskModel", "does", "(I)I"⟩, 33) := ⟨⟨by decide +kernel, by decide +kernel⟩, List.mem_of_getElem? (i := 532) (by decide +kernel), List.mem_of_getElem? (i := 705) (by decide +kernel), List.mem_of_getElem? (i := 706) (by decide +kernel)⟩
theorem lw_p35 : lw_okq (⟨"DungeonDeskModel", "goes", "(I)Z"⟩, 33) := ⟨⟨by decide +kernel, by decide +kernel⟩, List.mem_of_getElem? (i := 532) (by decide +kernel), List.mem_of_getElem? (i := 709) (by decide +kernel), List.mem_of_getElem? (i := 710) (by decide +kernel)⟩
theorem lw_p36 : lw_okq (⟨"DungeonDeskModel", "gets", "()Z"⟩, 33) := ⟨⟨by decide +kernel, by decide +kernel⟩, List.mem_of_getElem? (i := 532) (by decide +kernel), List.mem_of_getElem? (i := 719) (by decide +kernel), List.mem_of_getElem? (i := 720) (by decide +kernel)⟩
theorem lw_p37 : lw_okq (⟨"DungeonDeskModel", "uses", "(I)Z"⟩, 33) := ⟨⟨by decide +kernel, by decide +kernel⟩, List.mem_of_getElem? (i := 532) (by decide +kernel), List.mem_of_getElem? (i := 723) (by decide +kernel), List.mem_of_getElem? (i := 724) (by decide +kernel)⟩
theorem lw_p38 : lw_okq (⟨"DungeonDeskModel", "draw", "(I)I"⟩, 33) := ⟨⟨by decide +kernel, by decide +kernel⟩, List.mem_of_getElem? (i := 532) (by decide +kernel), List.mem_of_getElem? (i := 727) (by decide +kernel), List.mem_of_getElem? (i := 728) (by decide +kernel)⟩
theorem lw_p39 : lw_okq (⟨"DungeonDeskModel", "pass", "()V"⟩, 33) := ⟨⟨by decide +kernel, by decide +kernel⟩, List.mem_of_getElem? (i := 532) (by decide +kernel), List.mem_of_getElem? (i := 731) (by decide +kernel), List.mem_of_getElem? (i := 732) (by decide +kernel)⟩
theorem lw_p40 : lw_okq (⟨"DungeonDeskModel", "acts", "(I)V"⟩, 33) := ⟨⟨by decide +kernel, by decide +kernel⟩, List.mem_of_getElem? (i := 532) (by decide +kernel), List.mem_of_getElem? (i := 735) (by decide +kernel), List.mem_of_getElem? (i := 736) (by decide +kernel)⟩
theorem lw_p41 : lw_okq (⟨"DungeonDeskModel", "wound", "(I)V"⟩, 33) := ⟨⟨by decide +kernel, by decide +kernel⟩, List.mem_of_getElem? (i := 532) (by decide +kernel), List.mem_of_getElem? (i := 739) (by decide +kernel), List.mem_of_getElem? (i := 740) (by decide +kernel)⟩
theorem lw_p42 : lw_okq (⟨"DungeonDeskModel", "put", "(III)V"⟩, 33) := ⟨⟨by decide +kernel, by decide +kernel⟩, List.mem_of_getElem? (i := 532) (by decide +kernel), List.mem_of_getElem? (i := 743) (by decide +kernel), List.mem_of_getElem? (i := 744) (by decide +kernel)⟩
theorem lw_p43 : lw_okq (⟨"DungeonDeskModel", "measure", "()V"⟩, 33) := ⟨⟨by decide +kernel, by decide +kernel⟩, List.mem_of_getElem? (i := 532) (by decide +kernel), List.mem_of_getElem? (i := 747) (by decide +kernel), List.mem_of_getElem? (i := 748) (by decide +kernel)⟩
def lw_privs_3 : List (MethodName × Nat) := [(⟨"DungeonDeskModel", "isClear", "(IIII)Z"⟩, 33), (⟨"DungeonDeskModel", "isFloor", "(II)Z"⟩, 33), (⟨"DungeonDeskModel", "does", "(I)I"⟩, 33), (⟨"DungeonDeskModel", "goes", "(I)Z"⟩, 33), (⟨"DungeonDeskModel", "gets", "()Z"⟩, 33), (⟨"DungeonDeskModel", "uses", "(I)Z"⟩, 33), (⟨"DungeonDeskModel", "draw", "(I)I"⟩, 33), (⟨"DungeonDeskModel", "pass", "()V"⟩, 33), (⟨"DungeonDeskModel", "acts", "(I)V"⟩, 33), (⟨"DungeonDeskModel", "wound", "(I)V"⟩, 33), (⟨"DungeonDeskModel", "put", "(III)V"⟩, 33), (⟨"DungeonDeskModel", "measure", "()V"⟩, 33)]
theorem lw_r3 : ∀ q ∈ lw_privs_3, lw_okq q := List.forall_mem_cons.mpr ⟨lw_p32, List.forall_mem_cons.mpr ⟨lw_p33, List.forall_mem_cons.mpr ⟨lw_p34, List.forall_mem_cons.mpr ⟨lw_p35, List.forall_mem_cons.mpr ⟨lw_p36, List.forall_mem_cons.mpr ⟨lw_p37, List.forall_mem_cons.mpr ⟨lw_p38, List.forall_mem_cons.mpr ⟨lw_p39, List.forall_mem_cons.mpr ⟨lw_p40, List.forall_mem_cons.mpr ⟨lw_p41, List.forall_mem_cons.mpr ⟨lw_p42, List.forall_mem_cons.mpr ⟨lw_p43, fun _ h => absurd h List.not_mem_nil⟩⟩⟩⟩⟩⟩⟩⟩⟩⟩⟩⟩
def lw_privs : List (MethodName × Nat) := lw_privs_1 ++ (lw_privs_2 ++ (lw_privs_3))
def lw_tbl : List Cond := k2_sels lw_privs ++ tables_1
theorem lw_privs_ok : ∀ q ∈ lw_privs, lw_okq q := by
  show ∀ q ∈ lw_privs_1 ++ (lw_privs_2 ++ (lw_privs_3)), lw_okq q
  exact List.forall_mem_append.mpr ⟨lw_r1, List.forall_mem_append.mpr ⟨lw_r2, lw_r3⟩⟩
end
section
-- names (written by a program of mine out of the Statement)
def R_Desk : String := "DungeonDesk"
def F_Desk : u_T := fun k => match k with
  | 0 => ("DungeonDesk", "game", "LDungeonDesk$Game;", true)
  | 1 => ("DungeonDesk", "keys", "[I", true)
  | _ => ("DungeonDesk", "keyCount", "I", false)
def t_Desk : Nat → FieldType := fun k => match k with
  | 0 => .object "DungeonDesk$Game"
  | 1 => .array .int
  | _ => .int
theorem n_Desk : ∀ a, a < 3 → ∀ b, b < 3 → a ≠ b → (F_Desk a).2.1 ≠ (F_Desk b).2.1 := by decide +kernel
theorem t_Desk_ok : ∀ k, k < 3 → parseFieldDescriptor (F_Desk k).2.2.1 = some (t_Desk k) := by decide +kernel
def R_Game : String := "DungeonDesk$Game"
def F_Game : u_T := fun k => match k with
  | 0 => ("DungeonDesk$Game", "seed", "I", true)
  | 1 => ("DungeonDesk$Game", "play", "LDungeonDesk$Draws;", true)
  | 2 => ("DungeonDesk$Game", "maker", "LDungeonDesk$Maker;", true)
  | 3 => ("DungeonDesk$Game", "level", "LDungeonDesk$Level;", true)
  | 4 => ("DungeonDesk$Game", "monsters", "LDungeonDesk$Monsters;", true)
  | 5 => ("DungeonDesk$Game", "distances", "LDungeonDesk$Distances;", true)
  | 6 => ("DungeonDesk$Game", "hero", "LDungeonDesk$Hero;", true)
  | 7 => ("DungeonDesk$Game", "depth", "I", false)
  | 8 => ("DungeonDesk$Game", "ticks", "I", false)
  | 9 => ("DungeonDesk$Game", "slain", "I", false)
  | _ => ("DungeonDesk$Game", "won", "Z", false)
def t_Game : Nat → FieldType := fun k => match k with
  | 0 => .int
  | 1 => .object "DungeonDesk$Draws"
  | 2 => .object "DungeonDesk$Maker"
  | 3 => .object "DungeonDesk$Level"
  | 4 => .object "DungeonDesk$Monsters"
  | 5 => .object "DungeonDesk$Distances"
  | 6 => .object "DungeonDesk$Hero"
  | 7 => .int
  | 8 => .int
  | 9 => .int
  | _ => .boolean
theorem n_Game : ∀ a, a < 11 → ∀ b, b < 11 → a ≠ b → (F_Game a).2.1 ≠ (F_Game b).2.1 := by decide +kernel
theorem t_Game_ok : ∀ k, k < 11 → parseFieldDescriptor (F_Game k).2.2.1 = some (t_Game k) := by decide +kernel
def R_Draws : String := "DungeonDesk$Draws"
def F_Draws : u_T := fun k => match k with
  | _ => ("DungeonDesk$Draws", "state", "J", false)
def t_Draws : Nat → FieldType := fun k => match k with
  | _ => .long
theorem n_Draws : ∀ a, a < 1 → ∀ b, b < 1 → a ≠ b → (F_Draws a).2.1 ≠ (F_Draws b).2.1 := by decide +kernel
theorem t_Draws_ok : ∀ k, k < 1 → parseFieldDescriptor (F_Draws k).2.2.1 = some (t_Draws k) := by decide +kernel
def R_Maker : String := "DungeonDesk$Maker"
def F_Maker : u_T := fun k => match k with
  | 0 => ("DungeonDesk$Maker", "making", "LDungeonDesk$Draws;", true)
  | 1 => ("DungeonDesk$Maker", "left", "[I", true)
  | 2 => ("DungeonDesk$Maker", "top", "[I", true)
  | 3 => ("DungeonDesk$Maker", "width", "[I", true)
  | _ => ("DungeonDesk$Maker", "height", "[I", true)
def t_Maker : Nat → FieldType := fun k => match k with
  | 0 => .object "DungeonDesk$Draws"
  | 1 => .array .int
  | 2 => .array .int
  | 3 => .array .int
  | _ => .array .int
theorem n_Maker : ∀ a, a < 5 → ∀ b, b < 5 → a ≠ b → (F_Maker a).2.1 ≠ (F_Maker b).2.1 := by decide +kernel
theorem t_Maker_ok : ∀ k, k < 5 → parseFieldDescriptor (F_Maker k).2.2.1 = some (t_Maker k) := by decide +kernel
def R_Level : String := "DungeonDesk$Level"
def F_Level : u_T := fun k => match k with
  | 0 => ("DungeonDesk$Level", "ground", "[I", true)
  | 1 => ("DungeonDesk$Level", "things", "[I", true)
  | 2 => ("DungeonDesk$Level", "known", "[I", true)
  | _ => ("DungeonDesk$Level", "start", "I", false)
def t_Level : Nat → FieldType := fun k => match k with
  | 0 => .array .int
  | 1 => .array .int
  | 2 => .array .int
  | _ => .int
theorem n_Level : ∀ a, a < 4 → ∀ b, b < 4 → a ≠ b → (F_Level a).2.1 ≠ (F_Level b).2.1 := by decide +kernel
theorem t_Level_ok : ∀ k, k < 4 → parseFieldDescriptor (F_Level k).2.2.1 = some (t_Level k) := by decide +kernel
def R_Monsters : String := "DungeonDesk$Monsters"
def F_Monsters : u_T := fun k => match k with
  | 0 => ("DungeonDesk$Monsters", "kind", "[I", true)
  | 1 => ("DungeonDesk$Monsters", "place", "[I", true)
  | 2 => ("DungeonDesk$Monsters", "health", "[I", true)
  | 3 => ("DungeonDesk$Monsters", "energy", "[I", true)
  | 4 => ("DungeonDesk$Monsters", "awake", "[I", true)
  | _ => ("DungeonDesk$Monsters", "made", "I", false)
def t_Monsters : Nat → FieldType := fun k => match k with
  | 0 => .array .int
  | 1 => .array .int
  | 2 => .array .int
  | 3 => .array .int
  | 4 => .array .int
  | _ => .int
theorem n_Monsters : ∀ a, a < 6 → ∀ b, b < 6 → a ≠ b → (F_Monsters a).2.1 ≠ (F_Monsters b).2.1 := by decide +kernel
theorem t_Monsters_ok : ∀ k, k < 6 → parseFieldDescriptor (F_Monsters k).2.2.1 = some (t_Monsters k) := by decide +kernel
def R_Distances : String := "DungeonDesk$Distances"
def F_Distances : u_T := fun k => match k with
  | 0 => ("DungeonDesk$Distances", "steps", "[I", true)
  | 1 => ("DungeonDesk$Distances", "queue", "[I", true)
  | _ => ("DungeonDesk$Distances", "greatest", "I", false)
def t_Distances : Nat → FieldType := fun k => match k with
  | 0 => .array .int
  | 1 => .array .int
  | _ => .int
theorem n_Distances : ∀ a, a < 3 → ∀ b, b < 3 → a ≠ b → (F_Distances a).2.1 ≠ (F_Distances b).2.1 := by decide +kernel
theorem t_Distances_ok : ∀ k, k < 3 → parseFieldDescriptor (F_Distances k).2.2.1 = some (t_Distances k) := by decide +kernel
def R_Hero : String := "DungeonDesk$Hero"
def F_Hero : u_T := fun k => match k with
  | 0 => ("DungeonDesk$Hero", "place", "I", false)
  | 1 => ("DungeonDesk$Hero", "health", "I", false)
  | 2 => ("DungeonDesk$Hero", "hit", "I", false)
  | 3 => ("DungeonDesk$Hero", "energy", "I", false)
  | 4 => ("DungeonDesk$Hero", "haste", "I", false)
  | 5 => ("DungeonDesk$Hero", "bag", "[I", true)
  | _ => ("DungeonDesk$Hero", "bagSize", "I", false)
def t_Hero : Nat → FieldType := fun k => match k with
  | 0 => .int
  | 1 => .int
  | 2 => .int
  | 3 => .int
  | 4 => .int
  | 5 => .array .int
  | _ => .int
theorem n_Hero : ∀ a, a < 7 → ∀ b, b < 7 → a ≠ b → (F_Hero a).2.1 ≠ (F_Hero b).2.1 := by decide +kernel
theorem t_Hero_ok : ∀ k, k < 7 → parseFieldDescriptor (F_Hero k).2.2.1 = some (t_Hero k) := by decide +kernel
def R_Model : String := "DungeonDeskModel"
def F_Model : u_T := fun k => match k with
  | 0 => ("DungeonDeskModel", "seed", "I", true)
  | 1 => ("DungeonDeskModel", "making", "J", false)
  | 2 => ("DungeonDeskModel", "play", "J", false)
  | 3 => ("DungeonDeskModel", "floor", "[I", true)
  | 4 => ("DungeonDeskModel", "thing", "[I", true)
  | 5 => ("DungeonDeskModel", "distance", "[I", true)
  | 6 => ("DungeonDeskModel", "known", "[Z", true)
  | 7 => ("DungeonDeskModel", "kind", "[I", true)
  | 8 => ("DungeonDeskModel", "mx", "[I", true)
  | 9 => ("DungeonDeskModel", "my", "[I", true)
  | 10 => ("DungeonDeskModel", "health", "[I", true)
  | 11 => ("DungeonDeskModel", "energy", "[I", true)
  | 12 => ("DungeonDeskModel", "awake", "[Z", true)
  | 13 => ("DungeonDeskModel", "gone", "[Z", true)
  | 14 => ("DungeonDeskModel", "monsters", "I", false)
  | 15 => ("DungeonDeskModel", "left", "[I", true)
  | 16 => ("DungeonDeskModel", "top", "[I", true)
  | 17 => ("DungeonDeskModel", "wide", "[I", true)
  | 18 => ("DungeonDeskModel", "high", "[I", true)
  | 19 => ("DungeonDeskModel", "px", "I", false)
  | 20 => ("DungeonDeskModel", "py", "I", false)
  | 21 => ("DungeonDeskModel", "life", "I", false)
  | 22 => ("DungeonDeskModel", "hit", "I", false)
  | 23 => ("DungeonDeskModel", "power", "I", false)
  | 24 => ("DungeonDeskModel", "haste", "I", false)
  | 25 => ("DungeonDeskModel", "level", "I", false)
  | 26 => ("DungeonDeskModel", "state", "I", false)
  | 27 => ("DungeonDeskModel", "ticks", "I", false)
  | 28 => ("DungeonDeskModel", "went", "I", false)
  | 29 => ("DungeonDeskModel", "bag", "[I", true)
  | 30 => ("DungeonDeskModel", "things", "I", false)
  | 31 => ("DungeonDeskModel", "keys", "[I", true)
  | _ => ("DungeonDeskModel", "recorded", "I", false)
def t_Model : Nat → FieldType := fun k => match k with
  | 0 => .int
  | 1 => .long
  | 2 => .long
  | 3 => .array .int
  | 4 => .array .int
  | 5 => .array .int
  | 6 => .array .boolean
  | 7 => .array .int
  | 8 => .array .int
  | 9 => .array .int
  | 10 => .array .int
  | 11 => .array .int
  | 12 => .array .boolean
  | 13 => .array .boolean
  | 14 => .int
  | 15 => .array .int
  | 16 => .array .int
  | 17 => .array .int
  | 18 => .array .int
  | 19 => .int
  | 20 => .int
  | 21 => .int
  | 22 => .int
  | 23 => .int
  | 24 => .int
  | 25 => .int
  | 26 => .int
  | 27 => .int
  | 28 => .int
  | 29 => .array .int
  | 30 => .int
  | 31 => .array .int
  | _ => .int
theorem n_Model : ∀ a, a < 33 → ∀ b, b < 33 → a ≠ b → (F_Model a).2.1 ≠ (F_Model b).2.1 := by decide +kernel
theorem t_Model_ok : ∀ k, k < 33 → parseFieldDescriptor (F_Model k).2.2.1 = some (t_Model k) := by decide +kernel
def R_Arrays : String := "java/util/Arrays"
def R_Math : String := "java/lang/Math"
abbrev classes : List vw_C := [(R_Desk, F_Desk, 3), (R_Game, F_Game, 11), (R_Draws, F_Draws, 1), (R_Maker, F_Maker, 5), (R_Level, F_Level, 4), (R_Monsters, F_Monsters, 6), (R_Distances, F_Distances, 3), (R_Hero, F_Hero, 7), (R_Model, F_Model, 33)]
abbrev b_Desk_init : ByteArray := prog_1_method_1_code
def y_Desk_init : MethodName := ⟨R_Desk, "<init>", "(I)V"⟩
abbrev b_Desk_cell : ByteArray := prog_1_method_4_code
def y_Desk_cell : MethodName := ⟨R_Desk, "cell", "(III)I"⟩
abbrev b_Desk_count : ByteArray := prog_1_method_14_code
def y_Desk_count : MethodName := ⟨R_Desk, "count", "(I)I"⟩
abbrev b_Desk_countFilled : ByteArray := prog_1_method_15_code
def y_Desk_countFilled : MethodName := ⟨R_Desk, "countFilled", "([I)I"⟩
abbrev b_Desk_hash : ByteArray := prog_1_method_9_code
def y_Desk_hash : MethodName := ⟨R_Desk, "hash", "()J"⟩
abbrev b_Desk_key : ByteArray := prog_1_method_2_code
def y_Desk_key : MethodName := ⟨R_Desk, "key", "(I)I"⟩
abbrev b_Desk_mix : ByteArray := prog_1_method_10_code
def y_Desk_mix : MethodName := ⟨R_Desk, "mix", "(JJ)J"⟩
abbrev b_Desk_mixHero : ByteArray := prog_1_method_11_code
def y_Desk_mixHero : MethodName := ⟨R_Desk, "mixHero", "(J)J"⟩
abbrev b_Desk_mixMonsters : ByteArray := prog_1_method_12_code
def y_Desk_mixMonsters : MethodName := ⟨R_Desk, "mixMonsters", "(J)J"⟩
abbrev b_Desk_mixThings : ByteArray := prog_1_method_13_code
def y_Desk_mixThings : MethodName := ⟨R_Desk, "mixThings", "(J)J"⟩
abbrev b_Desk_monster : ByteArray := prog_1_method_6_code
def y_Desk_monster : MethodName := ⟨R_Desk, "monster", "(II)I"⟩
abbrev b_Desk_player : ByteArray := prog_1_method_7_code
def y_Desk_player : MethodName := ⟨R_Desk, "player", "(I)I"⟩
abbrev b_Desk_recorded : ByteArray := prog_1_method_8_code
def y_Desk_recorded : MethodName := ⟨R_Desk, "recorded", "(I)I"⟩
abbrev b_Desk_rewind : ByteArray := prog_1_method_3_code
def y_Desk_rewind : MethodName := ⟨R_Desk, "rewind", "(I)I"⟩
abbrev b_Desk_whoIsAt : ByteArray := prog_1_method_5_code
def y_Desk_whoIsAt : MethodName := ⟨R_Desk, "whoIsAt", "(I)I"⟩
abbrev b_Distances_init : ByteArray := prog_2_method_1_code
def y_Distances_init : MethodName := ⟨R_Distances, "<init>", "()V"⟩
abbrev b_Distances_from : ByteArray := prog_2_method_2_code
def y_Distances_from : MethodName := ⟨R_Distances, "from", "(I)I"⟩
abbrev b_Distances_measure : ByteArray := prog_2_method_3_code
def y_Distances_measure : MethodName := ⟨R_Distances, "measure", "(ILDungeonDesk$Level;)V"⟩
abbrev b_Draws_init : ByteArray := prog_3_method_1_code
def y_Draws_init : MethodName := ⟨R_Draws, "<init>", "()V"⟩
abbrev b_Draws_draw : ByteArray := prog_3_method_2_code
def y_Draws_draw : MethodName := ⟨R_Draws, "draw", "(I)I"⟩
abbrev b_Game_init : ByteArray := prog_4_method_1_code
def y_Game_init : MethodName := ⟨R_Game, "<init>", "(I)V"⟩
abbrev b_Game_act : ByteArray := prog_4_method_13_code
def y_Game_act : MethodName := ⟨R_Game, "act", "(I)V"⟩
abbrev b_Game_arrive : ByteArray := prog_4_method_5_code
def y_Game_arrive : MethodName := ⟨R_Game, "arrive", "(I)V"⟩
abbrev b_Game_begin : ByteArray := prog_4_method_2_code
def y_Game_begin : MethodName := ⟨R_Game, "begin", "()V"⟩
abbrev b_Game_bestStep : ByteArray := prog_4_method_14_code
def y_Game_bestStep : MethodName := ⟨R_Game, "bestStep", "(II)I"⟩
abbrev b_Game_descend : ByteArray := prog_4_method_10_code
def y_Game_descend : MethodName := ⟨R_Game, "descend", "()I"⟩
abbrev b_Game_drawFreePlace : ByteArray := prog_4_method_8_code
def y_Game_drawFreePlace : MethodName := ⟨R_Game, "drawFreePlace", "()I"⟩
abbrev b_Game_goOrHit : ByteArray := prog_4_method_15_code
def y_Game_goOrHit : MethodName := ⟨R_Game, "goOrHit", "(II)V"⟩
abbrev b_Game_isFree : ByteArray := prog_4_method_9_code
def y_Game_isFree : MethodName := ⟨R_Game, "isFree", "(I)Z"⟩
abbrev b_Game_passTime : ByteArray := prog_4_method_11_code
def y_Game_passTime : MethodName := ⟨R_Game, "passTime", "()V"⟩
abbrev b_Game_pickUp : ByteArray := prog_4_method_6_code
def y_Game_pickUp : MethodName := ⟨R_Game, "pickUp", "()I"⟩
abbrev b_Game_press : ByteArray := prog_4_method_3_code
def y_Game_press : MethodName := ⟨R_Game, "press", "(I)I"⟩
abbrev b_Game_takeTurns : ByteArray := prog_4_method_12_code
def y_Game_takeTurns : MethodName := ⟨R_Game, "takeTurns", "(I)V"⟩
abbrev b_Game_useThing : ByteArray := prog_4_method_7_code
def y_Game_useThing : MethodName := ⟨R_Game, "useThing", "(I)I"⟩
abbrev b_Game_walk : ByteArray := prog_4_method_4_code
def y_Game_walk : MethodName := ⟨R_Game, "walk", "(I)I"⟩
abbrev b_Hero_init : ByteArray := prog_5_method_1_code
def y_Hero_init : MethodName := ⟨R_Hero, "<init>", "()V"⟩
abbrev b_Hero_bagIsFull : ByteArray := prog_5_method_4_code
def y_Hero_bagIsFull : MethodName := ⟨R_Hero, "bagIsFull", "()Z"⟩
abbrev b_Hero_dropFromBag : ByteArray := prog_5_method_7_code
def y_Hero_dropFromBag : MethodName := ⟨R_Hero, "dropFromBag", "(I)V"⟩
abbrev b_Hero_isDead : ByteArray := prog_5_method_3_code
def y_Hero_isDead : MethodName := ⟨R_Hero, "isDead", "()Z"⟩
abbrev b_Hero_putInBag : ByteArray := prog_5_method_6_code
def y_Hero_putInBag : MethodName := ⟨R_Hero, "putInBag", "(I)V"⟩
abbrev b_Hero_reset : ByteArray := prog_5_method_2_code
def y_Hero_reset : MethodName := ⟨R_Hero, "reset", "()V"⟩
abbrev b_Hero_thingInBag : ByteArray := prog_5_method_5_code
def y_Hero_thingInBag : MethodName := ⟨R_Hero, "thingInBag", "(I)I"⟩
abbrev b_Level_init : ByteArray := prog_6_method_1_code
def y_Level_init : MethodName := ⟨R_Level, "<init>", "()V"⟩
abbrev b_Level_clear : ByteArray := prog_6_method_2_code
def y_Level_clear : MethodName := ⟨R_Level, "clear", "()V"⟩
abbrev b_Level_countFloorInSight : ByteArray := prog_6_method_13_code
def y_Level_countFloorInSight : MethodName := ⟨R_Level, "countFloorInSight", "(I)I"⟩
abbrev b_Level_hasStairs : ByteArray := prog_6_method_6_code
def y_Level_hasStairs : MethodName := ⟨R_Level, "hasStairs", "(I)Z"⟩
abbrev b_Level_inSight : ByteArray := prog_6_method_11_code
def y_Level_inSight : MethodName := ⟨R_Level, "inSight", "(II)Z"⟩
abbrev b_Level_isCell : ByteArray := prog_6_method_4_code
def y_Level_isCell : MethodName := ⟨R_Level, "isCell", "(I)Z"⟩
abbrev b_Level_isFloor : ByteArray := prog_6_method_5_code
def y_Level_isFloor : MethodName := ⟨R_Level, "isFloor", "(I)Z"⟩
abbrev b_Level_layThing : ByteArray := prog_6_method_8_code
def y_Level_layThing : MethodName := ⟨R_Level, "layThing", "(II)V"⟩
abbrev b_Level_learnFrom : ByteArray := prog_6_method_12_code
def y_Level_learnFrom : MethodName := ⟨R_Level, "learnFrom", "(I)V"⟩
abbrev b_Level_neighbour : ByteArray := prog_6_method_3_code
def y_Level_neighbour : MethodName := ⟨R_Level, "neighbour", "(II)I"⟩
abbrev b_Level_setGround : ByteArray := prog_6_method_7_code
def y_Level_setGround : MethodName := ⟨R_Level, "setGround", "(II)V"⟩
abbrev b_Level_takeThing : ByteArray := prog_6_method_10_code
def y_Level_takeThing : MethodName := ⟨R_Level, "takeThing", "(I)V"⟩
abbrev b_Level_thingAt : ByteArray := prog_6_method_9_code
def y_Level_thingAt : MethodName := ⟨R_Level, "thingAt", "(I)I"⟩
abbrev b_Maker_init : ByteArray := prog_7_method_1_code
def y_Maker_init : MethodName := ⟨R_Maker, "<init>", "()V"⟩
abbrev b_Maker_centreColumn : ByteArray := prog_7_method_7_code
def y_Maker_centreColumn : MethodName := ⟨R_Maker, "centreColumn", "(I)I"⟩
abbrev b_Maker_centreRow : ByteArray := prog_7_method_8_code
def y_Maker_centreRow : MethodName := ⟨R_Maker, "centreRow", "(I)I"⟩
abbrev b_Maker_digColumn : ByteArray := prog_7_method_6_code
def y_Maker_digColumn : MethodName := ⟨R_Maker, "digColumn", "(IIILDungeonDesk$Level;)V"⟩
abbrev b_Maker_digRoom : ByteArray := prog_7_method_3_code
def y_Maker_digRoom : MethodName := ⟨R_Maker, "digRoom", "(ILDungeonDesk$Level;)V"⟩
abbrev b_Maker_digRow : ByteArray := prog_7_method_5_code
def y_Maker_digRow : MethodName := ⟨R_Maker, "digRow", "(IIILDungeonDesk$Level;)V"⟩
abbrev b_Maker_digWay : ByteArray := prog_7_method_4_code
def y_Maker_digWay : MethodName := ⟨R_Maker, "digWay", "(IILDungeonDesk$Level;)V"⟩
abbrev b_Maker_drawPlace : ByteArray := prog_7_method_9_code
def y_Maker_drawPlace : MethodName := ⟨R_Maker, "drawPlace", "(I)I"⟩
abbrev b_Maker_make : ByteArray := prog_7_method_2_code
def y_Maker_make : MethodName := ⟨R_Maker, "make", "(IILDungeonDesk$Level;LDungeonDesk$Monsters;)V"⟩
abbrev b_Monsters_init : ByteArray := prog_8_method_1_code
def y_Monsters_init : MethodName := ⟨R_Monsters, "<init>", "()V"⟩
abbrev b_Monsters_add : ByteArray := prog_8_method_3_code
def y_Monsters_add : MethodName := ⟨R_Monsters, "add", "(II)V"⟩
abbrev b_Monsters_at : ByteArray := prog_8_method_5_code
def y_Monsters_at : MethodName := ⟨R_Monsters, "at", "(I)I"⟩
abbrev b_Monsters_clear : ByteArray := prog_8_method_2_code
def y_Monsters_clear : MethodName := ⟨R_Monsters, "clear", "()V"⟩
abbrev b_Monsters_countThere : ByteArray := prog_8_method_6_code
def y_Monsters_countThere : MethodName := ⟨R_Monsters, "countThere", "(Z)I"⟩
abbrev b_Monsters_isThere : ByteArray := prog_8_method_4_code
def y_Monsters_isThere : MethodName := ⟨R_Monsters, "isThere", "(I)Z"⟩
abbrev b_Monsters_strike : ByteArray := prog_8_method_7_code
def y_Monsters_strike : MethodName := ⟨R_Monsters, "strike", "(II)Z"⟩
abbrev b_Model_init : ByteArray := prog_10_method_1_code
def y_Model_init : MethodName := ⟨R_Model, "<init>", "(I)V"⟩
abbrev b_Model_acts : ByteArray := prog_10_method_21_code
def y_Model_acts : MethodName := ⟨R_Model, "acts", "(I)V"⟩
abbrev b_Model_begin : ByteArray := prog_10_method_6_code
def y_Model_begin : MethodName := ⟨R_Model, "begin", "()V"⟩
abbrev b_Model_build : ByteArray := prog_10_method_9_code
def y_Model_build : MethodName := ⟨R_Model, "build", "(I)V"⟩
abbrev b_Model_cell : ByteArray := prog_10_method_32_code
def y_Model_cell : MethodName := ⟨R_Model, "cell", "(III)I"⟩
abbrev b_Model_count : ByteArray := prog_10_method_37_code
def y_Model_count : MethodName := ⟨R_Model, "count", "(I)I"⟩
abbrev b_Model_dig : ByteArray := prog_10_method_7_code
def y_Model_dig : MethodName := ⟨R_Model, "dig", "(IIII)V"⟩
abbrev b_Model_does : ByteArray := prog_10_method_27_code
def y_Model_does : MethodName := ⟨R_Model, "does", "(I)I"⟩
abbrev b_Model_down : ByteArray := prog_10_method_12_code
def y_Model_down : MethodName := ⟨R_Model, "down", "(II)I"⟩
abbrev b_Model_draw : ByteArray := prog_10_method_5_code
def y_Model_draw : MethodName := ⟨R_Model, "draw", "(I)I"⟩
abbrev b_Model_dx : ByteArray := prog_10_method_17_code
def y_Model_dx : MethodName := ⟨R_Model, "dx", "(I)I"⟩
abbrev b_Model_dy : ByteArray := prog_10_method_18_code
def y_Model_dy : MethodName := ⟨R_Model, "dy", "(I)I"⟩
abbrev b_Model_gets : ByteArray := prog_10_method_29_code
def y_Model_gets : MethodName := ⟨R_Model, "gets", "()Z"⟩
abbrev b_Model_goes : ByteArray := prog_10_method_28_code
def y_Model_goes : MethodName := ⟨R_Model, "goes", "(I)Z"⟩
abbrev b_Model_hash : ByteArray := prog_10_method_36_code
def y_Model_hash : MethodName := ⟨R_Model, "hash", "()J"⟩
abbrev b_Model_in : ByteArray := prog_10_method_2_code
def y_Model_in : MethodName := ⟨R_Model, "in", "(III)Z"⟩
abbrev b_Model_isClear : ByteArray := prog_10_method_13_code
def y_Model_isClear : MethodName := ⟨R_Model, "isClear", "(IIII)Z"⟩
abbrev b_Model_isFloor : ByteArray := prog_10_method_11_code
def y_Model_isFloor : MethodName := ⟨R_Model, "isFloor", "(II)Z"⟩
abbrev b_Model_isKey : ByteArray := prog_10_method_25_code
def y_Model_isKey : MethodName := ⟨R_Model, "isKey", "(I)Z"⟩
abbrev b_Model_isNear : ByteArray := prog_10_method_14_code
def y_Model_isNear : MethodName := ⟨R_Model, "isNear", "(II)Z"⟩
abbrev b_Model_isSeen : ByteArray := prog_10_method_15_code
def y_Model_isSeen : MethodName := ⟨R_Model, "isSeen", "(II)Z"⟩
abbrev b_Model_key : ByteArray := prog_10_method_26_code
def y_Model_key : MethodName := ⟨R_Model, "key", "(I)I"⟩
abbrev b_Model_know : ByteArray := prog_10_method_16_code
def y_Model_know : MethodName := ⟨R_Model, "know", "()V"⟩
abbrev b_Model_make : ByteArray := prog_10_method_4_code
def y_Model_make : MethodName := ⟨R_Model, "make", "(I)I"⟩
abbrev b_Model_measure : ByteArray := prog_10_method_19_code
def y_Model_measure : MethodName := ⟨R_Model, "measure", "()V"⟩
abbrev b_Model_monster : ByteArray := prog_10_method_33_code
def y_Model_monster : MethodName := ⟨R_Model, "monster", "(II)I"⟩
abbrev b_Model_monsterAt : ByteArray := prog_10_method_10_code
def y_Model_monsterAt : MethodName := ⟨R_Model, "monsterAt", "(II)I"⟩
abbrev b_Model_next : ByteArray := prog_10_method_3_code
def y_Model_next : MethodName := ⟨R_Model, "next", "(J)J"⟩
abbrev b_Model_pass : ByteArray := prog_10_method_23_code
def y_Model_pass : MethodName := ⟨R_Model, "pass", "()V"⟩
abbrev b_Model_player : ByteArray := prog_10_method_34_code
def y_Model_player : MethodName := ⟨R_Model, "player", "(I)I"⟩
abbrev b_Model_put : ByteArray := prog_10_method_22_code
def y_Model_put : MethodName := ⟨R_Model, "put", "(III)V"⟩
abbrev b_Model_recorded : ByteArray := prog_10_method_35_code
def y_Model_recorded : MethodName := ⟨R_Model, "recorded", "(I)I"⟩
abbrev b_Model_rewind : ByteArray := prog_10_method_31_code
def y_Model_rewind : MethodName := ⟨R_Model, "rewind", "(I)I"⟩
abbrev b_Model_turn : ByteArray := prog_10_method_24_code
def y_Model_turn : MethodName := ⟨R_Model, "turn", "(I)I"⟩
abbrev b_Model_uses : ByteArray := prog_10_method_30_code
def y_Model_uses : MethodName := ⟨R_Model, "uses", "(I)Z"⟩
abbrev b_Model_way : ByteArray := prog_10_method_8_code
def y_Model_way : MethodName := ⟨R_Model, "way", "(II)V"⟩
abbrev b_Model_wound : ByteArray := prog_10_method_20_code
def y_Model_wound : MethodName := ⟨R_Model, "wound", "(I)V"⟩
abbrev b_Math_floorDiv : ByteArray := prog_11_method_47_code
def y_Math_floorDiv : MethodName := ⟨R_Math, "floorDiv", "(II)I"⟩
abbrev b_Arrays_fill : ByteArray := prog_12_method_103_code
def y_Arrays_fill : MethodName := ⟨R_Arrays, "fill", "([II)V"⟩
abbrev St : Type := (Nat → Int32) × (Nat → Int64) × (Nat → Nat → Int32)
def sI (σ : St) (k : Nat) (v : Int32) : St := (upd σ.1 k v, σ.2)
def sL (σ : St) (k : Nat) (v : Int64) : St := (σ.1, vp_updL σ.2.1 k v, σ.2.2)
def sA (σ : St) (k i : Nat) (v : Int32) : St := (σ.1, σ.2.1, fun j => if j = k then upd (σ.2.2 k) i v else σ.2.2 j)
def tb_STEPS : Nat → Int32 := fun k => match k with
  | 0 => (-12)
  | 1 => 1
  | 2 => 12
  | _ => (-1)
def tb_HEALTH_OF : Nat → Int32 := fun k => match k with
  | 0 => 3
  | 1 => 6
  | _ => 2
def tb_SPEED_OF : Nat → Int32 := fun k => match k with
  | 0 => 8
  | 1 => 6
  | _ => 14
def tb_HIT_OF : Nat → Int32 := fun k => match k with
  | 0 => 1
  | 1 => 2
  | _ => 1
def stb : List (String × String × Nat × (Nat → Int32)) := [("DungeonDesk$Level", "STEPS", 4, tb_STEPS), ("DungeonDesk$Monsters", "HEALTH_OF", 3, tb_HEALTH_OF), ("DungeonDesk$Monsters", "SPEED_OF", 3, tb_SPEED_OF), ("DungeonDesk$Monsters", "HIT_OF", 3, tb_HIT_OF)]
end
section
/-! BASE: the words that every method gets; a world with its frame; contracts over whole worlds; rows for calls (own work). -/
def TB : List Cond := lw_tbl.filter goodWord
theorem tb_in {w : Cond} (h : w ∈ lw_tbl) (hg : goodWord w = true) : w ∈ TB := List.mem_filter.mpr ⟨h, hg⟩
theorem tb_good {w : Cond} (h : w ∈ TB) : (w.onTables && w.keeps) = true ∨ ∃ ty, w = .arrayClass ty := good_of_word (List.mem_filter.mp h).2
theorem tb_tbl {w : Cond} (h : w ∈ TB) : w ∈ lw_tbl := (List.mem_filter.mp h).1
theorem tb_tables {w : Cond} (i : Nat) (h : tables_1[i]? = some w) (hg : goodWord w = true) : w ∈ TB := tb_in (List.mem_append_right _ (List.mem_of_getElem? h)) hg
abbrev tyL (cA : Nat → ClassId) : List (ClassId × FieldType) := [(cA 0, .int), (cA 1, .boolean)]
/-- static tables that nobody writes -/
abbrev TabT : Type := String × String × Nat × (Nat → Int32)
def SZ (tb : List TabT) (tz : Nat → Nat) (A : Nat → Prop) (U : State) (H : Heap) : Prop := ∀ (k : Nat) (q : TabT), tb[k]? = some q → va_Z q.1 q.2.1 "[I" (.ref (tz k)) A U H ∧ va_T .int (tz k) q.2.2.1 (fun j => .int (q.2.2.2 j)) A U H
theorem SZ.moved {tb : List TabT} {tz : Nat → Nat} {A : Nat → Prop} {u U : State} {H : Heap} (hvm : u.vm.Alike U.vm) (h : SZ tb tz A u H) : SZ tb tz A U H := fun k q hq => ⟨va_Z.moved hvm (h k q hq).1, va_T.moved hvm (h k q hq).2⟩
theorem SZ.kept {tb : List TabT} {tz : Nat → Nat} {A : Nat → Prop} {U : State} {H H1 : Heap} (h : SZ tb tz A U H) (hq : ∀ a : Nat, a < H.size → ¬ A a → H1[a]? = H[a]?) : SZ tb tz A U H1 := fun k q hk => ⟨(h k q hk).1.kept hq, (h k q hk).2.kept hq⟩
theorem SZ.narrow {tb : List TabT} {tz : Nat → Nat} {A B : Nat → Prop} {U : State} {H : Heap} (h : SZ tb tz A U H) (hAB : ∀ q, B q → A q) : SZ tb tz B U H := fun k q hk => ⟨(h k q hk).1.narrow hAB, (h k q hk).2.narrow hAB⟩
/-- the fixed things of a walk -/
def CX (p : Program) (s : State) (m : MethodId) (args : Array Value) (c : Code) (cc : ByteArray) (own : String) (D : va_G) (cA : Nat → ClassId) : Prop := p.tables.exec = Jvm.exec ∧ c.code = cc ∧ s.vm.findClass own = some m.cls ∧ (∀ w ∈ TB, w.before args s = true) ∧ va_K D classes (tyL cA) s
/-- a world in the heap, its cells apart and its own, nothing else changed -/
def WD (D : va_G) (A : Nat → Prop) (s : State) (ws : va_W) (H : Heap) (locs : List Loc) : Prop := va_P D classes ws H ∧ va_D A ws ∧ va_S A s.heap H locs
def PW (D : va_G) (cA : Nat → ClassId) (tz : Nat → Nat) (ws : va_W) (sz : Nat) (U : State) : Prop := U.heap.size = sz ∧ va_P D classes ws U.heap ∧ va_K D classes (tyL cA) U ∧ va_D (fun _ => True) ws ∧ SZ stb tz (va_A ws sz) U U.heap
def AW (D : va_G) (cA : Nat → ClassId) (A : Nat → Prop) (ws : va_W) (t : State) : Prop := va_P D classes ws t.heap ∧ va_K D classes (tyL cA) t ∧ va_D A ws
theorem PW_blind {av : List Value} {D : va_G} {cA : Nat → ClassId} {tz : Nat → Nat} {ws : va_W} {sz : Nat} : FrameBlind (va_Pc av (PW D cA tz ws sz)) := fun a U g mk q => by
  obtain ⟨q0, q1, qP, qK, qD, qZ⟩ := q
  exact ⟨q0, q1, qP, va_K.moved (u := U) (U := U.calling g mk a) (Vm.Alike.refl U.vm) qK, qD, SZ.moved (u := U) (U := U.calling g mk a) (Vm.Alike.refl U.vm) qZ⟩
/-- contracts: from the world w σ the method answers r and leaves w σ' -/
def Ki {S : Type} (l : Launch) (D : va_G) (cA : Nat → ClassId) (tz : Nat → Nat) (w : S → va_W) (y : MethodName) (wc : List Cond) (rm : Room) (av : List Value) (σ : S) (r : Int32) (σ' : S) : Prop := ∀ sz : Nat, Met l y wc rm (va_Pc av (PW D cA tz (w σ) sz)) (va_Qi (fun (r2 : Int32) (_ : Unit) => r2 = r) (fun _ t => AW D cA (va_A (w σ) sz) (w σ') t) (va_A (w σ) sz)) 0 0 (va_A (w σ) sz)
def Kl {S : Type} (l : Launch) (D : va_G) (cA : Nat → ClassId) (tz : Nat → Nat) (w : S → va_W) (y : MethodName) (wc : List Cond) (rm : Room) (av : List Value) (σ : S) (r : Int64) (σ' : S) : Prop := ∀ sz : Nat, Met l y wc rm (va_Pc av (PW D cA tz (w σ) sz)) (va_Ql (fun (r2 : Int64) (_ : Unit) => r2 = r) (fun _ t => AW D cA (va_A (w σ) sz) (w σ') t) (va_A (w σ) sz)) 0 0 (va_A (w σ) sz)
def Kv {S : Type} (l : Launch) (D : va_G) (cA : Nat → ClassId) (tz : Nat → Nat) (w : S → va_W) (y : MethodName) (wc : List Cond) (rm : Room) (av : List Value) (σ : S) (σ' : S) : Prop := ∀ sz : Nat, Met l y wc rm (va_Pc av (PW D cA tz (w σ) sz)) (va_Qv (fun (_ : Unit) => True) (fun _ t => AW D cA (va_A (w σ) sz) (w σ') t) (va_A (w σ) sz)) 0 0 (va_A (w σ) sz)
/-! pure words of the denotations -/
def bnd {α β : Type} (a : α) (f : α → β) : β := f a
def gd {β : Type} (b : Bool) (x : Option β) : Option β := match b with
  | true => x
  | false => none
def bd {α S β : Type} (o : Option (α × S)) (f : α → S → Option β) : Option β := match o with
  | some (r, σ) => f r σ
  | none => none
def inb (i : Int32) (n : Nat) : Bool := decide (0 ≤ i.toInt ∧ i.toInt < n)
def nzi (y : Int32) : Bool := decide (¬ y = 0)
def nzl (y : Int64) : Bool := decide (¬ y = 0)
def isb (y : Int32) : Bool := decide (y = 0 ∨ y = 1)
def ush (x : Int64) (y : Int32) : Int64 := (x.toUInt64 >>> (y.toInt64.toUInt64 &&& Int64.toUInt64 63)).toInt64
theorem nm_b {α β : Type} {a x : α} {f : α → β} {r : β} (h : bnd a f = r) (e : x = a) : f x = r := by subst e; exact h
theorem gd_s {β : Type} {b : Bool} {x : Option β} {r : β} (h : gd b x = some r) : b = true ∧ x = some r := by
  cases b with
  | true => exact ⟨rfl, h⟩
  | false => exact absurd h (fun z => by cases z)
theorem bd_s {α S β : Type} {o : Option (α × S)} {f : α → S → Option β} {r : β} (h : bd o f = some r) : ∃ a σ, o = some (a, σ) ∧ f a σ = some r := by
  cases o with
  | none => exact absurd h (fun z => by cases z)
  | some q => exact ⟨q.1, q.2, rfl, h⟩
theorem inb_s {i : Int32} {n : Nat} (h : inb i n = true) : vp_in i n := vp_in_iff.mpr (of_decide_eq_true h)
theorem nzi_s {y : Int32} (h : nzi y = true) : ¬ y = 0 := of_decide_eq_true h
theorem nzl_s {y : Int64} (h : nzl y = true) : ¬ y = 0 := of_decide_eq_true h
theorem isb_s {y : Int32} (h : isb y = true) : narrow .boolean (.int y) = .int y := by
  rcases (of_decide_eq_true h : y = 0 ∨ y = 1) with rfl | rfl <;> rfl
theorem it {β : Type} {c : Prop} [Decidable c] {a b r : β} (hc : c) (h : (if c then a else b) = r) : a = r := by rw [if_pos hc] at h; exact h
theorem ie {β : Type} {c : Prop} [Decidable c] {a b r : β} (hc : ¬ c) (h : (if c then a else b) = r) : b = r := by rw [if_neg hc] at h; exact h
theorem us {β : Type} {a b r : β} (h : a = b) (h2 : a = r) : b = r := h.symm.trans h2
section XRows
variable {p : Program} {l : Launch} {e : Env} {R : Room} {s : State} {m : MethodId} {args : Array Value} {below : List Frame} {meth : Method} {c : Code} {H : Heap} {locs : List Loc} {cells slots : Nat} {Q : State → Prop}
variable {cc : ByteArray} {pc : Nat} {ls : Array Slot} {rest : List Value} {D : va_G} {cA : Nat → ClassId} {tz : Nat → Nat} {A : Nat → Prop} {ws : va_W} {own : String} {index : Nat}
theorem x_get (X : CX p s m args c cc own D cA) (h : WD D A s ws H locs) (q0 k : Nat) {a ci N : Nat} {fs : List Value} {C : String} {T : u_T} {v : Value} (he : ws[q0]? = some (a, .inr (ci, fs))) (hc : classes[ci]? = some (C, T, N)) (hin : ∀ x ∈ u_ws C T N, x ∈ TB) (hk : k < N) (hv : fs[k]? = some v) (hl : Cond.fieldLink own index (T k).1 (T k).2.1 (T k).2.2.1 ∈ TB) (hdg : decode cc pc = .ok (.getfield index, 3))
    (kk : W p l e R s m args below meth c H locs cells slots Q (F0 m (pc + 3) ls (v :: rest))) : W p l e R s m args below meth c H locs cells slots Q (F0 m pc ls (.ref a :: rest)) :=
  va_get (D := D) X.1 X.2.1 X.2.2.2.1 hin X.2.2.1 X.2.2.2.2 h.1 q0 he hc k hk (X.2.2.2.1 _ hl) (fun _ h9 => h9) hv hdg kk
theorem x_put (X : CX p s m args c cc own D cA) (h : WD D A s ws H locs) (q0 k : Nat) {a ci N : Nat} {fs : List Value} {C : String} {T : u_T} {v : Value} {ws' : va_W} (he : ws[q0]? = some (a, .inr (ci, fs))) (hc : classes[ci]? = some (C, T, N)) (hin : ∀ x ∈ u_ws C T N, x ∈ TB) (hk : k < N) (ty0 : Nat → FieldType) (hty : ∀ k, k < N → parseFieldDescriptor (T k).2.2.1 = some (ty0 k)) (hnm : ∀ a, a < N → ∀ b, b < N → a ≠ b → (T a).2.1 ≠ (T b).2.1) (hfin : (T k).2.2.2 = false) {ty : FieldType} (hd : parseFieldDescriptor (T k).2.2.1 = some ty) (hn : narrow ty v = v) (hfit : fits ty v = true) (hlen : k < fs.length) (hws : ws.set q0 (a, .inr (ci, fs.set k v)) = ws') (hl : Cond.fieldLink own index (T k).1 (T k).2.1 (T k).2.2.1 ∈ TB) (hdg : decode cc pc = .ok (.putfield index, 3))
    (kk : ∀ (H1 : Heap) (locs1 : List Loc), WD D A s ws' H1 locs1 → W p l e R s m args below meth c H1 locs1 cells slots Q (F0 m (pc + 3) ls rest)) : W p l e R s m args below meth c H locs cells slots Q (F0 m pc ls (v :: .ref a :: rest)) := by
  subst hws
  exact va_put (D := D) X.1 X.2.1 X.2.2.2.1 hin ty0 hty hnm X.2.2.1 X.2.2.2.2 h.1 h.2.1 h.2.2 q0 he hc k hk (X.2.2.2.1 _ hl) (fun _ h9 => h9) hfin hd hn hfit hlen hdg (fun H1 locs1 hP hD hS => kk H1 locs1 ⟨hP, hD, hS⟩)
theorem x_iald (X : CX p s m args c cc own D cA) (h : WD D A s ws H locs) (q0 : Nat) {a n : Nat} {f : Nat → Int32} (ha : ws[q0]? = some (a, .inl (cA 0, n, .inl f))) {i : Int32} (hin : vp_in i n) (hdg : decode cc pc = .ok (.iaload, 1))
    (kk : W p l e R s m args below meth c H locs cells slots Q (F0 m (pc + 1) ls (.int (f i.toNatClampNeg) :: rest))) : W p l e R s m args below meth c H locs cells slots Q (F0 m pc ls (.int i :: .ref a :: rest)) :=
  va_iald X.1 X.2.1 X.2.2.2.2 h.1 q0 0 ha rfl hin hdg kk
theorem x_iast (X : CX p s m args c cc own D cA) (h : WD D A s ws H locs) (q0 : Nat) {a n : Nat} {f : Nat → Int32} {ws' : va_W} (ha : ws[q0]? = some (a, .inl (cA 0, n, .inl f))) {i x : Int32} (hin : vp_in i n) (hws : ws.set q0 (a, .inl (cA 0, n, .inl (upd f i.toNatClampNeg x))) = ws') (hdg : decode cc pc = .ok (.iastore, 1))
    (kk : ∀ (H1 : Heap) (locs1 : List Loc), WD D A s ws' H1 locs1 → W p l e R s m args below meth c H1 locs1 cells slots Q (F0 m (pc + 1) ls rest)) : W p l e R s m args below meth c H locs cells slots Q (F0 m pc ls (.int x :: .int i :: .ref a :: rest)) := by
  subst hws
  exact va_iast X.1 X.2.1 X.2.2.2.2 h.1 h.2.1 h.2.2 q0 0 ha rfl hin hdg (fun H1 locs1 hP hD hS => kk H1 locs1 ⟨hP, hD, hS⟩)
theorem x_zald (X : CX p s m args c cc own D cA) (h : WD D A s ws H locs) (q0 : Nat) {a n : Nat} {f : Nat → Int32} (ha : ws[q0]? = some (a, .inl (cA 1, n, .inl f))) {i : Int32} (hin : vp_in i n) (hdg : decode cc pc = .ok (.baload, 1))
    (kk : W p l e R s m args below meth c H locs cells slots Q (F0 m (pc + 1) ls (.int (f i.toNatClampNeg) :: rest))) : W p l e R s m args below meth c H locs cells slots Q (F0 m pc ls (.int i :: .ref a :: rest)) :=
  va_zald X.1 X.2.1 X.2.2.2.2 h.1 q0 1 ha rfl hin hdg kk
theorem x_zast (X : CX p s m args c cc own D cA) (h : WD D A s ws H locs) (q0 : Nat) {a n : Nat} {f : Nat → Int32} {ws' : va_W} (ha : ws[q0]? = some (a, .inl (cA 1, n, .inl f))) {i x : Int32} (hin : vp_in i n) (hz : vp_nar .boolean x = x) (hws : ws.set q0 (a, .inl (cA 1, n, .inl (upd f i.toNatClampNeg x))) = ws') (hdg : decode cc pc = .ok (.bastore, 1))
    (kk : ∀ (H1 : Heap) (locs1 : List Loc), WD D A s ws' H1 locs1 → W p l e R s m args below meth c H1 locs1 cells slots Q (F0 m (pc + 1) ls rest)) : W p l e R s m args below meth c H locs cells slots Q (F0 m pc ls (.int x :: .int i :: .ref a :: rest)) := by
  subst hws
  refine va_zast X.1 X.2.1 X.2.2.2.2 h.1 h.2.1 h.2.2 q0 1 ha rfl hin hdg (fun H1 locs1 hP hD hS => ?_)
  rw [hz] at hP hD
  exact kk H1 locs1 ⟨hP, hD, hS⟩
theorem x_alen (X : CX p s m args c cc own D cA) (h : WD D A s ws H locs) (q0 : Nat) {a n : Nat} {f : Nat → Int32} (ha : ws[q0]? = some (a, .inl (cA 0, n, .inl f))) {v : Int32} (hv : Int32.ofNat n = v) (hdg : decode cc pc = .ok (.arraylength, 1))
    (kk : W p l e R s m args below meth c H locs cells slots Q (F0 m (pc + 1) ls (.int v :: rest))) : W p l e R s m args below meth c H locs cells slots Q (F0 m pc ls (.ref a :: rest)) :=
  va_alen X.1 X.2.1 X.2.2.2.2 h.1 q0 0 ha rfl hv hdg kk
theorem x_alenz (X : CX p s m args c cc own D cA) (h : WD D A s ws H locs) (q0 : Nat) {a n : Nat} {f : Nat → Int32} (ha : ws[q0]? = some (a, .inl (cA 1, n, .inl f))) {v : Int32} (hv : Int32.ofNat n = v) (hdg : decode cc pc = .ok (.arraylength, 1))
    (kk : W p l e R s m args below meth c H locs cells slots Q (F0 m (pc + 1) ls (.int v :: rest))) : W p l e R s m args below meth c H locs cells slots Q (F0 m pc ls (.ref a :: rest)) :=
  va_alen X.1 X.2.1 X.2.2.2.2 h.1 q0 1 ha rfl hv hdg kk
theorem x_gets (X : CX p s m args c cc own D cA) {tb : List TabT} (hZ : SZ tb tz A s s.heap) (h : WD D A s ws H locs) (k : Nat) {q : TabT} (hk : tb[k]? = some q) (hl : Cond.fieldLink own index q.1 q.2.1 "[I" ∈ TB) (hdg : decode cc pc = .ok (.getstatic index, 3))
    (kk : W p l e R s m args below meth c H locs cells slots Q (F0 m (pc + 3) ls (.ref (tz k) :: rest))) : W p l e R s m args below meth c H locs cells slots Q (F0 m pc ls rest) :=
  va_gets X.1 X.2.1 (hZ k q hk).1 h.2.2 X.2.2.1 (X.2.2.2.1 _ hl) (fun _ h9 => h9) hdg kk
theorem x_ti (X : CX p s m args c cc own D cA) {tb : List TabT} (hZ : SZ tb tz A s s.heap) (h : WD D A s ws H locs) (k : Nat) {q : TabT} (hk : tb[k]? = some q) {i : Int32} (hin : vp_in i q.2.2.1) (hdg : decode cc pc = .ok (.iaload, 1))
    (kk : W p l e R s m args below meth c H locs cells slots Q (F0 m (pc + 1) ls (.int (q.2.2.2 i.toNatClampNeg) :: rest))) : W p l e R s m args below meth c H locs cells slots Q (F0 m pc ls (.int i :: .ref (tz k) :: rest)) :=
  va_ti X.1 X.2.1 (hZ k q hk).2 h.2.2 hin rfl hdg kk
theorem x_tlen (X : CX p s m args c cc own D cA) {tb : List TabT} (hZ : SZ tb tz A s s.heap) (h : WD D A s ws H locs) (k : Nat) {q : TabT} (hk : tb[k]? = some q) {v : Int32} (hv : Int32.ofNat q.2.2.1 = v) (hdg : decode cc pc = .ok (.arraylength, 1))
    (kk : W p l e R s m args below meth c H locs cells slots Q (F0 m (pc + 1) ls (.int v :: rest))) : W p l e R s m args below meth c H locs cells slots Q (F0 m pc ls (.ref (tz k) :: rest)) :=
  va_tlen X.1 X.2.1 (hZ k q hk).2 h.2.2 hv hdg kk
theorem x_fr (hA : ∀ q, s.heap.size ≤ q → A q) (h : WD D A s ws H locs) : ∀ q, va_A ws H.size q → A q := by
  intro q hq
  rcases hq with ⟨k, e, hk⟩ | hq
  · exact h.2.1.2 k _ hk
  · exact hA q (Nat.le_trans h.2.2.1 hq)
theorem x_pre (X : CX p s m args c cc own D cA) (hZ : SZ stb tz A s s.heap) (hA : ∀ q, s.heap.size ≤ q → A q) (h : WD D A s ws H locs) (U : State) (hU : U.heap = H) (hW : s.WarmedH U.vm) : PW D cA tz ws H.size U := by
  refine ⟨by rw [hU], by rw [hU]; exact h.1, va_K.moved hW.alike X.2.2.2.2, h.2.1.weaken (fun _ _ _ _ => trivial), ?_⟩
  rw [hU]
  exact ((hZ.kept (fun a h1 h2 => h.2.2.2.1 a h1 h2)).narrow (x_fr hA h)).moved hW.alike
variable {y : MethodName} {bytes : ByteArray} {maxL nL n : Nat} {ret : Option FieldType} {rm : Room} {As st : List Value} {S : Type} {w : S → va_W} {σ σ' : S} {b ci q0 : Nat} {C : String} {fs : List Value} {q : vw_C}
/-- what the tables say of a callee -/
abbrev KV (y : MethodName) (bytes : ByteArray) (maxL : Nat) (ret : Option FieldType) : Prop := Cond.code y bytes maxL ret ∈ TB ∧ Cond.instanceMethod y ∈ TB ∧ Cond.selects y.cls y y ∈ TB ∧ Cond.initialized y.cls ∈ TB
abbrev KS (y : MethodName) (bytes : ByteArray) (maxL : Nat) (ret : Option FieldType) : Prop := Cond.code y bytes maxL ret ∈ TB ∧ Cond.static y ∈ TB ∧ Cond.initialized y.cls ∈ TB
abbrev KD (y : MethodName) (n : Nat) : Prop := y.cls ≠ "java/lang/invoke/MethodHandle" ∧ y.cls ≠ "java/lang/invoke/VarHandle" ∧ (parseMethodDescriptor y.desc).map (fun d => d.parameters.length) = some n
theorem g_V (K : KV y bytes maxL ret) (hm : Cond.methodLink own index y ∈ TB) : GoodIn TB (wsV own index y.cls y (.code y bytes maxL ret :: TB)) := by
  intro w hw
  have hin : w ∈ TB := by
    simp only [wsV, List.cons_append, List.nil_append, List.mem_cons] at hw
    rcases hw with rfl | rfl | rfl | rfl | rfl | hw
    · exact hm
    · exact K.2.1
    · exact K.2.2.1
    · exact K.2.2.2
    · exact K.1
    · exact hw
  exact ⟨hin, tb_good hin⟩
theorem g_S (K : KS y bytes maxL ret) (hm : Cond.methodLink own index y ∈ TB) : GoodIn TB (va_wsS own index y (.code y bytes maxL ret :: TB)) := by
  intro w hw
  have hin : w ∈ TB := by
    simp only [va_wsS, List.cons_append, List.nil_append, List.mem_cons] at hw
    rcases hw with rfl | rfl | rfl | rfl | hw
    · exact hm
    · exact K.2.1
    · exact K.2.2
    · exact K.1
    · exact hw
  exact ⟨hin, tb_good hin⟩
theorem x_Vi {r : Int32} (X : CX p s m args c cc own D cA) (hml : c.maxLocals = nL) (hsz : ls.size = nL) (hZ : SZ stb tz A s s.heap) (hA : ∀ q, s.heap.size ≤ q → A q) (h : WD D A s (w σ) H locs) (hM : Ki l D cA tz w y (.code y bytes maxL ret :: TB) rm (.ref b :: As) σ r σ') (K : KV y bytes maxL ret) (hm : Cond.methodLink own index y ∈ TB) (hd : KD y n) (hrm : rm.cells = 0 ∧ rm.slots = 0 ∧ rm.frames + 1 ≤ R.frames ∧ 8 + (maxL + 11) + rm.locals ≤ R.locals)
    (q0 : Nat) (he : (w σ)[q0]? = some (b, .inr (ci, fs))) (hc : classes[ci]? = some q) (hqC : q.1 = y.cls) (hn : As.length = n) (hst : st = As.reverse ++ .ref b :: rest) (hro : (rest.map fun v => v.category).sum ≤ 8) (hdg : decode cc pc = .ok (.invokevirtual index, 3))
    (kk : ∀ (H1 : Heap) (locs1 : List Loc), WD D A s (w σ') H1 locs1 → W p l e R s m args below meth c H1 locs1 0 0 Q (F0 m (pc + 3) ls (.int r :: rest))) : W p l e R s m args below meth c H locs 0 0 Q (F0 m pc ls st) := by
  subst hst
  have hFc := x_fr hA h
  refine va_calli (va_runV (As := As) (rest := rest) (C := y.cls) ⟨X.1, X.2.1, hml, X.2.2.1, X.2.2.2.1⟩ (hM H.size) (cwV n X.2.2.2.1 (g_V K hm) rfl hrm.1 hrm.2.1 ⟨rfl, hd⟩ hrm.2.2) ⟨PW_blind, by rw [← hqC]; exact va_recv X.2.2.2.2 h.1 hc he, fun U hU hW => ⟨rfl, x_pre X hZ hA h U hU hW⟩⟩ rfl hn hsz rfl (lv_room hro) hdg ⟨Nat.zero_le _, Nat.zero_le _⟩) h.2.2 (fun q _ h => hFc q h) hFc (fun r2 u t H1 locs1 ht hvm hw hB hz1 hk1 hS => ?_)
  subst hw
  obtain ⟨hP1, hK1, hD1⟩ := hB
  rw [ht] at hP1
  exact kk H1 locs1 ⟨hP1, hD1.weaken (fun _ q _ hq => hFc q.1 hq), hS⟩
theorem x_Vl {r : Int64} (X : CX p s m args c cc own D cA) (hml : c.maxLocals = nL) (hsz : ls.size = nL) (hZ : SZ stb tz A s s.heap) (hA : ∀ q, s.heap.size ≤ q → A q) (h : WD D A s (w σ) H locs) (hM : Kl l D cA tz w y (.code y bytes maxL ret :: TB) rm (.ref b :: As) σ r σ') (K : KV y bytes maxL ret) (hm : Cond.methodLink own index y ∈ TB) (hd : KD y n) (hrm : rm.cells = 0 ∧ rm.slots = 0 ∧ rm.frames + 1 ≤ R.frames ∧ 8 + (maxL + 11) + rm.locals ≤ R.locals)
    (q0 : Nat) (he : (w σ)[q0]? = some (b, .inr (ci, fs))) (hc : classes[ci]? = some q) (hqC : q.1 = y.cls) (hn : As.length = n) (hst : st = As.reverse ++ .ref b :: rest) (hro : (rest.map fun v => v.category).sum ≤ 8) (hdg : decode cc pc = .ok (.invokevirtual index, 3))
    (kk : ∀ (H1 : Heap) (locs1 : List Loc), WD D A s (w σ') H1 locs1 → W p l e R s m args below meth c H1 locs1 0 0 Q (F0 m (pc + 3) ls (.long r :: rest))) : W p l e R s m args below meth c H locs 0 0 Q (F0 m pc ls st) := by
  subst hst
  have hFc := x_fr hA h
  refine va_calll (va_runV (As := As) (rest := rest) (C := y.cls) ⟨X.1, X.2.1, hml, X.2.2.1, X.2.2.2.1⟩ (hM H.size) (cwV n X.2.2.2.1 (g_V K hm) rfl hrm.1 hrm.2.1 ⟨rfl, hd⟩ hrm.2.2) ⟨PW_blind, by rw [← hqC]; exact va_recv X.2.2.2.2 h.1 hc he, fun U hU hW => ⟨rfl, x_pre X hZ hA h U hU hW⟩⟩ rfl hn hsz rfl (lv_room hro) hdg ⟨Nat.zero_le _, Nat.zero_le _⟩) h.2.2 (fun q _ h => hFc q h) hFc (fun r2 u t H1 locs1 ht hvm hw hB hz1 hk1 hS => ?_)
  subst hw
  obtain ⟨hP1, hK1, hD1⟩ := hB
  rw [ht] at hP1
  exact kk H1 locs1 ⟨hP1, hD1.weaken (fun _ q _ hq => hFc q.1 hq), hS⟩
theorem x_Vv (X : CX p s m args c cc own D cA) (hml : c.maxLocals = nL) (hsz : ls.size = nL) (hZ : SZ stb tz A s s.heap) (hA : ∀ q, s.heap.size ≤ q → A q) (h : WD D A s (w σ) H locs) (hM : Kv l D cA tz w y (.code y bytes maxL ret :: TB) rm (.ref b :: As) σ σ') (K : KV y bytes maxL ret) (hm : Cond.methodLink own index y ∈ TB) (hd : KD y n) (hrm : rm.cells = 0 ∧ rm.slots = 0 ∧ rm.frames + 1 ≤ R.frames ∧ 8 + (maxL + 11) + rm.locals ≤ R.locals)
    (q0 : Nat) (he : (w σ)[q0]? = some (b, .inr (ci, fs))) (hc : classes[ci]? = some q) (hqC : q.1 = y.cls) (hn : As.length = n) (hst : st = As.reverse ++ .ref b :: rest) (hro : (rest.map fun v => v.category).sum ≤ 8) (hdg : decode cc pc = .ok (.invokevirtual index, 3))
    (kk : ∀ (H1 : Heap) (locs1 : List Loc), WD D A s (w σ') H1 locs1 → W p l e R s m args below meth c H1 locs1 0 0 Q (F0 m (pc + 3) ls rest)) : W p l e R s m args below meth c H locs 0 0 Q (F0 m pc ls st) := by
  subst hst
  have hFc := x_fr hA h
  refine va_callv (va_runV (As := As) (rest := rest) (C := y.cls) ⟨X.1, X.2.1, hml, X.2.2.1, X.2.2.2.1⟩ (hM H.size) (cwV n X.2.2.2.1 (g_V K hm) rfl hrm.1 hrm.2.1 ⟨rfl, hd⟩ hrm.2.2) ⟨PW_blind, by rw [← hqC]; exact va_recv X.2.2.2.2 h.1 hc he, fun U hU hW => ⟨rfl, x_pre X hZ hA h U hU hW⟩⟩ rfl hn hsz rfl (lv_room hro) hdg ⟨Nat.zero_le _, Nat.zero_le _⟩) h.2.2 (fun q _ h => hFc q h) hFc (fun u t H1 locs1 ht hvm hw hB hz1 hk1 hS => ?_)
  obtain ⟨hP1, hK1, hD1⟩ := hB
  rw [ht] at hP1
  exact kk H1 locs1 ⟨hP1, hD1.weaken (fun _ q _ hq => hFc q.1 hq), hS⟩
theorem x_Si {r : Int32} (X : CX p s m args c cc own D cA) (hml : c.maxLocals = nL) (hsz : ls.size = nL) (hZ : SZ stb tz A s s.heap) (hA : ∀ q, s.heap.size ≤ q → A q) (h : WD D A s (w σ) H locs) (hM : Ki l D cA tz w y (.code y bytes maxL ret :: TB) rm As σ r σ') (K : KS y bytes maxL ret) (hm : Cond.methodLink own index y ∈ TB) (hd : KD y n) (hrm : rm.cells = 0 ∧ rm.slots = 0 ∧ rm.frames + 1 ≤ R.frames ∧ 8 + (maxL + 11) + rm.locals ≤ R.locals)
    (hn : As.length = n) (hst : st = As.reverse ++ rest) (hro : (rest.map fun v => v.category).sum ≤ 8) (hdg : decode cc pc = .ok (.invokestatic index, 3))
    (kk : ∀ (H1 : Heap) (locs1 : List Loc), WD D A s (w σ') H1 locs1 → W p l e R s m args below meth c H1 locs1 0 0 Q (F0 m (pc + 3) ls (.int r :: rest))) : W p l e R s m args below meth c H locs 0 0 Q (F0 m pc ls st) := by
  subst hst
  have hFc := x_fr hA h
  refine va_calli (va_runS (As := As) (rest := rest) ⟨X.1, X.2.1, hml, X.2.2.1, X.2.2.2.1⟩ (hM H.size) (va_cwS n X.2.2.2.1 (g_S K hm) rfl hrm.1 hrm.2.1 hd hrm.2.2) ⟨PW_blind, fun U hU hW => ⟨rfl, x_pre X hZ hA h U hU hW⟩⟩ rfl hn hsz rfl (lv_room hro) hdg ⟨Nat.zero_le _, Nat.zero_le _⟩) h.2.2 (fun q _ h => hFc q h) hFc (fun r2 u t H1 locs1 ht hvm hw hB hz1 hk1 hS => ?_)
  subst hw
  obtain ⟨hP1, hK1, hD1⟩ := hB
  rw [ht] at hP1
  exact kk H1 locs1 ⟨hP1, hD1.weaken (fun _ q _ hq => hFc q.1 hq), hS⟩
theorem x_Sl {r : Int64} (X : CX p s m args c cc own D cA) (hml : c.maxLocals = nL) (hsz : ls.size = nL) (hZ : SZ stb tz A s s.heap) (hA : ∀ q, s.heap.size ≤ q → A q) (h : WD D A s (w σ) H locs) (hM : Kl l D cA tz w y (.code y bytes maxL ret :: TB) rm As σ r σ') (K : KS y bytes maxL ret) (hm : Cond.methodLink own index y ∈ TB) (hd : KD y n) (hrm : rm.cells = 0 ∧ rm.slots = 0 ∧ rm.frames + 1 ≤ R.frames ∧ 8 + (maxL + 11) + rm.locals ≤ R.locals)
    (hn : As.length = n) (hst : st = As.reverse ++ rest) (hro : (rest.map fun v => v.category).sum ≤ 8) (hdg : decode cc pc = .ok (.invokestatic index, 3))
    (kk : ∀ (H1 : Heap) (locs1 : List Loc), WD D A s (w σ') H1 locs1 → W p l e R s m args below meth c H1 locs1 0 0 Q (F0 m (pc + 3) ls (.long r :: rest))) : W p l e R s m args below meth c H locs 0 0 Q (F0 m pc ls st) := by
  subst hst
  have hFc := x_fr hA h
  refine va_calll (va_runS (As := As) (rest := rest) ⟨X.1, X.2.1, hml, X.2.2.1, X.2.2.2.1⟩ (hM H.size) (va_cwS n X.2.2.2.1 (g_S K hm) rfl hrm.1 hrm.2.1 hd hrm.2.2) ⟨PW_blind, fun U hU hW => ⟨rfl, x_pre X hZ hA h U hU hW⟩⟩ rfl hn hsz rfl (lv_room hro) hdg ⟨Nat.zero_le _, Nat.zero_le _⟩) h.2.2 (fun q _ h => hFc q h) hFc (fun r2 u t H1 locs1 ht hvm hw hB hz1 hk1 hS => ?_)
  subst hw
  obtain ⟨hP1, hK1, hD1⟩ := hB
  rw [ht] at hP1
  exact kk H1 locs1 ⟨hP1, hD1.weaken (fun _ q _ hq => hFc q.1 hq), hS⟩
theorem x_Sv (X : CX p s m args c cc own D cA) (hml : c.maxLocals = nL) (hsz : ls.size = nL) (hZ : SZ stb tz A s s.heap) (hA : ∀ q, s.heap.size ≤ q → A q) (h : WD D A s (w σ) H locs) (hM : Kv l D cA tz w y (.code y bytes maxL ret :: TB) rm As σ σ') (K : KS y bytes maxL ret) (hm : Cond.methodLink own index y ∈ TB) (hd : KD y n) (hrm : rm.cells = 0 ∧ rm.slots = 0 ∧ rm.frames + 1 ≤ R.frames ∧ 8 + (maxL + 11) + rm.locals ≤ R.locals)
    (hn : As.length = n) (hst : st = As.reverse ++ rest) (hro : (rest.map fun v => v.category).sum ≤ 8) (hdg : decode cc pc = .ok (.invokestatic index, 3))
    (kk : ∀ (H1 : Heap) (locs1 : List Loc), WD D A s (w σ') H1 locs1 → W p l e R s m args below meth c H1 locs1 0 0 Q (F0 m (pc + 3) ls rest)) : W p l e R s m args below meth c H locs 0 0 Q (F0 m pc ls st) := by
  subst hst
  have hFc := x_fr hA h
  refine va_callv (va_runS (As := As) (rest := rest) ⟨X.1, X.2.1, hml, X.2.2.1, X.2.2.2.1⟩ (hM H.size) (va_cwS n X.2.2.2.1 (g_S K hm) rfl hrm.1 hrm.2.1 hd hrm.2.2) ⟨PW_blind, fun U hU hW => ⟨rfl, x_pre X hZ hA h U hU hW⟩⟩ rfl hn hsz rfl (lv_room hro) hdg ⟨Nat.zero_le _, Nat.zero_le _⟩) h.2.2 (fun q _ h => hFc q h) hFc (fun u t H1 locs1 ht hvm hw hB hz1 hk1 hS => ?_)
  obtain ⟨hP1, hK1, hD1⟩ := hB
  rw [ht] at hP1
  exact kk H1 locs1 ⟨hP1, hD1.weaken (fun _ q _ hq => hFc q.1 hq), hS⟩
end XRows
theorem pr_inj {α β : Type} {a c : α} {b d : β} (h : some (a, b) = some (c, d)) : a = c ∧ b = d := by
  cases h; exact ⟨rfl, rfl⟩
section XOpen
variable {l : Launch} {D : va_G} {cA : Nat → ClassId} {tz : Nat → Nat} {y : MethodName} {cc : ByteArray} {maxL : Nat} {rm : Room} {av : List Value} {S : Type} {w : S → va_W} {σ σ' : S} {own : String}
theorem x_openi {r : Int32} (hown : y.cls = own) (hpl : plainName y.cls = true)
    (body : ∀ (p : Program) (e : Env) (s : State) (m : MethodId) (args : Array Value) (below : List Frame) (meth : Method) (c : Code) (A : Nat → Prop) (Q : State → Prop), CX p s m args c cc own D cA → c.maxLocals = maxL → SZ stb tz A s s.heap → (∀ q, s.heap.size ≤ q → A q) → ∀ (H : Heap) (locs : List Loc) (ls : Array Slot), WD D A s (w σ) H locs → lv_has ls maxL (lv_args 0 av) →
      (∀ (v : Int32) (σ2 : S) (H : Heap) (locs : List Loc) (pc : Nat) (ls : Array Slot), some (v, σ2) = some (r, σ') → WD D A s (w σ2) H locs → decode cc pc = .ok (.ireturn, 1) → W p l e rm s m args below meth c H locs 0 0 Q (F0 m pc ls [.int v])) → W p l e rm s m args below meth c H locs 0 0 Q (F0 m 0 ls [])) (hsl : (lg_sl av).length ≤ maxL := by exact Nat.le_of_ble_eq_true rfl) :
    Ki l D cA tz w y (.code y cc maxL (some .int) :: TB) rm av σ r σ' := by
  intro sz
  refine Met.ofW (cc := cc) (maxL := maxL) (ret := some .int) hpl rfl ?_
  intro p e s m args below meth c s₁ B hml hv
  obtain ⟨rfl, hsz, hP, hK, hD0, hZ⟩ := hv
  subst hsz
  subst hown
  have hts := atoms_spec (ws := Cond.code y cc maxL (some .int) :: TB) B.pre
  have hl := lv_entry av (n := maxL) hsl
  rw [lg_entry_eq]
  have X : CX p s m av.toArray c cc y.cls D cA := ⟨B.exec, B.bytes, findClass_of_methodNamed B.named, fun w hw => hts w (List.mem_cons_of_mem _ hw), hK⟩
  refine body p e s m av.toArray below meth c (va_A (w σ) s.heap.size) _ X hml hZ (fun q h => Or.inr h) s.heap [] _ ⟨hP, hD0.self, va_S.rf⟩ hl (fun v σ2 H locs pc ls hv h hdg => ?_)
  obtain ⟨rfl, rfl⟩ := pr_inj hv
  have hlocks := B.notSynchronized
  exact W.iret B.exec B.bytes B.returns (fun t ht hW => ⟨⟨_, (), rfl, rfl, by rw [ht]; exact h.1, va_K.moved hW.alike hK, h.2.1⟩, h.2.2.F ht⟩) h.2.2.2.2 hdg
theorem x_openz {r : Int32} (hown : y.cls = own) (hpl : plainName y.cls = true)
    (body : ∀ (p : Program) (e : Env) (s : State) (m : MethodId) (args : Array Value) (below : List Frame) (meth : Method) (c : Code) (A : Nat → Prop) (Q : State → Prop), CX p s m args c cc own D cA → c.maxLocals = maxL → SZ stb tz A s s.heap → (∀ q, s.heap.size ≤ q → A q) → ∀ (H : Heap) (locs : List Loc) (ls : Array Slot), WD D A s (w σ) H locs → lv_has ls maxL (lv_args 0 av) →
      (∀ (v : Int32) (σ2 : S) (H : Heap) (locs : List Loc) (pc : Nat) (ls : Array Slot), narrow .boolean (.int v) = .int v → some (v, σ2) = some (r, σ') → WD D A s (w σ2) H locs → decode cc pc = .ok (.ireturn, 1) → W p l e rm s m args below meth c H locs 0 0 Q (F0 m pc ls [.int v])) → W p l e rm s m args below meth c H locs 0 0 Q (F0 m 0 ls [])) (hsl : (lg_sl av).length ≤ maxL := by exact Nat.le_of_ble_eq_true rfl) :
    Ki l D cA tz w y (.code y cc maxL (some .boolean) :: TB) rm av σ r σ' := by
  intro sz
  refine Met.ofW (cc := cc) (maxL := maxL) (ret := some .boolean) hpl rfl ?_
  intro p e s m args below meth c s₁ B hml hv
  obtain ⟨rfl, hsz, hP, hK, hD0, hZ⟩ := hv
  subst hsz
  subst hown
  have hts := atoms_spec (ws := Cond.code y cc maxL (some .boolean) :: TB) B.pre
  have hl := lv_entry av (n := maxL) hsl
  rw [lg_entry_eq]
  have X : CX p s m av.toArray c cc y.cls D cA := ⟨B.exec, B.bytes, findClass_of_methodNamed B.named, fun w hw => hts w (List.mem_cons_of_mem _ hw), hK⟩
  refine body p e s m av.toArray below meth c (va_A (w σ) s.heap.size) _ X hml hZ (fun q h => Or.inr h) s.heap [] _ ⟨hP, hD0.self, va_S.rf⟩ hl (fun v σ2 H locs pc ls hz hv h hdg => ?_)
  obtain ⟨rfl, rfl⟩ := pr_inj hv
  have hlocks := B.notSynchronized
  exact W.zret B.exec B.bytes B.returns hz (fun t ht hW => ⟨⟨_, (), rfl, rfl, by rw [ht]; exact h.1, va_K.moved hW.alike hK, h.2.1⟩, h.2.2.F ht⟩) h.2.2.2.2 hdg
theorem x_openl {r : Int64} (hown : y.cls = own) (hpl : plainName y.cls = true)
    (body : ∀ (p : Program) (e : Env) (s : State) (m : MethodId) (args : Array Value) (below : List Frame) (meth : Method) (c : Code) (A : Nat → Prop) (Q : State → Prop), CX p s m args c cc own D cA → c.maxLocals = maxL → SZ stb tz A s s.heap → (∀ q, s.heap.size ≤ q → A q) → ∀ (H : Heap) (locs : List Loc) (ls : Array Slot), WD D A s (w σ) H locs → lv_has ls maxL (lv_args 0 av) →
      (∀ (v : Int64) (σ2 : S) (H : Heap) (locs : List Loc) (pc : Nat) (ls : Array Slot), some (v, σ2) = some (r, σ') → WD D A s (w σ2) H locs → decode cc pc = .ok (.lreturn, 1) → W p l e rm s m args below meth c H locs 0 0 Q (F0 m pc ls [.long v])) → W p l e rm s m args below meth c H locs 0 0 Q (F0 m 0 ls [])) (hsl : (lg_sl av).length ≤ maxL := by exact Nat.le_of_ble_eq_true rfl) :
    Kl l D cA tz w y (.code y cc maxL (some .long) :: TB) rm av σ r σ' := by
  intro sz
  refine Met.ofW (cc := cc) (maxL := maxL) (ret := some .long) hpl rfl ?_
  intro p e s m args below meth c s₁ B hml hv
  obtain ⟨rfl, hsz, hP, hK, hD0, hZ⟩ := hv
  subst hsz
  subst hown
  have hts := atoms_spec (ws := Cond.code y cc maxL (some .long) :: TB) B.pre
  have hl := lv_entry av (n := maxL) hsl
  rw [lg_entry_eq]
  have X : CX p s m av.toArray c cc y.cls D cA := ⟨B.exec, B.bytes, findClass_of_methodNamed B.named, fun w hw => hts w (List.mem_cons_of_mem _ hw), hK⟩
  refine body p e s m av.toArray below meth c (va_A (w σ) s.heap.size) _ X hml hZ (fun q h => Or.inr h) s.heap [] _ ⟨hP, hD0.self, va_S.rf⟩ hl (fun v σ2 H locs pc ls hv h hdg => ?_)
  obtain ⟨rfl, rfl⟩ := pr_inj hv
  have hlocks := B.notSynchronized
  exact W.lret B.exec B.bytes B.returns (fun t ht hW => ⟨⟨_, (), rfl, rfl, by rw [ht]; exact h.1, va_K.moved hW.alike hK, h.2.1⟩, h.2.2.F ht⟩) h.2.2.2.2 hdg
theorem x_openv {r : Unit} (hown : y.cls = own) (hpl : plainName y.cls = true)
    (body : ∀ (p : Program) (e : Env) (s : State) (m : MethodId) (args : Array Value) (below : List Frame) (meth : Method) (c : Code) (A : Nat → Prop) (Q : State → Prop), CX p s m args c cc own D cA → c.maxLocals = maxL → SZ stb tz A s s.heap → (∀ q, s.heap.size ≤ q → A q) → ∀ (H : Heap) (locs : List Loc) (ls : Array Slot), WD D A s (w σ) H locs → lv_has ls maxL (lv_args 0 av) →
      (∀ (σ2 : S) (H : Heap) (locs : List Loc) (pc : Nat) (ls : Array Slot), some ((), σ2) = some (r, σ') → WD D A s (w σ2) H locs → decode cc pc = .ok (.return_, 1) → W p l e rm s m args below meth c H locs 0 0 Q (F0 m pc ls [])) → W p l e rm s m args below meth c H locs 0 0 Q (F0 m 0 ls [])) (hsl : (lg_sl av).length ≤ maxL := by exact Nat.le_of_ble_eq_true rfl) :
    Kv l D cA tz w y (.code y cc maxL none :: TB) rm av σ σ' := by
  intro sz
  refine Met.ofW (cc := cc) (maxL := maxL) (ret := none) hpl rfl ?_
  intro p e s m args below meth c s₁ B hml hv
  obtain ⟨rfl, hsz, hP, hK, hD0, hZ⟩ := hv
  subst hsz
  subst hown
  have hts := atoms_spec (ws := Cond.code y cc maxL none :: TB) B.pre
  have hl := lv_entry av (n := maxL) hsl
  rw [lg_entry_eq]
  have X : CX p s m av.toArray c cc y.cls D cA := ⟨B.exec, B.bytes, findClass_of_methodNamed B.named, fun w hw => hts w (List.mem_cons_of_mem _ hw), hK⟩
  refine body p e s m av.toArray below meth c (va_A (w σ) s.heap.size) _ X hml hZ (fun q h => Or.inr h) s.heap [] _ ⟨hP, hD0.self, va_S.rf⟩ hl (fun σ2 H locs pc ls hv h hdg => ?_)
  obtain ⟨-, rfl⟩ := pr_inj hv
  have hlocks := B.notSynchronized
  exact W.vret B.exec B.bytes B.returns (fun t ht hW => ⟨⟨(), rfl, trivial, by rw [ht]; exact h.1, va_K.moved hW.alike hK, h.2.1⟩, h.2.2.F ht⟩) h.2.2.2.2 hdg
end XOpen
/-! rows for methods that make cells: constructors (own work) -/
/-- a constructor's contract: from the cells ws0 it leaves Wf q, q being the addresses of what it has made -/
def Kc (l : Launch) (D : va_G) (cA : Nat → ClassId) (tz : Nat → Nat) (y : MethodName) (wc : List Cond) (rm : Room) (av : List Value) (ws0 : va_W) (Wf : (Nat → Nat) → va_W) (mc ms : Nat) : Prop := ∀ sz : Nat, Met l y wc rm (va_Pc av (PW D cA tz ws0 sz)) (va_Qv (fun (_ : Unit) => True) (fun _ t => ∃ q : Nat → Nat, AW D cA (va_A ws0 sz) (Wf q) t) (va_A ws0 sz)) mc ms (va_A ws0 sz)
section XCtor
variable {p : Program} {l : Launch} {e : Env} {R : Room} {s : State} {m : MethodId} {args : Array Value} {below : List Frame} {meth : Method} {c : Code} {H : Heap} {locs : List Loc} {cells slots : Nat} {Q : State → Prop}
variable {cc : ByteArray} {pc : Nat} {ls : Array Slot} {rest : List Value} {D : va_G} {cA : Nat → ClassId} {tz : Nat → Nat} {A : Nat → Prop} {ws : va_W} {own : String} {index nL : Nat}
theorem x_putF (X : CX p s m args c cc own D cA) (h : WD D A s ws H locs) (q0 k : Nat) {a ci N : Nat} {fs : List Value} {C : String} {T : u_T} {v : Value} {ws' : va_W} (he : ws[q0]? = some (a, .inr (ci, fs))) (hc : classes[ci]? = some (C, T, N)) (hin : ∀ x ∈ u_ws C T N, x ∈ TB) (hk : k < N) (ty0 : Nat → FieldType) (hty : ∀ k, k < N → parseFieldDescriptor (T k).2.2.1 = some (ty0 k)) (hnm : ∀ a, a < N → ∀ b, b < N → a ≠ b → (T a).2.1 ≠ (T b).2.1) (hfin : (T k).2.2.2 = true) (hi : meth.name = "<init>") (hdecl : (T k).1 = own) {ty : FieldType} (hd : parseFieldDescriptor (T k).2.2.1 = some ty) (hn : narrow ty v = v) (hfit : fits ty v = true) (hlen : k < fs.length) (hws : ws.set q0 (a, .inr (ci, fs.set k v)) = ws') (hl : Cond.fieldLink own index (T k).1 (T k).2.1 (T k).2.2.1 ∈ TB) (hdg : decode cc pc = .ok (.putfield index, 3))
    (kk : ∀ (H1 : Heap) (locs1 : List Loc), WD D A s ws' H1 locs1 → W p l e R s m args below meth c H1 locs1 cells slots Q (F0 m (pc + 3) ls rest)) : W p l e R s m args below meth c H locs cells slots Q (F0 m pc ls (v :: .ref a :: rest)) := by
  subst hws
  exact va_putF (D := D) X.1 X.2.1 X.2.2.2.1 hin ty0 hty hnm X.2.2.1 X.2.2.2.2 h.1 h.2.1 h.2.2 q0 he hc k hk (X.2.2.2.1 _ hl) (fun _ h9 => h9) hfin hi hdecl hd hn hfit hlen hdg (fun H1 locs1 hP hD hS => kk H1 locs1 ⟨hP, hD, hS⟩)
theorem x_new (X : CX p s m args c cc own D cA) (hA : ∀ q, s.heap.size ≤ q → A q) (h : WD D A s ws H locs) (ci : Nat) {C : String} {T : u_T} {N : Nat} (hc : classes[ci]? = some (C, T, N)) (hin : ∀ x ∈ u_ws C T N, x ∈ TB) (ty : Nat → FieldType) (hty : ∀ k, k < N → parseFieldDescriptor (T k).2.2.1 = some (ty k)) (hcl : Cond.classLink own index C ∈ TB) (hinst : Cond.instantiable C N ∈ TB) (hini : Cond.initialized C ∈ TB) (fs : List Value) (hfs : ∀ j, j < N → defaultValue (ty j) = vp_V fs j) {cells2 slots2 : Nat} (hc2 : cells + 1 = cells2) (hs2 : slots + N = slots2) (hcells : cells2 ≤ R.cells) (hslots : slots2 ≤ R.slots) {ws2 : Nat → va_W} (hws : ∀ q, ws ++ [(q, .inr (ci, fs))] = ws2 q) (hdg : decode cc pc = .ok (.new index, 3))
    (kk : ∀ (q : Nat) (H1 : Heap), WD D A s (ws2 q) H1 locs → W p l e R s m args below meth c H1 locs cells2 slots2 Q (F0 m (pc + 3) ls (.ref q :: rest))) : W p l e R s m args below meth c H locs cells slots Q (F0 m pc ls rest) := by
  subst hc2; subst hs2
  exact va_new (D := D) X.1 X.2.1 X.2.2.2.1 hin ty hty X.2.2.1 (X.2.2.2.1 _ hcl) (X.2.2.2.1 _ hinst) (X.2.2.2.1 _ hini) X.2.2.2.2 h.1 h.2.1 h.2.2 hA hc hfs hcells hslots hdg (fun q H1 hP hD hS => kk q H1 ⟨hws q ▸ hP, hws q ▸ hD, hS⟩)
theorem x_newa (X : CX p s m args c cc own D cA) (hA : ∀ q, s.heap.size ≤ q → A q) (h : WD D A s ws H locs) (harr : Cond.arrayClass .int ∈ TB) {n : Int32} (N : Nat) (hn : ¬ n < 0) (hN : n.toNatClampNeg = N) (hby : N * 4 ≤ 536870912) {cells2 slots2 : Nat} (hc2 : cells + 1 = cells2) (hs2 : slots + N = slots2) (hcells : cells2 ≤ R.cells) (hslots : slots2 ≤ R.slots) {ws2 : Nat → va_W} (hws : ∀ q, ws ++ [(q, .inl (cA 0, N, .inl (fun _ => 0)))] = ws2 q) (hdg : decode cc pc = .ok (.newarray .int, 2))
    (kk : ∀ (q : Nat) (H1 : Heap), WD D A s (ws2 q) H1 locs → W p l e R s m args below meth c H1 locs cells2 slots2 Q (F0 m (pc + 2) ls (.ref q :: rest))) : W p l e R s m args below meth c H locs cells slots Q (F0 m pc ls (.int n :: rest)) := by
  subst hc2; subst hs2
  refine va_newa (D := D) (atype := .int) (ty := .int) (a0 := (N, .inl (fun _ => 0))) X.1 X.2.1 (X.2.2.2.1 _ harr) rfl X.2.2.2.2 h.1 h.2.1 h.2.2 hA (fun _ => rfl) hn hN hby hcells hslots hdg (fun q cB H1 hK hP hD hS => ?_)
  have e1 : s.vm.findClass ("[" ++ FieldType.int.toString) = some (cA 0) := (hK.2 0 _ rfl).2
  have e2 : s.vm.findClass ("[" ++ FieldType.int.toString) = some cB := (hK.2 2 _ rfl).2
  have e3 : cB = cA 0 := Option.some.inj (e2.symm.trans e1)
  subst e3
  exact kk q H1 ⟨hws q ▸ hP, hws q ▸ hD, hS⟩
theorem x_newz (X : CX p s m args c cc own D cA) (hA : ∀ q, s.heap.size ≤ q → A q) (h : WD D A s ws H locs) (harr : Cond.arrayClass .boolean ∈ TB) {n : Int32} (N : Nat) (hn : ¬ n < 0) (hN : n.toNatClampNeg = N) (hby : N * 1 ≤ 536870912) {cells2 slots2 : Nat} (hc2 : cells + 1 = cells2) (hs2 : slots + N = slots2) (hcells : cells2 ≤ R.cells) (hslots : slots2 ≤ R.slots) {ws2 : Nat → va_W} (hws : ∀ q, ws ++ [(q, .inl (cA 1, N, .inl (fun _ => 0)))] = ws2 q) (hdg : decode cc pc = .ok (.newarray .boolean, 2))
    (kk : ∀ (q : Nat) (H1 : Heap), WD D A s (ws2 q) H1 locs → W p l e R s m args below meth c H1 locs cells2 slots2 Q (F0 m (pc + 2) ls (.ref q :: rest))) : W p l e R s m args below meth c H locs cells slots Q (F0 m pc ls (.int n :: rest)) := by
  subst hc2; subst hs2
  refine va_newa (D := D) (atype := .boolean) (ty := .boolean) (a0 := (N, .inl (fun _ => 0))) X.1 X.2.1 (X.2.2.2.1 _ harr) rfl X.2.2.2.2 h.1 h.2.1 h.2.2 hA (fun _ => rfl) hn hN hby hcells hslots hdg (fun q cB H1 hK hP hD hS => ?_)
  have e1 : s.vm.findClass ("[" ++ FieldType.boolean.toString) = some (cA 1) := (hK.2 1 _ rfl).2
  have e2 : s.vm.findClass ("[" ++ FieldType.boolean.toString) = some cB := (hK.2 2 _ rfl).2
  have e3 : cB = cA 1 := Option.some.inj (e2.symm.trans e1)
  subst e3
  exact kk q H1 ⟨hws q ▸ hP, hws q ▸ hD, hS⟩
theorem x_obj (X : CX p s m args c cc own D cA) (hml : c.maxLocals = nL) (hsz : ls.size = nL) (hm : Cond.methodLink own index objectInit ∈ TB) (hi : Cond.instanceMethod objectInit ∈ TB) (hk : Cond.code objectInit ⟨#[0xb1]⟩ 1 none ∈ TB) {a : Nat} (hdg : decode cc pc = .ok (.invokespecial index, 3)) (hf : 1 ≤ R.frames) (hl : (rest.map fun v => v.category).sum + 12 ≤ R.locals)
    (kk : W p l e R s m args below meth c H locs cells slots Q (F0 m (pc + 3) ls rest)) : W p l e R s m args below meth c H locs cells slots Q (F0 m pc ls (.ref a :: rest)) :=
  W.objInit X.1 X.2.1 X.2.2.1 (X.2.2.2.1 _ hm) (X.2.2.2.1 _ hi) (X.2.2.2.1 _ hk) rfl (hsz.trans hml.symm) rfl hdg hf (by show 2 * 0 + _ + 12 ≤ _; omega) kk
theorem x_frS (hA : ∀ q, s.heap.size ≤ q → A q) (h : WD D A s ws H locs) {wc : va_W} (isC : List Nat) (hC : isC.map (fun i => ws[i]?) = wc.map some) : ∀ q, va_A wc H.size q → A q := va_free h.2.1 h.2.2 hA isC hC
theorem x_preS (X : CX p s m args c cc own D cA) (hZ : SZ stb tz A s s.heap) (hA : ∀ q, s.heap.size ≤ q → A q) (h : WD D A s ws H locs) {wc : va_W} (isC : List Nat) (hn : va_nd isC = true) (hC : isC.map (fun i => ws[i]?) = wc.map some) (hC2 : isC.filterMap (fun i => ws[i]?) = wc) (U : State) (hU : U.heap = H) (hW : s.WarmedH U.vm) : PW D cA tz wc H.size U := by
  refine ⟨by rw [hU], by rw [hU]; exact h.1.sub isC hC2, va_K.moved hW.alike X.2.2.2.2, (h.2.1.sub isC hn hC).weaken (fun _ _ _ _ => trivial), ?_⟩
  rw [hU]
  exact ((hZ.kept (fun a h1 h2 => h.2.2.2.1 a h1 h2)).narrow (x_frS hA h isC hC)).moved hW.alike
variable {y : MethodName} {bytes : ByteArray} {maxL n : Nat} {ret : Option FieldType} {rm : Room} {As st : List Value} {b mc ms : Nat}
abbrev KI (y : MethodName) (bytes : ByteArray) (maxL : Nat) (ret : Option FieldType) : Prop := Cond.code y bytes maxL ret ∈ TB ∧ Cond.instanceMethod y ∈ TB ∧ Cond.initialized y.cls ∈ TB
theorem g_I (K : Cond.code y bytes maxL ret ∈ TB) : GoodIn TB (.code y bytes maxL ret :: TB) := by
  intro w hw
  have hin : w ∈ TB := by
    simp only [List.mem_cons] at hw
    rcases hw with rfl | hw
    · exact K
    · exact hw
  exact ⟨hin, tb_good hin⟩
theorem x_Iv (X : CX p s m args c cc own D cA) (hml : c.maxLocals = nL) (hsz : ls.size = nL) (hZ : SZ stb tz A s s.heap) (hA : ∀ q, s.heap.size ≤ q → A q) (h : WD D A s ws H locs) {wc wr : va_W} {Wf : (Nat → Nat) → va_W} (hM : Kc l D cA tz y (.code y bytes maxL none :: TB) rm (.ref b :: As) wc Wf mc ms) (K : KI y bytes maxL none) (hm : Cond.methodLink own index y ∈ TB) (hd : KD y n) (hy : y.name = "<init>") (hrm : rm.cells = mc ∧ rm.slots = ms ∧ rm.frames + 1 ≤ R.frames ∧ 8 + (maxL + 11) + rm.locals ≤ R.locals)
    (isC isR : List Nat) (hC : isC.map (fun i => ws[i]?) = wc.map some) (hC2 : isC.filterMap (fun i => ws[i]?) = wc) (hnC : va_nd isC = true) (hR : isR.map (fun i => ws[i]?) = wr.map some) (hnR : va_nd isR = true) (hdis : ∀ i ∈ isR, i ∉ isC) {cells2 slots2 : Nat} (hc2 : cells + mc = cells2) (hs2 : slots + ms = slots2) (hcells : cells2 ≤ R.cells) (hslots : slots2 ≤ R.slots) {ws2 : (Nat → Nat) → va_W} (hws : ∀ q, wr ++ Wf q = ws2 q) (hn : As.length = n) (hst : st = As.reverse ++ .ref b :: rest) (hro : (rest.map fun v => v.category).sum ≤ 8) (hdg : decode cc pc = .ok (.invokespecial index, 3))
    (kk : ∀ (q : Nat → Nat) (H1 : Heap) (locs1 : List Loc), WD D A s (ws2 q) H1 locs1 → W p l e R s m args below meth c H1 locs1 cells2 slots2 Q (F0 m (pc + 3) ls rest)) : W p l e R s m args below meth c H locs cells slots Q (F0 m pc ls st) := by
  subst hst; subst hc2; subst hs2
  have hFc := x_frS hA h isC hC
  refine va_callv (va_runI (As := As) (rest := rest) ⟨X.1, X.2.1, hml, X.2.2.1, X.2.2.2.1⟩ (hM H.size) (cwI n X.2.2.2.1 (g_I K.1) rfl hrm.1 hrm.2.1 (X.2.2.2.1 _ K.2.2) (X.2.2.2.1 _ hm) (X.2.2.2.1 _ K.2.1) hy hd hrm.2.2) ⟨PW_blind, fun U hU hW => ⟨rfl, x_preS X hZ hA h isC hnC hC hC2 U hU hW⟩⟩ rfl hn hsz rfl (lv_room hro) hdg ⟨hcells, hslots⟩) h.2.2 (fun q _ h => hFc q h) hFc (fun u t H1 locs1 ht hvm hw hB hz1 hk1 hS => ?_)
  obtain ⟨q, hP1, hK1, hD1⟩ := hB
  rw [ht] at hP1
  obtain ⟨hP, hD⟩ := va_join (wr := wr) (w1 := Wf q) h.1 h.2.1 isC isR hC hR hnR hdis hk1 hFc hP1 hD1
  exact kk q H1 locs1 ⟨hws q ▸ hP, hws q ▸ hD, hS⟩
theorem x_Mv (X : CX p s m args c cc own D cA) (hml : c.maxLocals = nL) (hsz : ls.size = nL) (hZ : SZ stb tz A s s.heap) (hA : ∀ q, s.heap.size ≤ q → A q) (h : WD D A s ws H locs) {wc wr : va_W} {Wf : (Nat → Nat) → va_W} (hM : Kc l D cA tz y (.code y bytes maxL none :: TB) rm (.ref b :: As) wc Wf mc ms) (K : KV y bytes maxL none) (hm : Cond.methodLink own index y ∈ TB) (hd : KD y n) (q0 : Nat) {ci : Nat} {fs : List Value} {q9 : vw_C} (he : ws[q0]? = some (b, .inr (ci, fs))) (hcl : classes[ci]? = some q9) (hqC : q9.1 = y.cls) (hrm : rm.cells = mc ∧ rm.slots = ms ∧ rm.frames + 1 ≤ R.frames ∧ 8 + (maxL + 11) + rm.locals ≤ R.locals)
    (isC isR : List Nat) (hC : isC.map (fun i => ws[i]?) = wc.map some) (hC2 : isC.filterMap (fun i => ws[i]?) = wc) (hnC : va_nd isC = true) (hR : isR.map (fun i => ws[i]?) = wr.map some) (hnR : va_nd isR = true) (hdis : ∀ i ∈ isR, i ∉ isC) {cells2 slots2 : Nat} (hc2 : cells + mc = cells2) (hs2 : slots + ms = slots2) (hcells : cells2 ≤ R.cells) (hslots : slots2 ≤ R.slots) {ws2 : (Nat → Nat) → va_W} (hws : ∀ q, wr ++ Wf q = ws2 q) (hn : As.length = n) (hst : st = As.reverse ++ .ref b :: rest) (hro : (rest.map fun v => v.category).sum ≤ 8) (hdg : decode cc pc = .ok (.invokevirtual index, 3))
    (kk : ∀ (q : Nat → Nat) (H1 : Heap) (locs1 : List Loc), WD D A s (ws2 q) H1 locs1 → W p l e R s m args below meth c H1 locs1 cells2 slots2 Q (F0 m (pc + 3) ls rest)) : W p l e R s m args below meth c H locs cells slots Q (F0 m pc ls st) := by
  subst hst; subst hc2; subst hs2
  have hFc := x_frS hA h isC hC
  refine va_callv (va_runV (As := As) (rest := rest) (C := y.cls) ⟨X.1, X.2.1, hml, X.2.2.1, X.2.2.2.1⟩ (hM H.size) (cwV n X.2.2.2.1 (g_V K hm) rfl hrm.1 hrm.2.1 ⟨rfl, hd⟩ hrm.2.2) ⟨PW_blind, by rw [← hqC]; exact va_recv X.2.2.2.2 h.1 hcl he, fun U hU hW => ⟨rfl, x_preS X hZ hA h isC hnC hC hC2 U hU hW⟩⟩ rfl hn hsz rfl (lv_room hro) hdg ⟨hcells, hslots⟩) h.2.2 (fun q _ h => hFc q h) hFc (fun u t H1 locs1 ht hvm hw hB hz1 hk1 hS => ?_)
  obtain ⟨q, hP1, hK1, hD1⟩ := hB
  rw [ht] at hP1
  obtain ⟨hP, hD⟩ := va_join (wr := wr) (w1 := Wf q) h.1 h.2.1 isC isR hC hR hnR hdis hk1 hFc hP1 hD1
  exact kk q H1 locs1 ⟨hws q ▸ hP, hws q ▸ hD, hS⟩
end XCtor
section XOpenC
variable {l : Launch} {D : va_G} {cA : Nat → ClassId} {tz : Nat → Nat} {y : MethodName} {cc : ByteArray} {maxL : Nat} {rm : Room} {av : List Value} {ws0 : va_W} {Wf : (Nat → Nat) → va_W} {mc ms : Nat} {own : String}
theorem x_openc (hown : y.cls = own) (hpl : plainName y.cls = true) (hnm : y.name = "<init>")
    (body : ∀ (p : Program) (e : Env) (s : State) (m : MethodId) (args : Array Value) (below : List Frame) (meth : Method) (c : Code) (A : Nat → Prop) (Q : State → Prop), CX p s m args c cc own D cA → c.maxLocals = maxL → meth.name = "<init>" → SZ stb tz A s s.heap → (∀ q, s.heap.size ≤ q → A q) → ∀ (H : Heap) (locs : List Loc) (ls : Array Slot), WD D A s ws0 H locs → lv_has ls maxL (lv_args 0 av) →
      (∀ (q : Nat → Nat) (H : Heap) (locs : List Loc) (pc : Nat) (ls : Array Slot), WD D A s (Wf q) H locs → decode cc pc = .ok (.return_, 1) → W p l e rm s m args below meth c H locs mc ms Q (F0 m pc ls [])) → W p l e rm s m args below meth c H locs 0 0 Q (F0 m 0 ls [])) (hsl : (lg_sl av).length ≤ maxL := by exact Nat.le_of_ble_eq_true rfl) :
    Kc l D cA tz y (.code y cc maxL none :: TB) rm av ws0 Wf mc ms := by
  intro sz
  refine Met.ofW (cc := cc) (maxL := maxL) (ret := none) hpl rfl ?_
  intro p e s m args below meth c s₁ B hml hv
  obtain ⟨rfl, hsz, hP, hK, hD0, hZ⟩ := hv
  subst hsz
  subst hown
  have hts := atoms_spec (ws := Cond.code y cc maxL none :: TB) B.pre
  have hl := lv_entry av (n := maxL) hsl
  rw [lg_entry_eq]
  have hin : meth.name = "<init>" := by rw [(name_of_methodNamed B.named B.method).1]; exact hnm
  have X : CX p s m av.toArray c cc y.cls D cA := ⟨B.exec, B.bytes, findClass_of_methodNamed B.named, fun w hw => hts w (List.mem_cons_of_mem _ hw), hK⟩
  refine body p e s m av.toArray below meth c (va_A ws0 s.heap.size) _ X hml hin hZ (fun q h => Or.inr h) s.heap [] _ ⟨hP, hD0.self, va_S.rf⟩ hl (fun q H locs pc ls h hdg => ?_)
  have hlocks := B.notSynchronized
  exact W.vret B.exec B.bytes B.returns (fun t ht hW => ⟨⟨(), rfl, trivial, q, by rw [ht]; exact h.1, va_K.moved hW.alike hK, h.2.1⟩, h.2.2.F ht⟩) h.2.2.2.2 hdg
theorem x_opend (hown : y.cls = own) (hpl : plainName y.cls = true)
    (body : ∀ (p : Program) (e : Env) (s : State) (m : MethodId) (args : Array Value) (below : List Frame) (meth : Method) (c : Code) (A : Nat → Prop) (Q : State → Prop), CX p s m args c cc own D cA → c.maxLocals = maxL → SZ stb tz A s s.heap → (∀ q, s.heap.size ≤ q → A q) → ∀ (H : Heap) (locs : List Loc) (ls : Array Slot), WD D A s ws0 H locs → lv_has ls maxL (lv_args 0 av) →
      (∀ (q : Nat → Nat) (H : Heap) (locs : List Loc) (pc : Nat) (ls : Array Slot), WD D A s (Wf q) H locs → decode cc pc = .ok (.return_, 1) → W p l e rm s m args below meth c H locs mc ms Q (F0 m pc ls [])) → W p l e rm s m args below meth c H locs 0 0 Q (F0 m 0 ls [])) (hsl : (lg_sl av).length ≤ maxL := by exact Nat.le_of_ble_eq_true rfl) :
    Kc l D cA tz y (.code y cc maxL none :: TB) rm av ws0 Wf mc ms := by
  intro sz
  refine Met.ofW (cc := cc) (maxL := maxL) (ret := none) hpl rfl ?_
  intro p e s m args below meth c s₁ B hml hv
  obtain ⟨rfl, hsz, hP, hK, hD0, hZ⟩ := hv
  subst hsz
  subst hown
  have hts := atoms_spec (ws := Cond.code y cc maxL none :: TB) B.pre
  have hl := lv_entry av (n := maxL) hsl
  rw [lg_entry_eq]
  have X : CX p s m av.toArray c cc y.cls D cA := ⟨B.exec, B.bytes, findClass_of_methodNamed B.named, fun w hw => hts w (List.mem_cons_of_mem _ hw), hK⟩
  refine body p e s m av.toArray below meth c (va_A ws0 s.heap.size) _ X hml hZ (fun q h => Or.inr h) s.heap [] _ ⟨hP, hD0.self, va_S.rf⟩ hl (fun q H locs pc ls h hdg => ?_)
  have hlocks := B.notSynchronized
  exact W.vret B.exec B.bytes B.returns (fun t ht hW => ⟨⟨(), rfl, trivial, q, by rw [ht]; exact h.1, va_K.moved hW.alike hK, h.2.1⟩, h.2.2.F ht⟩) h.2.2.2.2 hdg
end XOpenC
end
section
theorem mem_tables_1_1 {w : Cond} (i : Nat) (h : tables_1_1[i]? = some w) (hg : goodWord w = true) : w ∈ TB := tb_in (List.mem_append_right _ (List.mem_append_left _ (List.mem_of_getElem? h))) hg
theorem mem_tables_1_2 {w : Cond} (i : Nat) (h : tables_1_2[i]? = some w) (hg : goodWord w = true) : w ∈ TB := tb_in (List.mem_append_right _ (List.mem_append_right _ (List.mem_append_left _ (List.mem_of_getElem? h)))) hg
theorem mem_tables_1_3 {w : Cond} (i : Nat) (h : tables_1_3[i]? = some w) (hg : goodWord w = true) : w ∈ TB := tb_in (List.mem_append_right _ (List.mem_append_right _ (List.mem_append_right _ (List.mem_append_left _ (List.mem_of_getElem? h))))) hg
theorem mem_tables_1_4 {w : Cond} (i : Nat) (h : tables_1_4[i]? = some w) (hg : goodWord w = true) : w ∈ TB := tb_in (List.mem_append_right _ (List.mem_append_right _ (List.mem_append_right _ (List.mem_append_right _ (List.mem_of_getElem? h))))) hg
set_option maxRecDepth 20000 in
theorem m_c_Desk_9 : Cond.classLink R_Desk 9 R_Game ∈ TB := mem_tables_1_1 20 rfl rfl
set_option maxRecDepth 20000 in
theorem m_c_Game_15 : Cond.classLink R_Game 15 R_Draws ∈ TB := mem_tables_1_1 26 rfl rfl
set_option maxRecDepth 20000 in
theorem m_c_Game_22 : Cond.classLink R_Game 22 R_Maker ∈ TB := mem_tables_1_1 39 rfl rfl
set_option maxRecDepth 20000 in
theorem m_c_Game_29 : Cond.classLink R_Game 29 R_Level ∈ TB := mem_tables_1_1 64 rfl rfl
set_option maxRecDepth 20000 in
theorem m_c_Game_36 : Cond.classLink R_Game 36 R_Monsters ∈ TB := mem_tables_1_1 88 rfl rfl
set_option maxRecDepth 20000 in
theorem m_c_Game_43 : Cond.classLink R_Game 43 R_Distances ∈ TB := mem_tables_1_1 125 rfl rfl
set_option maxRecDepth 20000 in
theorem m_c_Game_50 : Cond.classLink R_Game 50 R_Hero ∈ TB := mem_tables_1_1 142 rfl rfl
set_option maxRecDepth 20000 in
theorem m_c_Maker_9 : Cond.classLink R_Maker 9 R_Draws ∈ TB := mem_tables_1_1 45 rfl rfl
set_option maxRecDepth 20000 in
theorem m_f_Desk_100 : Cond.fieldLink R_Desk 100 "DungeonDesk$Monsters" "awake" "[I" ∈ TB := mem_tables_1_1 107 rfl rfl
set_option maxRecDepth 20000 in
theorem m_f_Desk_107 : Cond.fieldLink R_Desk 107 "DungeonDesk$Hero" "health" "I" ∈ TB := mem_tables_1_1 157 rfl rfl
set_option maxRecDepth 20000 in
theorem m_f_Desk_109 : Cond.fieldLink R_Desk 109 "DungeonDesk$Hero" "hit" "I" ∈ TB := mem_tables_1_1 160 rfl rfl
set_option maxRecDepth 20000 in
theorem m_f_Desk_112 : Cond.fieldLink R_Desk 112 "DungeonDesk$Hero" "energy" "I" ∈ TB := mem_tables_1_1 162 rfl rfl
set_option maxRecDepth 20000 in
theorem m_f_Desk_114 : Cond.fieldLink R_Desk 114 "DungeonDesk$Hero" "haste" "I" ∈ TB := mem_tables_1_1 166 rfl rfl
set_option maxRecDepth 20000 in
theorem m_f_Desk_117 : Cond.fieldLink R_Desk 117 "DungeonDesk$Game" "depth" "I" ∈ TB := mem_tables_1_1 198 rfl rfl
set_option maxRecDepth 20000 in
theorem m_f_Desk_120 : Cond.fieldLink R_Desk 120 "DungeonDesk$Hero" "bagSize" "I" ∈ TB := mem_tables_1_1 169 rfl rfl
set_option maxRecDepth 20000 in
theorem m_f_Desk_14 : Cond.fieldLink R_Desk 14 "DungeonDesk" "game" "LDungeonDesk$Game;" ∈ TB := mem_tables_1_2 104 rfl rfl
set_option maxRecDepth 20000 in
theorem m_f_Desk_142 : Cond.fieldLink R_Desk 142 "DungeonDesk$Game" "play" "LDungeonDesk$Draws;" ∈ TB := mem_tables_1_1 187 rfl rfl
set_option maxRecDepth 20000 in
theorem m_f_Desk_146 : Cond.fieldLink R_Desk 146 "DungeonDesk$Draws" "state" "J" ∈ TB := mem_tables_1_1 35 rfl rfl
set_option maxRecDepth 20000 in
theorem m_f_Desk_154 : Cond.fieldLink R_Desk 154 "DungeonDesk$Monsters" "made" "I" ∈ TB := mem_tables_1_1 111 rfl rfl
set_option maxRecDepth 20000 in
theorem m_f_Desk_157 : Cond.fieldLink R_Desk 157 "DungeonDesk$Game" "slain" "I" ∈ TB := mem_tables_1_1 202 rfl rfl
set_option maxRecDepth 20000 in
theorem m_f_Desk_171 : Cond.fieldLink R_Desk 171 "DungeonDesk$Game" "won" "Z" ∈ TB := mem_tables_1_1 204 rfl rfl
set_option maxRecDepth 20000 in
theorem m_f_Desk_175 : Cond.fieldLink R_Desk 175 "DungeonDesk$Distances" "greatest" "I" ∈ TB := mem_tables_1_1 134 rfl rfl
set_option maxRecDepth 20000 in
theorem m_f_Desk_18 : Cond.fieldLink R_Desk 18 "DungeonDesk" "keys" "[I" ∈ TB := mem_tables_1_2 105 rfl rfl
set_option maxRecDepth 20000 in
theorem m_f_Desk_22 : Cond.fieldLink R_Desk 22 "DungeonDesk" "keyCount" "I" ∈ TB := mem_tables_1_2 106 rfl rfl
set_option maxRecDepth 20000 in
theorem m_f_Desk_33 : Cond.fieldLink R_Desk 33 "DungeonDesk$Game" "ticks" "I" ∈ TB := mem_tables_1_1 200 rfl rfl
set_option maxRecDepth 20000 in
theorem m_f_Desk_36 : Cond.fieldLink R_Desk 36 "DungeonDesk$Game" "level" "LDungeonDesk$Level;" ∈ TB := mem_tables_1_1 190 rfl rfl
set_option maxRecDepth 20000 in
theorem m_f_Desk_40 : Cond.fieldLink R_Desk 40 "DungeonDesk$Level" "ground" "[I" ∈ TB := mem_tables_1_1 71 rfl rfl
set_option maxRecDepth 20000 in
theorem m_f_Desk_45 : Cond.fieldLink R_Desk 45 "DungeonDesk$Game" "hero" "LDungeonDesk$Hero;" ∈ TB := mem_tables_1_1 196 rfl rfl
set_option maxRecDepth 20000 in
theorem m_f_Desk_49 : Cond.fieldLink R_Desk 49 "DungeonDesk$Hero" "place" "I" ∈ TB := mem_tables_1_1 154 rfl rfl
set_option maxRecDepth 20000 in
theorem m_f_Desk_58 : Cond.fieldLink R_Desk 58 "DungeonDesk$Level" "known" "[I" ∈ TB := mem_tables_1_1 75 rfl rfl
set_option maxRecDepth 20000 in
theorem m_f_Desk_64 : Cond.fieldLink R_Desk 64 "DungeonDesk$Level" "things" "[I" ∈ TB := mem_tables_1_1 73 rfl rfl
set_option maxRecDepth 20000 in
theorem m_f_Desk_67 : Cond.fieldLink R_Desk 67 "DungeonDesk$Game" "distances" "LDungeonDesk$Distances;" ∈ TB := mem_tables_1_1 194 rfl rfl
set_option maxRecDepth 20000 in
theorem m_f_Desk_76 : Cond.fieldLink R_Desk 76 "DungeonDesk$Game" "monsters" "LDungeonDesk$Monsters;" ∈ TB := mem_tables_1_1 192 rfl rfl
set_option maxRecDepth 20000 in
theorem m_f_Desk_89 : Cond.fieldLink R_Desk 89 "DungeonDesk$Monsters" "kind" "[I" ∈ TB := mem_tables_1_1 95 rfl rfl
set_option maxRecDepth 20000 in
theorem m_f_Desk_92 : Cond.fieldLink R_Desk 92 "DungeonDesk$Monsters" "place" "[I" ∈ TB := mem_tables_1_1 98 rfl rfl
set_option maxRecDepth 20000 in
theorem m_f_Desk_94 : Cond.fieldLink R_Desk 94 "DungeonDesk$Monsters" "health" "[I" ∈ TB := mem_tables_1_1 101 rfl rfl
set_option maxRecDepth 20000 in
theorem m_f_Desk_97 : Cond.fieldLink R_Desk 97 "DungeonDesk$Monsters" "energy" "[I" ∈ TB := mem_tables_1_1 104 rfl rfl
set_option maxRecDepth 20000 in
theorem m_f_Distances_15 : Cond.fieldLink R_Distances 15 "DungeonDesk$Distances" "queue" "[I" ∈ TB := mem_tables_1_1 132 rfl rfl
set_option maxRecDepth 20000 in
theorem m_f_Distances_18 : Cond.fieldLink R_Distances 18 "DungeonDesk$Distances" "greatest" "I" ∈ TB := mem_tables_1_1 133 rfl rfl
set_option maxRecDepth 20000 in
theorem m_f_Distances_9 : Cond.fieldLink R_Distances 9 "DungeonDesk$Distances" "steps" "[I" ∈ TB := mem_tables_1_1 131 rfl rfl
set_option maxRecDepth 20000 in
theorem m_f_Draws_7 : Cond.fieldLink R_Draws 7 "DungeonDesk$Draws" "state" "J" ∈ TB := mem_tables_1_1 32 rfl rfl
set_option maxRecDepth 20000 in
theorem m_f_Game_109 : Cond.fieldLink R_Game 109 "DungeonDesk$Hero" "place" "I" ∈ TB := mem_tables_1_1 153 rfl rfl
set_option maxRecDepth 20000 in
theorem m_f_Game_123 : Cond.fieldLink R_Game 123 "DungeonDesk$Hero" "hit" "I" ∈ TB := mem_tables_1_1 159 rfl rfl
set_option maxRecDepth 20000 in
theorem m_f_Game_155 : Cond.fieldLink R_Game 155 "DungeonDesk$Hero" "health" "I" ∈ TB := mem_tables_1_1 156 rfl rfl
set_option maxRecDepth 20000 in
theorem m_f_Game_166 : Cond.fieldLink R_Game 166 "DungeonDesk$Hero" "haste" "I" ∈ TB := mem_tables_1_1 165 rfl rfl
set_option maxRecDepth 20000 in
theorem m_f_Game_178 : Cond.fieldLink R_Game 178 "DungeonDesk$Hero" "energy" "I" ∈ TB := mem_tables_1_1 163 rfl rfl
set_option maxRecDepth 20000 in
theorem m_f_Game_18 : Cond.fieldLink R_Game 18 "DungeonDesk$Game" "play" "LDungeonDesk$Draws;" ∈ TB := mem_tables_1_1 186 rfl rfl
set_option maxRecDepth 20000 in
theorem m_f_Game_181 : Cond.fieldLink R_Game 181 "DungeonDesk$Monsters" "made" "I" ∈ TB := mem_tables_1_1 110 rfl rfl
set_option maxRecDepth 20000 in
theorem m_f_Game_190 : Cond.fieldLink R_Game 190 "DungeonDesk$Monsters" "energy" "[I" ∈ TB := mem_tables_1_1 105 rfl rfl
set_option maxRecDepth 20000 in
theorem m_f_Game_193 : Cond.fieldLink R_Game 193 "DungeonDesk$Monsters" "SPEED_OF" "[I" ∈ TB := mem_tables_1_2 201 rfl rfl
set_option maxRecDepth 20000 in
theorem m_f_Game_196 : Cond.fieldLink R_Game 196 "DungeonDesk$Monsters" "kind" "[I" ∈ TB := mem_tables_1_1 96 rfl rfl
set_option maxRecDepth 20000 in
theorem m_f_Game_202 : Cond.fieldLink R_Game 202 "DungeonDesk$Monsters" "place" "[I" ∈ TB := mem_tables_1_1 99 rfl rfl
set_option maxRecDepth 20000 in
theorem m_f_Game_204 : Cond.fieldLink R_Game 204 "DungeonDesk$Monsters" "awake" "[I" ∈ TB := mem_tables_1_1 108 rfl rfl
set_option maxRecDepth 20000 in
theorem m_f_Game_214 : Cond.fieldLink R_Game 214 "DungeonDesk$Monsters" "health" "[I" ∈ TB := mem_tables_1_1 102 rfl rfl
set_option maxRecDepth 20000 in
theorem m_f_Game_222 : Cond.fieldLink R_Game 222 "DungeonDesk$Monsters" "HIT_OF" "[I" ∈ TB := mem_tables_1_2 212 rfl rfl
set_option maxRecDepth 20000 in
theorem m_f_Game_25 : Cond.fieldLink R_Game 25 "DungeonDesk$Game" "maker" "LDungeonDesk$Maker;" ∈ TB := mem_tables_1_1 188 rfl rfl
set_option maxRecDepth 20000 in
theorem m_f_Game_32 : Cond.fieldLink R_Game 32 "DungeonDesk$Game" "level" "LDungeonDesk$Level;" ∈ TB := mem_tables_1_1 189 rfl rfl
set_option maxRecDepth 20000 in
theorem m_f_Game_39 : Cond.fieldLink R_Game 39 "DungeonDesk$Game" "monsters" "LDungeonDesk$Monsters;" ∈ TB := mem_tables_1_1 191 rfl rfl
set_option maxRecDepth 20000 in
theorem m_f_Game_46 : Cond.fieldLink R_Game 46 "DungeonDesk$Game" "distances" "LDungeonDesk$Distances;" ∈ TB := mem_tables_1_1 193 rfl rfl
set_option maxRecDepth 20000 in
theorem m_f_Game_53 : Cond.fieldLink R_Game 53 "DungeonDesk$Game" "hero" "LDungeonDesk$Hero;" ∈ TB := mem_tables_1_1 195 rfl rfl
set_option maxRecDepth 20000 in
theorem m_f_Game_57 : Cond.fieldLink R_Game 57 "DungeonDesk$Game" "depth" "I" ∈ TB := mem_tables_1_1 197 rfl rfl
set_option maxRecDepth 20000 in
theorem m_f_Game_60 : Cond.fieldLink R_Game 60 "DungeonDesk$Game" "ticks" "I" ∈ TB := mem_tables_1_1 199 rfl rfl
set_option maxRecDepth 20000 in
theorem m_f_Game_63 : Cond.fieldLink R_Game 63 "DungeonDesk$Game" "slain" "I" ∈ TB := mem_tables_1_1 201 rfl rfl
set_option maxRecDepth 20000 in
theorem m_f_Game_66 : Cond.fieldLink R_Game 66 "DungeonDesk$Game" "won" "Z" ∈ TB := mem_tables_1_1 203 rfl rfl
set_option maxRecDepth 20000 in
theorem m_f_Game_70 : Cond.fieldLink R_Game 70 "DungeonDesk$Draws" "state" "J" ∈ TB := mem_tables_1_1 33 rfl rfl
set_option maxRecDepth 20000 in
theorem m_f_Game_81 : Cond.fieldLink R_Game 81 "DungeonDesk$Level" "start" "I" ∈ TB := mem_tables_1_1 77 rfl rfl
set_option maxRecDepth 20000 in
theorem m_f_Game_9 : Cond.fieldLink R_Game 9 "DungeonDesk$Game" "seed" "I" ∈ TB := mem_tables_1_1 185 rfl rfl
set_option maxRecDepth 20000 in
theorem m_f_Hero_11 : Cond.fieldLink R_Hero 11 "DungeonDesk$Hero" "bag" "[I" ∈ TB := mem_tables_1_1 167 rfl rfl
set_option maxRecDepth 20000 in
theorem m_f_Hero_18 : Cond.fieldLink R_Hero 18 "DungeonDesk$Hero" "place" "I" ∈ TB := mem_tables_1_1 152 rfl rfl
set_option maxRecDepth 20000 in
theorem m_f_Hero_22 : Cond.fieldLink R_Hero 22 "DungeonDesk$Hero" "health" "I" ∈ TB := mem_tables_1_1 155 rfl rfl
set_option maxRecDepth 20000 in
theorem m_f_Hero_25 : Cond.fieldLink R_Hero 25 "DungeonDesk$Hero" "hit" "I" ∈ TB := mem_tables_1_1 158 rfl rfl
set_option maxRecDepth 20000 in
theorem m_f_Hero_30 : Cond.fieldLink R_Hero 30 "DungeonDesk$Hero" "energy" "I" ∈ TB := mem_tables_1_1 161 rfl rfl
set_option maxRecDepth 20000 in
theorem m_f_Hero_33 : Cond.fieldLink R_Hero 33 "DungeonDesk$Hero" "haste" "I" ∈ TB := mem_tables_1_1 164 rfl rfl
set_option maxRecDepth 20000 in
theorem m_f_Hero_36 : Cond.fieldLink R_Hero 36 "DungeonDesk$Hero" "bagSize" "I" ∈ TB := mem_tables_1_1 168 rfl rfl
set_option maxRecDepth 20000 in
theorem m_f_Level_15 : Cond.fieldLink R_Level 15 "DungeonDesk$Level" "things" "[I" ∈ TB := mem_tables_1_1 72 rfl rfl
set_option maxRecDepth 20000 in
theorem m_f_Level_18 : Cond.fieldLink R_Level 18 "DungeonDesk$Level" "known" "[I" ∈ TB := mem_tables_1_1 74 rfl rfl
set_option maxRecDepth 20000 in
theorem m_f_Level_21 : Cond.fieldLink R_Level 21 "DungeonDesk$Level" "start" "I" ∈ TB := mem_tables_1_1 76 rfl rfl
set_option maxRecDepth 20000 in
theorem m_f_Level_31 : Cond.fieldLink R_Level 31 "DungeonDesk$Level" "STEPS" "[I" ∈ TB := mem_tables_1_2 102 rfl rfl
set_option maxRecDepth 20000 in
theorem m_f_Level_9 : Cond.fieldLink R_Level 9 "DungeonDesk$Level" "ground" "[I" ∈ TB := mem_tables_1_1 70 rfl rfl
set_option maxRecDepth 20000 in
theorem m_f_Maker_12 : Cond.fieldLink R_Maker 12 "DungeonDesk$Maker" "making" "LDungeonDesk$Draws;" ∈ TB := mem_tables_1_1 47 rfl rfl
set_option maxRecDepth 20000 in
theorem m_f_Maker_18 : Cond.fieldLink R_Maker 18 "DungeonDesk$Maker" "left" "[I" ∈ TB := mem_tables_1_1 48 rfl rfl
set_option maxRecDepth 20000 in
theorem m_f_Maker_22 : Cond.fieldLink R_Maker 22 "DungeonDesk$Maker" "top" "[I" ∈ TB := mem_tables_1_1 49 rfl rfl
set_option maxRecDepth 20000 in
theorem m_f_Maker_25 : Cond.fieldLink R_Maker 25 "DungeonDesk$Maker" "width" "[I" ∈ TB := mem_tables_1_1 50 rfl rfl
set_option maxRecDepth 20000 in
theorem m_f_Maker_28 : Cond.fieldLink R_Maker 28 "DungeonDesk$Maker" "height" "[I" ∈ TB := mem_tables_1_1 51 rfl rfl
set_option maxRecDepth 20000 in
theorem m_f_Maker_33 : Cond.fieldLink R_Maker 33 "DungeonDesk$Draws" "state" "J" ∈ TB := mem_tables_1_1 34 rfl rfl
set_option maxRecDepth 20000 in
theorem m_f_Maker_67 : Cond.fieldLink R_Maker 67 "DungeonDesk$Level" "start" "I" ∈ TB := mem_tables_1_1 78 rfl rfl
set_option maxRecDepth 20000 in
theorem m_f_Model_102 : Cond.fieldLink R_Model 102 "DungeonDeskModel" "went" "I" ∈ TB := mem_tables_1_3 141 rfl rfl
set_option maxRecDepth 20000 in
theorem m_f_Model_105 : Cond.fieldLink R_Model 105 "DungeonDeskModel" "recorded" "I" ∈ TB := mem_tables_1_3 145 rfl rfl
set_option maxRecDepth 20000 in
theorem m_f_Model_120 : Cond.fieldLink R_Model 120 "DungeonDeskModel" "level" "I" ∈ TB := mem_tables_1_3 138 rfl rfl
set_option maxRecDepth 20000 in
theorem m_f_Model_129 : Cond.fieldLink R_Model 129 "DungeonDeskModel" "px" "I" ∈ TB := mem_tables_1_3 132 rfl rfl
set_option maxRecDepth 20000 in
theorem m_f_Model_13 : Cond.fieldLink R_Model 13 "DungeonDeskModel" "thing" "[I" ∈ TB := mem_tables_1_3 117 rfl rfl
set_option maxRecDepth 20000 in
theorem m_f_Model_132 : Cond.fieldLink R_Model 132 "DungeonDeskModel" "py" "I" ∈ TB := mem_tables_1_3 133 rfl rfl
set_option maxRecDepth 20000 in
theorem m_f_Model_135 : Cond.fieldLink R_Model 135 "DungeonDeskModel" "power" "I" ∈ TB := mem_tables_1_3 136 rfl rfl
set_option maxRecDepth 20000 in
theorem m_f_Model_138 : Cond.fieldLink R_Model 138 "DungeonDeskModel" "monsters" "I" ∈ TB := mem_tables_1_3 127 rfl rfl
set_option maxRecDepth 20000 in
theorem m_f_Model_16 : Cond.fieldLink R_Model 16 "DungeonDeskModel" "distance" "[I" ∈ TB := mem_tables_1_3 118 rfl rfl
set_option maxRecDepth 20000 in
theorem m_f_Model_19 : Cond.fieldLink R_Model 19 "DungeonDeskModel" "known" "[Z" ∈ TB := mem_tables_1_3 119 rfl rfl
set_option maxRecDepth 20000 in
theorem m_f_Model_23 : Cond.fieldLink R_Model 23 "DungeonDeskModel" "kind" "[I" ∈ TB := mem_tables_1_3 120 rfl rfl
set_option maxRecDepth 20000 in
theorem m_f_Model_26 : Cond.fieldLink R_Model 26 "DungeonDeskModel" "mx" "[I" ∈ TB := mem_tables_1_3 121 rfl rfl
set_option maxRecDepth 20000 in
theorem m_f_Model_29 : Cond.fieldLink R_Model 29 "DungeonDeskModel" "my" "[I" ∈ TB := mem_tables_1_3 122 rfl rfl
set_option maxRecDepth 20000 in
theorem m_f_Model_32 : Cond.fieldLink R_Model 32 "DungeonDeskModel" "health" "[I" ∈ TB := mem_tables_1_3 123 rfl rfl
set_option maxRecDepth 20000 in
theorem m_f_Model_35 : Cond.fieldLink R_Model 35 "DungeonDeskModel" "energy" "[I" ∈ TB := mem_tables_1_3 124 rfl rfl
set_option maxRecDepth 20000 in
theorem m_f_Model_38 : Cond.fieldLink R_Model 38 "DungeonDeskModel" "awake" "[Z" ∈ TB := mem_tables_1_3 125 rfl rfl
set_option maxRecDepth 20000 in
theorem m_f_Model_41 : Cond.fieldLink R_Model 41 "DungeonDeskModel" "gone" "[Z" ∈ TB := mem_tables_1_3 126 rfl rfl
set_option maxRecDepth 20000 in
theorem m_f_Model_44 : Cond.fieldLink R_Model 44 "DungeonDeskModel" "left" "[I" ∈ TB := mem_tables_1_3 128 rfl rfl
set_option maxRecDepth 20000 in
theorem m_f_Model_47 : Cond.fieldLink R_Model 47 "DungeonDeskModel" "top" "[I" ∈ TB := mem_tables_1_3 129 rfl rfl
set_option maxRecDepth 20000 in
theorem m_f_Model_50 : Cond.fieldLink R_Model 50 "DungeonDeskModel" "wide" "[I" ∈ TB := mem_tables_1_3 130 rfl rfl
set_option maxRecDepth 20000 in
theorem m_f_Model_53 : Cond.fieldLink R_Model 53 "DungeonDeskModel" "high" "[I" ∈ TB := mem_tables_1_3 131 rfl rfl
set_option maxRecDepth 20000 in
theorem m_f_Model_56 : Cond.fieldLink R_Model 56 "DungeonDeskModel" "bag" "[I" ∈ TB := mem_tables_1_3 142 rfl rfl
set_option maxRecDepth 20000 in
theorem m_f_Model_59 : Cond.fieldLink R_Model 59 "DungeonDeskModel" "keys" "[I" ∈ TB := mem_tables_1_3 144 rfl rfl
set_option maxRecDepth 20000 in
theorem m_f_Model_62 : Cond.fieldLink R_Model 62 "DungeonDeskModel" "seed" "I" ∈ TB := mem_tables_1_3 113 rfl rfl
set_option maxRecDepth 20000 in
theorem m_f_Model_7 : Cond.fieldLink R_Model 7 "DungeonDeskModel" "floor" "[I" ∈ TB := mem_tables_1_3 116 rfl rfl
set_option maxRecDepth 20000 in
theorem m_f_Model_73 : Cond.fieldLink R_Model 73 "DungeonDeskModel" "making" "J" ∈ TB := mem_tables_1_3 114 rfl rfl
set_option maxRecDepth 20000 in
theorem m_f_Model_81 : Cond.fieldLink R_Model 81 "DungeonDeskModel" "play" "J" ∈ TB := mem_tables_1_3 115 rfl rfl
set_option maxRecDepth 20000 in
theorem m_f_Model_84 : Cond.fieldLink R_Model 84 "DungeonDeskModel" "life" "I" ∈ TB := mem_tables_1_3 134 rfl rfl
set_option maxRecDepth 20000 in
theorem m_f_Model_87 : Cond.fieldLink R_Model 87 "DungeonDeskModel" "hit" "I" ∈ TB := mem_tables_1_3 135 rfl rfl
set_option maxRecDepth 20000 in
theorem m_f_Model_90 : Cond.fieldLink R_Model 90 "DungeonDeskModel" "haste" "I" ∈ TB := mem_tables_1_3 137 rfl rfl
set_option maxRecDepth 20000 in
theorem m_f_Model_93 : Cond.fieldLink R_Model 93 "DungeonDeskModel" "things" "I" ∈ TB := mem_tables_1_3 143 rfl rfl
set_option maxRecDepth 20000 in
theorem m_f_Model_96 : Cond.fieldLink R_Model 96 "DungeonDeskModel" "state" "I" ∈ TB := mem_tables_1_3 139 rfl rfl
set_option maxRecDepth 20000 in
theorem m_f_Model_99 : Cond.fieldLink R_Model 99 "DungeonDeskModel" "ticks" "I" ∈ TB := mem_tables_1_3 140 rfl rfl
set_option maxRecDepth 20000 in
theorem m_f_Monsters_11 : Cond.fieldLink R_Monsters 11 "DungeonDesk$Monsters" "kind" "[I" ∈ TB := mem_tables_1_1 94 rfl rfl
set_option maxRecDepth 20000 in
theorem m_f_Monsters_15 : Cond.fieldLink R_Monsters 15 "DungeonDesk$Monsters" "place" "[I" ∈ TB := mem_tables_1_1 97 rfl rfl
set_option maxRecDepth 20000 in
theorem m_f_Monsters_18 : Cond.fieldLink R_Monsters 18 "DungeonDesk$Monsters" "health" "[I" ∈ TB := mem_tables_1_1 100 rfl rfl
set_option maxRecDepth 20000 in
theorem m_f_Monsters_21 : Cond.fieldLink R_Monsters 21 "DungeonDesk$Monsters" "energy" "[I" ∈ TB := mem_tables_1_1 103 rfl rfl
set_option maxRecDepth 20000 in
theorem m_f_Monsters_24 : Cond.fieldLink R_Monsters 24 "DungeonDesk$Monsters" "awake" "[I" ∈ TB := mem_tables_1_1 106 rfl rfl
set_option maxRecDepth 20000 in
theorem m_f_Monsters_27 : Cond.fieldLink R_Monsters 27 "DungeonDesk$Monsters" "made" "I" ∈ TB := mem_tables_1_1 109 rfl rfl
set_option maxRecDepth 20000 in
theorem m_f_Monsters_31 : Cond.fieldLink R_Monsters 31 "DungeonDesk$Monsters" "HEALTH_OF" "[I" ∈ TB := mem_tables_1_2 57 rfl rfl
set_option maxRecDepth 20000 in
theorem m_kl_Desk_126 : Cond.constantLong R_Desk 126 17 ∈ TB := mem_tables_1_3 16 rfl rfl
set_option maxRecDepth 20000 in
theorem m_kl_Desk_152 : Cond.constantLong R_Desk 152 1000003 ∈ TB := mem_tables_1_3 20 rfl rfl
set_option maxRecDepth 20000 in
theorem m_kl_Draws_13 : Cond.constantLong R_Draws 13 6364136223846793005 ∈ TB := mem_tables_1_2 17 rfl rfl
set_option maxRecDepth 20000 in
theorem m_kl_Draws_15 : Cond.constantLong R_Draws 15 1442695040888963407 ∈ TB := mem_tables_1_2 18 rfl rfl
set_option maxRecDepth 20000 in
theorem m_kl_Maker_31 : Cond.constantLong R_Maker 31 1000003 ∈ TB := mem_tables_1_1 237 rfl rfl
set_option maxRecDepth 20000 in
theorem m_kl_Model_123 : Cond.constantLong R_Model 123 1000003 ∈ TB := mem_tables_1_3 65 rfl rfl
set_option maxRecDepth 20000 in
theorem m_kl_Model_214 : Cond.constantLong R_Model 214 17 ∈ TB := mem_tables_1_4 54 rfl rfl
set_option maxRecDepth 20000 in
theorem m_kl_Model_69 : Cond.constantLong R_Model 69 6364136223846793005 ∈ TB := mem_tables_1_3 73 rfl rfl
set_option maxRecDepth 20000 in
theorem m_kl_Model_71 : Cond.constantLong R_Model 71 1442695040888963407 ∈ TB := mem_tables_1_3 74 rfl rfl
set_option maxRecDepth 20000 in
theorem m_m_Desk_103 : Cond.methodLink R_Desk 103 y_Hero_isDead ∈ TB := mem_tables_1_3 6 rfl rfl
set_option maxRecDepth 20000 in
theorem m_m_Desk_11 : Cond.methodLink R_Desk 11 y_Game_init ∈ TB := mem_tables_1_1 22 rfl rfl
set_option maxRecDepth 20000 in
theorem m_m_Desk_123 : Cond.methodLink R_Desk 123 y_Hero_thingInBag ∈ TB := mem_tables_1_3 7 rfl rfl
set_option maxRecDepth 20000 in
theorem m_m_Desk_128 : Cond.methodLink R_Desk 128 y_Desk_mix ∈ TB := mem_tables_1_3 17 rfl rfl
set_option maxRecDepth 20000 in
theorem m_m_Desk_132 : Cond.methodLink R_Desk 132 y_Desk_mixHero ∈ TB := mem_tables_1_3 21 rfl rfl
set_option maxRecDepth 20000 in
theorem m_m_Desk_136 : Cond.methodLink R_Desk 136 y_Desk_mixMonsters ∈ TB := mem_tables_1_3 25 rfl rfl
set_option maxRecDepth 20000 in
theorem m_m_Desk_139 : Cond.methodLink R_Desk 139 y_Desk_mixThings ∈ TB := mem_tables_1_3 29 rfl rfl
set_option maxRecDepth 20000 in
theorem m_m_Desk_160 : Cond.methodLink R_Desk 160 y_Monsters_countThere ∈ TB := mem_tables_1_3 37 rfl rfl
set_option maxRecDepth 20000 in
theorem m_m_Desk_164 : Cond.methodLink R_Desk 164 y_Desk_countFilled ∈ TB := mem_tables_1_3 41 rfl rfl
set_option maxRecDepth 20000 in
theorem m_m_Desk_168 : Cond.methodLink R_Desk 168 y_Level_countFloorInSight ∈ TB := mem_tables_1_3 44 rfl rfl
set_option maxRecDepth 20000 in
theorem m_m_Desk_26 : Cond.methodLink R_Desk 26 y_Game_begin ∈ TB := mem_tables_1_1 228 rfl rfl
set_option maxRecDepth 20000 in
theorem m_m_Desk_29 : Cond.methodLink R_Desk 29 y_Game_press ∈ TB := mem_tables_1_2 118 rfl rfl
set_option maxRecDepth 20000 in
theorem m_m_Desk_3 : Cond.methodLink R_Desk 3 objectInit ∈ TB := mem_tables_1_1 17 rfl rfl
set_option maxRecDepth 20000 in
theorem m_m_Desk_54 : Cond.methodLink R_Desk 54 y_Level_inSight ∈ TB := mem_tables_1_2 230 rfl rfl
set_option maxRecDepth 20000 in
theorem m_m_Desk_61 : Cond.methodLink R_Desk 61 y_Desk_whoIsAt ∈ TB := mem_tables_1_2 231 rfl rfl
set_option maxRecDepth 20000 in
theorem m_m_Desk_71 : Cond.methodLink R_Desk 71 y_Distances_from ∈ TB := mem_tables_1_2 237 rfl rfl
set_option maxRecDepth 20000 in
theorem m_m_Desk_80 : Cond.methodLink R_Desk 80 y_Monsters_at ∈ TB := mem_tables_1_2 235 rfl rfl
set_option maxRecDepth 20000 in
theorem m_m_Desk_85 : Cond.methodLink R_Desk 85 y_Monsters_isThere ∈ TB := mem_tables_1_2 236 rfl rfl
set_option maxRecDepth 20000 in
theorem m_m_Distances_22 : Cond.methodLink R_Distances 22 y_Arrays_fill ∈ TB := mem_tables_1_2 97 rfl rfl
set_option maxRecDepth 20000 in
theorem m_m_Distances_28 : Cond.methodLink R_Distances 28 y_Level_isFloor ∈ TB := mem_tables_1_2 98 rfl rfl
set_option maxRecDepth 20000 in
theorem m_m_Distances_3 : Cond.methodLink R_Distances 3 objectInit ∈ TB := mem_tables_1_1 130 rfl rfl
set_option maxRecDepth 20000 in
theorem m_m_Distances_34 : Cond.methodLink R_Distances 34 y_Level_neighbour ∈ TB := mem_tables_1_2 99 rfl rfl
set_option maxRecDepth 20000 in
theorem m_m_Draws_1 : Cond.methodLink R_Draws 1 objectInit ∈ TB := mem_tables_1_1 31 rfl rfl
set_option maxRecDepth 20000 in
theorem m_m_Game_100 : Cond.methodLink R_Game 100 y_Game_useThing ∈ TB := mem_tables_1_2 162 rfl rfl
set_option maxRecDepth 20000 in
theorem m_m_Game_103 : Cond.methodLink R_Game 103 y_Game_descend ∈ TB := mem_tables_1_2 184 rfl rfl
set_option maxRecDepth 20000 in
theorem m_m_Game_106 : Cond.methodLink R_Game 106 y_Game_passTime ∈ TB := mem_tables_1_2 192 rfl rfl
set_option maxRecDepth 20000 in
theorem m_m_Game_112 : Cond.methodLink R_Game 112 y_Level_neighbour ∈ TB := mem_tables_1_2 130 rfl rfl
set_option maxRecDepth 20000 in
theorem m_m_Game_116 : Cond.methodLink R_Game 116 y_Level_isFloor ∈ TB := mem_tables_1_2 131 rfl rfl
set_option maxRecDepth 20000 in
theorem m_m_Game_120 : Cond.methodLink R_Game 120 y_Monsters_at ∈ TB := mem_tables_1_2 132 rfl rfl
set_option maxRecDepth 20000 in
theorem m_m_Game_126 : Cond.methodLink R_Game 126 y_Monsters_strike ∈ TB := mem_tables_1_2 133 rfl rfl
set_option maxRecDepth 20000 in
theorem m_m_Game_130 : Cond.methodLink R_Game 130 y_Level_learnFrom ∈ TB := mem_tables_1_2 74 rfl rfl
set_option maxRecDepth 20000 in
theorem m_m_Game_133 : Cond.methodLink R_Game 133 y_Distances_measure ∈ TB := mem_tables_1_2 93 rfl rfl
set_option maxRecDepth 20000 in
theorem m_m_Game_137 : Cond.methodLink R_Game 137 y_Level_thingAt ∈ TB := mem_tables_1_2 145 rfl rfl
set_option maxRecDepth 20000 in
theorem m_m_Game_140 : Cond.methodLink R_Game 140 y_Hero_bagIsFull ∈ TB := mem_tables_1_2 149 rfl rfl
set_option maxRecDepth 20000 in
theorem m_m_Game_143 : Cond.methodLink R_Game 143 y_Hero_putInBag ∈ TB := mem_tables_1_2 153 rfl rfl
set_option maxRecDepth 20000 in
theorem m_m_Game_146 : Cond.methodLink R_Game 146 y_Level_takeThing ∈ TB := mem_tables_1_2 158 rfl rfl
set_option maxRecDepth 20000 in
theorem m_m_Game_149 : Cond.methodLink R_Game 149 y_Hero_thingInBag ∈ TB := mem_tables_1_2 166 rfl rfl
set_option maxRecDepth 20000 in
theorem m_m_Game_152 : Cond.methodLink R_Game 152 y_Hero_dropFromBag ∈ TB := mem_tables_1_2 170 rfl rfl
set_option maxRecDepth 20000 in
theorem m_m_Game_158 : Cond.methodLink R_Game 158 Lib.Math.min.name ∈ TB := mem_tables_1_2 174 rfl rfl
set_option maxRecDepth 20000 in
theorem m_m_Game_163 : Cond.methodLink R_Game 163 y_Game_drawFreePlace ∈ TB := mem_tables_1_2 175 rfl rfl
set_option maxRecDepth 20000 in
theorem m_m_Game_169 : Cond.methodLink R_Game 169 y_Game_isFree ∈ TB := mem_tables_1_2 179 rfl rfl
set_option maxRecDepth 20000 in
theorem m_m_Game_17 : Cond.methodLink R_Game 17 y_Draws_init ∈ TB := mem_tables_1_1 28 rfl rfl
set_option maxRecDepth 20000 in
theorem m_m_Game_172 : Cond.methodLink R_Game 172 y_Draws_draw ∈ TB := mem_tables_1_2 183 rfl rfl
set_option maxRecDepth 20000 in
theorem m_m_Game_175 : Cond.methodLink R_Game 175 y_Level_hasStairs ∈ TB := mem_tables_1_2 188 rfl rfl
set_option maxRecDepth 20000 in
theorem m_m_Game_184 : Cond.methodLink R_Game 184 y_Game_takeTurns ∈ TB := mem_tables_1_2 196 rfl rfl
set_option maxRecDepth 20000 in
theorem m_m_Game_187 : Cond.methodLink R_Game 187 y_Monsters_isThere ∈ TB := mem_tables_1_2 200 rfl rfl
set_option maxRecDepth 20000 in
theorem m_m_Game_199 : Cond.methodLink R_Game 199 y_Game_act ∈ TB := mem_tables_1_2 203 rfl rfl
set_option maxRecDepth 20000 in
theorem m_m_Game_207 : Cond.methodLink R_Game 207 y_Level_inSight ∈ TB := mem_tables_1_2 207 rfl rfl
set_option maxRecDepth 20000 in
theorem m_m_Game_210 : Cond.methodLink R_Game 210 y_Game_goOrHit ∈ TB := mem_tables_1_2 208 rfl rfl
set_option maxRecDepth 20000 in
theorem m_m_Game_216 : Cond.methodLink R_Game 216 y_Game_bestStep ∈ TB := mem_tables_1_2 214 rfl rfl
set_option maxRecDepth 20000 in
theorem m_m_Game_219 : Cond.methodLink R_Game 219 y_Distances_from ∈ TB := mem_tables_1_2 218 rfl rfl
set_option maxRecDepth 20000 in
theorem m_m_Game_24 : Cond.methodLink R_Game 24 y_Maker_init ∈ TB := mem_tables_1_1 41 rfl rfl
set_option maxRecDepth 20000 in
theorem m_m_Game_3 : Cond.methodLink R_Game 3 objectInit ∈ TB := mem_tables_1_1 25 rfl rfl
set_option maxRecDepth 20000 in
theorem m_m_Game_31 : Cond.methodLink R_Game 31 y_Level_init ∈ TB := mem_tables_1_1 66 rfl rfl
set_option maxRecDepth 20000 in
theorem m_m_Game_38 : Cond.methodLink R_Game 38 y_Monsters_init ∈ TB := mem_tables_1_1 90 rfl rfl
set_option maxRecDepth 20000 in
theorem m_m_Game_45 : Cond.methodLink R_Game 45 y_Distances_init ∈ TB := mem_tables_1_1 127 rfl rfl
set_option maxRecDepth 20000 in
theorem m_m_Game_52 : Cond.methodLink R_Game 52 y_Hero_init ∈ TB := mem_tables_1_1 144 rfl rfl
set_option maxRecDepth 20000 in
theorem m_m_Game_74 : Cond.methodLink R_Game 74 y_Hero_reset ∈ TB := mem_tables_1_1 232 rfl rfl
set_option maxRecDepth 20000 in
theorem m_m_Game_77 : Cond.methodLink R_Game 77 y_Maker_make ∈ TB := mem_tables_1_1 233 rfl rfl
set_option maxRecDepth 20000 in
theorem m_m_Game_84 : Cond.methodLink R_Game 84 y_Game_arrive ∈ TB := mem_tables_1_2 70 rfl rfl
set_option maxRecDepth 20000 in
theorem m_m_Game_88 : Cond.methodLink R_Game 88 y_Hero_isDead ∈ TB := mem_tables_1_2 122 rfl rfl
set_option maxRecDepth 20000 in
theorem m_m_Game_92 : Cond.methodLink R_Game 92 y_Game_walk ∈ TB := mem_tables_1_2 126 rfl rfl
set_option maxRecDepth 20000 in
theorem m_m_Game_96 : Cond.methodLink R_Game 96 y_Game_pickUp ∈ TB := mem_tables_1_2 141 rfl rfl
set_option maxRecDepth 20000 in
theorem m_m_Hero_15 : Cond.methodLink R_Hero 15 y_Hero_reset ∈ TB := mem_tables_1_1 148 rfl rfl
set_option maxRecDepth 20000 in
theorem m_m_Hero_3 : Cond.methodLink R_Hero 3 objectInit ∈ TB := mem_tables_1_1 147 rfl rfl
set_option maxRecDepth 20000 in
theorem m_m_Hero_39 : Cond.methodLink R_Hero 39 y_Hero_bagIsFull ∈ TB := mem_tables_1_2 157 rfl rfl
set_option maxRecDepth 20000 in
theorem m_m_Level_25 : Cond.methodLink R_Level 25 y_Arrays_fill ∈ TB := mem_tables_1_2 2 rfl rfl
set_option maxRecDepth 20000 in
theorem m_m_Level_3 : Cond.methodLink R_Level 3 objectInit ∈ TB := mem_tables_1_1 69 rfl rfl
set_option maxRecDepth 20000 in
theorem m_m_Level_34 : Cond.methodLink R_Level 34 y_Level_isCell ∈ TB := mem_tables_1_2 67 rfl rfl
set_option maxRecDepth 20000 in
theorem m_m_Level_38 : Cond.methodLink R_Level 38 Lib.Math.abs.name ∈ TB := mem_tables_1_2 82 rfl rfl
set_option maxRecDepth 20000 in
theorem m_m_Level_44 : Cond.methodLink R_Level 44 Lib.Math.max.name ∈ TB := mem_tables_1_2 85 rfl rfl
set_option maxRecDepth 20000 in
theorem m_m_Level_48 : Cond.methodLink R_Level 48 y_Math_floorDiv ∈ TB := mem_tables_1_2 86 rfl rfl
set_option maxRecDepth 20000 in
theorem m_m_Level_51 : Cond.methodLink R_Level 51 y_Level_isFloor ∈ TB := mem_tables_1_2 89 rfl rfl
set_option maxRecDepth 20000 in
theorem m_m_Level_54 : Cond.methodLink R_Level 54 y_Level_inSight ∈ TB := mem_tables_1_2 78 rfl rfl
set_option maxRecDepth 20000 in
theorem m_m_Maker_11 : Cond.methodLink R_Maker 11 y_Draws_init ∈ TB := mem_tables_1_1 46 rfl rfl
set_option maxRecDepth 20000 in
theorem m_m_Maker_3 : Cond.methodLink R_Maker 3 objectInit ∈ TB := mem_tables_1_1 44 rfl rfl
set_option maxRecDepth 20000 in
theorem m_m_Maker_37 : Cond.methodLink R_Maker 37 y_Level_clear ∈ TB := mem_tables_1_1 238 rfl rfl
set_option maxRecDepth 20000 in
theorem m_m_Maker_42 : Cond.methodLink R_Maker 42 y_Monsters_clear ∈ TB := mem_tables_1_2 5 rfl rfl
set_option maxRecDepth 20000 in
theorem m_m_Maker_45 : Cond.methodLink R_Maker 45 y_Maker_digRoom ∈ TB := mem_tables_1_2 9 rfl rfl
set_option maxRecDepth 20000 in
theorem m_m_Maker_49 : Cond.methodLink R_Maker 49 y_Maker_digWay ∈ TB := mem_tables_1_2 33 rfl rfl
set_option maxRecDepth 20000 in
theorem m_m_Maker_53 : Cond.methodLink R_Maker 53 y_Maker_drawPlace ∈ TB := mem_tables_1_2 49 rfl rfl
set_option maxRecDepth 20000 in
theorem m_m_Maker_57 : Cond.methodLink R_Maker 57 y_Level_setGround ∈ TB := mem_tables_1_2 29 rfl rfl
set_option maxRecDepth 20000 in
theorem m_m_Maker_61 : Cond.methodLink R_Maker 61 y_Maker_centreRow ∈ TB := mem_tables_1_2 41 rfl rfl
set_option maxRecDepth 20000 in
theorem m_m_Maker_64 : Cond.methodLink R_Maker 64 y_Maker_centreColumn ∈ TB := mem_tables_1_2 37 rfl rfl
set_option maxRecDepth 20000 in
theorem m_m_Maker_71 : Cond.methodLink R_Maker 71 y_Draws_draw ∈ TB := mem_tables_1_2 13 rfl rfl
set_option maxRecDepth 20000 in
theorem m_m_Maker_74 : Cond.methodLink R_Maker 74 y_Monsters_add ∈ TB := mem_tables_1_2 53 rfl rfl
set_option maxRecDepth 20000 in
theorem m_m_Maker_77 : Cond.methodLink R_Maker 77 y_Level_layThing ∈ TB := mem_tables_1_2 63 rfl rfl
set_option maxRecDepth 20000 in
theorem m_m_Maker_80 : Cond.methodLink R_Maker 80 y_Maker_digRow ∈ TB := mem_tables_1_2 19 rfl rfl
set_option maxRecDepth 20000 in
theorem m_m_Maker_84 : Cond.methodLink R_Maker 84 y_Maker_digColumn ∈ TB := mem_tables_1_2 45 rfl rfl
set_option maxRecDepth 20000 in
theorem m_m_Maker_87 : Cond.methodLink R_Maker 87 Lib.Math.min.name ∈ TB := mem_tables_1_2 23 rfl rfl
set_option maxRecDepth 20000 in
theorem m_m_Maker_93 : Cond.methodLink R_Maker 93 Lib.Math.max.name ∈ TB := mem_tables_1_2 26 rfl rfl
set_option maxRecDepth 20000 in
theorem m_m_Model_1 : Cond.methodLink R_Model 1 objectInit ∈ TB := mem_tables_1_3 56 rfl rfl
set_option maxRecDepth 20000 in
theorem m_m_Model_108 : Cond.methodLink R_Model 108 y_Model_build ∈ TB := mem_tables_1_3 61 rfl rfl
set_option maxRecDepth 20000 in
theorem m_m_Model_112 : Cond.methodLink R_Model 112 y_Model_make ∈ TB := mem_tables_1_3 66 rfl rfl
set_option maxRecDepth 20000 in
theorem m_m_Model_116 : Cond.methodLink R_Model 116 y_Model_dig ∈ TB := mem_tables_1_3 75 rfl rfl
set_option maxRecDepth 20000 in
theorem m_m_Model_125 : Cond.methodLink R_Model 125 y_Model_way ∈ TB := mem_tables_1_3 79 rfl rfl
set_option maxRecDepth 20000 in
theorem m_m_Model_141 : Cond.methodLink R_Model 141 y_Model_monsterAt ∈ TB := mem_tables_1_3 83 rfl rfl
set_option maxRecDepth 20000 in
theorem m_m_Model_145 : Cond.methodLink R_Model 145 y_Model_know ∈ TB := mem_tables_1_3 87 rfl rfl
set_option maxRecDepth 20000 in
theorem m_m_Model_148 : Cond.methodLink R_Model 148 y_Model_in ∈ TB := mem_tables_1_3 99 rfl rfl
set_option maxRecDepth 20000 in
theorem m_m_Model_152 : Cond.methodLink R_Model 152 y_Model_down ∈ TB := mem_tables_1_3 106 rfl rfl
set_option maxRecDepth 20000 in
theorem m_m_Model_155 : Cond.methodLink R_Model 155 y_Model_isFloor ∈ TB := mem_tables_1_3 109 rfl rfl
set_option maxRecDepth 20000 in
theorem m_m_Model_159 : Cond.methodLink R_Model 159 y_Model_isNear ∈ TB := mem_tables_1_3 95 rfl rfl
set_option maxRecDepth 20000 in
theorem m_m_Model_162 : Cond.methodLink R_Model 162 y_Model_isClear ∈ TB := mem_tables_1_3 102 rfl rfl
set_option maxRecDepth 20000 in
theorem m_m_Model_166 : Cond.methodLink R_Model 166 y_Model_isSeen ∈ TB := mem_tables_1_3 91 rfl rfl
set_option maxRecDepth 20000 in
theorem m_m_Model_169 : Cond.methodLink R_Model 169 y_Model_dx ∈ TB := mem_tables_1_3 232 rfl rfl
set_option maxRecDepth 20000 in
theorem m_m_Model_172 : Cond.methodLink R_Model 172 y_Model_dy ∈ TB := mem_tables_1_3 235 rfl rfl
set_option maxRecDepth 20000 in
theorem m_m_Model_175 : Cond.methodLink R_Model 175 y_Model_draw ∈ TB := mem_tables_1_4 6 rfl rfl
set_option maxRecDepth 20000 in
theorem m_m_Model_178 : Cond.methodLink R_Model 178 y_Model_wound ∈ TB := mem_tables_1_4 18 rfl rfl
set_option maxRecDepth 20000 in
theorem m_m_Model_181 : Cond.methodLink R_Model 181 y_Model_put ∈ TB := mem_tables_1_4 22 rfl rfl
set_option maxRecDepth 20000 in
theorem m_m_Model_185 : Cond.methodLink R_Model 185 y_Model_measure ∈ TB := mem_tables_1_4 26 rfl rfl
set_option maxRecDepth 20000 in
theorem m_m_Model_188 : Cond.methodLink R_Model 188 y_Model_acts ∈ TB := mem_tables_1_4 14 rfl rfl
set_option maxRecDepth 20000 in
theorem m_m_Model_191 : Cond.methodLink R_Model 191 y_Model_turn ∈ TB := mem_tables_1_3 221 rfl rfl
set_option maxRecDepth 20000 in
theorem m_m_Model_194 : Cond.methodLink R_Model 194 y_Model_isKey ∈ TB := mem_tables_1_3 218 rfl rfl
set_option maxRecDepth 20000 in
theorem m_m_Model_198 : Cond.methodLink R_Model 198 y_Model_does ∈ TB := mem_tables_1_3 224 rfl rfl
set_option maxRecDepth 20000 in
theorem m_m_Model_201 : Cond.methodLink R_Model 201 y_Model_goes ∈ TB := mem_tables_1_3 228 rfl rfl
set_option maxRecDepth 20000 in
theorem m_m_Model_204 : Cond.methodLink R_Model 204 y_Model_gets ∈ TB := mem_tables_1_3 238 rfl rfl
set_option maxRecDepth 20000 in
theorem m_m_Model_208 : Cond.methodLink R_Model 208 y_Model_uses ∈ TB := mem_tables_1_4 2 rfl rfl
set_option maxRecDepth 20000 in
theorem m_m_Model_211 : Cond.methodLink R_Model 211 y_Model_pass ∈ TB := mem_tables_1_4 10 rfl rfl
set_option maxRecDepth 20000 in
theorem m_m_Model_216 : Cond.methodLink R_Model 216 y_Model_player ∈ TB := mem_tables_1_4 55 rfl rfl
set_option maxRecDepth 20000 in
theorem m_m_Model_219 : Cond.methodLink R_Model 219 y_Model_monster ∈ TB := mem_tables_1_4 56 rfl rfl
set_option maxRecDepth 20000 in
theorem m_m_Model_66 : Cond.methodLink R_Model 66 y_Model_begin ∈ TB := mem_tables_1_3 57 rfl rfl
set_option maxRecDepth 20000 in
theorem m_m_Model_77 : Cond.methodLink R_Model 77 y_Model_next ∈ TB := mem_tables_1_3 70 rfl rfl
set_option maxRecDepth 20000 in
theorem m_m_Monsters_3 : Cond.methodLink R_Monsters 3 objectInit ∈ TB := mem_tables_1_1 93 rfl rfl
set_option maxRecDepth 20000 in
theorem m_m_Monsters_34 : Cond.methodLink R_Monsters 34 y_Monsters_at ∈ TB := mem_tables_1_2 59 rfl rfl
set_option maxRecDepth 20000 in
theorem m_m_Monsters_38 : Cond.methodLink R_Monsters 38 y_Monsters_isThere ∈ TB := mem_tables_1_2 137 rfl rfl
set_option maxRecDepth 20000 in
theorem i_Desk : ∀ w ∈ u_ws R_Desk F_Desk 3, w ∈ TB := by
  intro w hw
  obtain ⟨k, hk, rfl⟩ := List.mem_map.mp hw
  have hk := List.mem_range.mp hk
  rcases (show k = 0 ∨ k = 1 ∨ k = 2 by omega) with rfl | rfl | rfl
  · exact mem_tables_1_2 107 rfl rfl
  · exact mem_tables_1_2 109 rfl rfl
  · exact mem_tables_1_2 111 rfl rfl
set_option maxRecDepth 20000 in
theorem in_Desk : Cond.instantiable R_Desk 3 ∈ TB := mem_tables_1_1 13 rfl rfl
set_option maxRecDepth 20000 in
theorem ini_Desk : Cond.initialized R_Desk ∈ TB := mem_tables_1_1 1 rfl rfl
theorem dv_Desk : ∀ j, j < 3 → defaultValue (t_Desk j) = vp_V [.null, .null, .int 0] j := by decide +kernel
set_option maxRecDepth 20000 in
theorem i_Game : ∀ w ∈ u_ws R_Game F_Game 11, w ∈ TB := by
  intro w hw
  obtain ⟨k, hk, rfl⟩ := List.mem_map.mp hw
  have hk := List.mem_range.mp hk
  rcases (show k = 0 ∨ k = 1 ∨ k = 2 ∨ k = 3 ∨ k = 4 ∨ k = 5 ∨ k = 6 ∨ k = 7 ∨ k = 8 ∨ k = 9 ∨ k = 10 by omega) with rfl | rfl | rfl | rfl | rfl | rfl | rfl | rfl | rfl | rfl | rfl
  · exact mem_tables_1_1 205 rfl rfl
  · exact mem_tables_1_1 207 rfl rfl
  · exact mem_tables_1_1 209 rfl rfl
  · exact mem_tables_1_1 211 rfl rfl
  · exact mem_tables_1_1 213 rfl rfl
  · exact mem_tables_1_1 215 rfl rfl
  · exact mem_tables_1_1 217 rfl rfl
  · exact mem_tables_1_1 219 rfl rfl
  · exact mem_tables_1_1 221 rfl rfl
  · exact mem_tables_1_1 223 rfl rfl
  · exact mem_tables_1_1 225 rfl rfl
set_option maxRecDepth 20000 in
theorem in_Game : Cond.instantiable R_Game 11 ∈ TB := mem_tables_1_1 21 rfl rfl
set_option maxRecDepth 20000 in
theorem ini_Game : Cond.initialized R_Game ∈ TB := mem_tables_1_1 2 rfl rfl
theorem dv_Game : ∀ j, j < 11 → defaultValue (t_Game j) = vp_V [.int 0, .null, .null, .null, .null, .null, .null, .int 0, .int 0, .int 0, .int 0] j := by decide +kernel
set_option maxRecDepth 20000 in
theorem i_Draws : ∀ w ∈ u_ws R_Draws F_Draws 1, w ∈ TB := by
  intro w hw
  obtain ⟨k, hk, rfl⟩ := List.mem_map.mp hw
  have hk := List.mem_range.mp hk
  rcases (show k = 0 by omega) with rfl
  · exact mem_tables_1_1 36 rfl rfl
set_option maxRecDepth 20000 in
theorem in_Draws : Cond.instantiable R_Draws 1 ∈ TB := mem_tables_1_1 27 rfl rfl
set_option maxRecDepth 20000 in
theorem ini_Draws : Cond.initialized R_Draws ∈ TB := mem_tables_1_1 3 rfl rfl
theorem dv_Draws : ∀ j, j < 1 → defaultValue (t_Draws j) = vp_V [.long 0] j := by decide +kernel
set_option maxRecDepth 20000 in
theorem i_Maker : ∀ w ∈ u_ws R_Maker F_Maker 5, w ∈ TB := by
  intro w hw
  obtain ⟨k, hk, rfl⟩ := List.mem_map.mp hw
  have hk := List.mem_range.mp hk
  rcases (show k = 0 ∨ k = 1 ∨ k = 2 ∨ k = 3 ∨ k = 4 by omega) with rfl | rfl | rfl | rfl | rfl
  · exact mem_tables_1_1 52 rfl rfl
  · exact mem_tables_1_1 54 rfl rfl
  · exact mem_tables_1_1 56 rfl rfl
  · exact mem_tables_1_1 58 rfl rfl
  · exact mem_tables_1_1 60 rfl rfl
set_option maxRecDepth 20000 in
theorem in_Maker : Cond.instantiable R_Maker 5 ∈ TB := mem_tables_1_1 40 rfl rfl
set_option maxRecDepth 20000 in
theorem ini_Maker : Cond.initialized R_Maker ∈ TB := mem_tables_1_1 4 rfl rfl
theorem dv_Maker : ∀ j, j < 5 → defaultValue (t_Maker j) = vp_V [.null, .null, .null, .null, .null] j := by decide +kernel
set_option maxRecDepth 20000 in
theorem i_Level : ∀ w ∈ u_ws R_Level F_Level 4, w ∈ TB := by
  intro w hw
  obtain ⟨k, hk, rfl⟩ := List.mem_map.mp hw
  have hk := List.mem_range.mp hk
  rcases (show k = 0 ∨ k = 1 ∨ k = 2 ∨ k = 3 by omega) with rfl | rfl | rfl | rfl
  · exact mem_tables_1_1 79 rfl rfl
  · exact mem_tables_1_1 81 rfl rfl
  · exact mem_tables_1_1 83 rfl rfl
  · exact mem_tables_1_1 85 rfl rfl
set_option maxRecDepth 20000 in
theorem in_Level : Cond.instantiable R_Level 4 ∈ TB := mem_tables_1_1 65 rfl rfl
set_option maxRecDepth 20000 in
theorem ini_Level : Cond.initialized R_Level ∈ TB := mem_tables_1_1 5 rfl rfl
theorem dv_Level : ∀ j, j < 4 → defaultValue (t_Level j) = vp_V [.null, .null, .null, .int 0] j := by decide +kernel
set_option maxRecDepth 20000 in
theorem i_Monsters : ∀ w ∈ u_ws R_Monsters F_Monsters 6, w ∈ TB := by
  intro w hw
  obtain ⟨k, hk, rfl⟩ := List.mem_map.mp hw
  have hk := List.mem_range.mp hk
  rcases (show k = 0 ∨ k = 1 ∨ k = 2 ∨ k = 3 ∨ k = 4 ∨ k = 5 by omega) with rfl | rfl | rfl | rfl | rfl | rfl
  · exact mem_tables_1_1 112 rfl rfl
  · exact mem_tables_1_1 114 rfl rfl
  · exact mem_tables_1_1 116 rfl rfl
  · exact mem_tables_1_1 118 rfl rfl
  · exact mem_tables_1_1 120 rfl rfl
  · exact mem_tables_1_1 122 rfl rfl
set_option maxRecDepth 20000 in
theorem in_Monsters : Cond.instantiable R_Monsters 6 ∈ TB := mem_tables_1_1 89 rfl rfl
set_option maxRecDepth 20000 in
theorem ini_Monsters : Cond.initialized R_Monsters ∈ TB := mem_tables_1_1 6 rfl rfl
theorem dv_Monsters : ∀ j, j < 6 → defaultValue (t_Monsters j) = vp_V [.null, .null, .null, .null, .null, .int 0] j := by decide +kernel
set_option maxRecDepth 20000 in
theorem i_Distances : ∀ w ∈ u_ws R_Distances F_Distances 3, w ∈ TB := by
  intro w hw
  obtain ⟨k, hk, rfl⟩ := List.mem_map.mp hw
  have hk := List.mem_range.mp hk
  rcases (show k = 0 ∨ k = 1 ∨ k = 2 by omega) with rfl | rfl | rfl
  · exact mem_tables_1_1 135 rfl rfl
  · exact mem_tables_1_1 137 rfl rfl
  · exact mem_tables_1_1 139 rfl rfl
set_option maxRecDepth 20000 in
theorem in_Distances : Cond.instantiable R_Distances 3 ∈ TB := mem_tables_1_1 126 rfl rfl
set_option maxRecDepth 20000 in
theorem ini_Distances : Cond.initialized R_Distances ∈ TB := mem_tables_1_1 7 rfl rfl
theorem dv_Distances : ∀ j, j < 3 → defaultValue (t_Distances j) = vp_V [.null, .null, .int 0] j := by decide +kernel
set_option maxRecDepth 20000 in
theorem i_Hero : ∀ w ∈ u_ws R_Hero F_Hero 7, w ∈ TB := by
  intro w hw
  obtain ⟨k, hk, rfl⟩ := List.mem_map.mp hw
  have hk := List.mem_range.mp hk
  rcases (show k = 0 ∨ k = 1 ∨ k = 2 ∨ k = 3 ∨ k = 4 ∨ k = 5 ∨ k = 6 by omega) with rfl | rfl | rfl | rfl | rfl | rfl | rfl
  · exact mem_tables_1_1 170 rfl rfl
  · exact mem_tables_1_1 172 rfl rfl
  · exact mem_tables_1_1 174 rfl rfl
  · exact mem_tables_1_1 176 rfl rfl
  · exact mem_tables_1_1 178 rfl rfl
  · exact mem_tables_1_1 180 rfl rfl
  · exact mem_tables_1_1 182 rfl rfl
set_option maxRecDepth 20000 in
theorem in_Hero : Cond.instantiable R_Hero 7 ∈ TB := mem_tables_1_1 143 rfl rfl
set_option maxRecDepth 20000 in
theorem ini_Hero : Cond.initialized R_Hero ∈ TB := mem_tables_1_1 8 rfl rfl
theorem dv_Hero : ∀ j, j < 7 → defaultValue (t_Hero j) = vp_V [.int 0, .int 0, .int 0, .int 0, .int 0, .null, .int 0] j := by decide +kernel
set_option maxRecDepth 20000 in
theorem i_Model : ∀ w ∈ u_ws R_Model F_Model 33, w ∈ TB := by
  intro w hw
  obtain ⟨k, hk, rfl⟩ := List.mem_map.mp hw
  have hk := List.mem_range.mp hk
  rcases (show k = 0 ∨ k = 1 ∨ k = 2 ∨ k = 3 ∨ k = 4 ∨ k = 5 ∨ k = 6 ∨ k = 7 ∨ k = 8 ∨ k = 9 ∨ k = 10 ∨ k = 11 ∨ k = 12 ∨ k = 13 ∨ k = 14 ∨ k = 15 ∨ k = 16 ∨ k = 17 ∨ k = 18 ∨ k = 19 ∨ k = 20 ∨ k = 21 ∨ k = 22 ∨ k = 23 ∨ k = 24 ∨ k = 25 ∨ k = 26 ∨ k = 27 ∨ k = 28 ∨ k = 29 ∨ k = 30 ∨ k = 31 ∨ k = 32 by omega) with rfl | rfl | rfl | rfl | rfl | rfl | rfl | rfl | rfl | rfl | rfl | rfl | rfl | rfl | rfl | rfl | rfl | rfl | rfl | rfl | rfl | rfl | rfl | rfl | rfl | rfl | rfl | rfl | rfl | rfl | rfl | rfl | rfl
  · exact mem_tables_1_3 146 rfl rfl
  · exact mem_tables_1_3 148 rfl rfl
  · exact mem_tables_1_3 150 rfl rfl
  · exact mem_tables_1_3 152 rfl rfl
  · exact mem_tables_1_3 154 rfl rfl
  · exact mem_tables_1_3 156 rfl rfl
  · exact mem_tables_1_3 158 rfl rfl
  · exact mem_tables_1_3 160 rfl rfl
  · exact mem_tables_1_3 162 rfl rfl
  · exact mem_tables_1_3 164 rfl rfl
  · exact mem_tables_1_3 166 rfl rfl
  · exact mem_tables_1_3 168 rfl rfl
  · exact mem_tables_1_3 170 rfl rfl
  · exact mem_tables_1_3 172 rfl rfl
  · exact mem_tables_1_3 174 rfl rfl
  · exact mem_tables_1_3 176 rfl rfl
  · exact mem_tables_1_3 178 rfl rfl
  · exact mem_tables_1_3 180 rfl rfl
  · exact mem_tables_1_3 182 rfl rfl
  · exact mem_tables_1_3 184 rfl rfl
  · exact mem_tables_1_3 186 rfl rfl
  · exact mem_tables_1_3 188 rfl rfl
  · exact mem_tables_1_3 190 rfl rfl
  · exact mem_tables_1_3 192 rfl rfl
  · exact mem_tables_1_3 194 rfl rfl
  · exact mem_tables_1_3 196 rfl rfl
  · exact mem_tables_1_3 198 rfl rfl
  · exact mem_tables_1_3 200 rfl rfl
  · exact mem_tables_1_3 202 rfl rfl
  · exact mem_tables_1_3 204 rfl rfl
  · exact mem_tables_1_3 206 rfl rfl
  · exact mem_tables_1_3 208 rfl rfl
  · exact mem_tables_1_3 210 rfl rfl
set_option maxRecDepth 20000 in
theorem in_Model : Cond.instantiable R_Model 33 ∈ TB := mem_tables_1_3 52 rfl rfl
set_option maxRecDepth 20000 in
theorem ini_Model : Cond.initialized R_Model ∈ TB := mem_tables_1_1 11 rfl rfl
theorem dv_Model : ∀ j, j < 33 → defaultValue (t_Model j) = vp_V [.int 0, .long 0, .long 0, .null, .null, .null, .null, .null, .null, .null, .null, .null, .null, .null, .int 0, .null, .null, .null, .null, .int 0, .int 0, .int 0, .int 0, .int 0, .int 0, .int 0, .int 0, .int 0, .int 0, .null, .int 0, .null, .int 0] j := by decide +kernel
set_option maxRecDepth 20000 in
theorem ar_int : Cond.arrayClass .int ∈ TB := mem_tables_1_1 63 rfl rfl
set_option maxRecDepth 20000 in
theorem ar_boolean : Cond.arrayClass .boolean ∈ TB := mem_tables_1_3 213 rfl rfl
set_option maxRecDepth 20000 in
theorem ob_im : Cond.instanceMethod objectInit ∈ TB := mem_tables_1_1 18 rfl rfl
set_option maxRecDepth 20000 in
theorem ob_code : Cond.code objectInit ⟨#[0xb1]⟩ 1 none ∈ TB := mem_tables_1_1 19 rfl rfl
set_option maxRecDepth 20000 in
theorem k_Hero_isDead : KV y_Hero_isDead b_Hero_isDead 1 (some .boolean) := ⟨mem_tables_1_2 125 rfl rfl, mem_tables_1_2 123 rfl rfl, mem_tables_1_2 124 rfl rfl, mem_tables_1_1 8 rfl rfl⟩
theorem kd_Hero_isDead : KD y_Hero_isDead 0 := ⟨by decide, by decide, by decide +kernel⟩
set_option maxRecDepth 20000 in
theorem k_Level_isCell : KS y_Level_isCell b_Level_isCell 1 (some .boolean) := ⟨mem_tables_1_2 69 rfl rfl, mem_tables_1_2 68 rfl rfl, mem_tables_1_1 5 rfl rfl⟩
theorem kd_Level_isCell : KD y_Level_isCell 1 := ⟨by decide, by decide, by decide +kernel⟩
set_option maxRecDepth 20000 in
theorem k_Level_hasStairs : KV y_Level_hasStairs b_Level_hasStairs 2 (some .boolean) := ⟨mem_tables_1_2 191 rfl rfl, mem_tables_1_2 189 rfl rfl, mem_tables_1_2 190 rfl rfl, mem_tables_1_1 5 rfl rfl⟩
theorem kd_Level_hasStairs : KD y_Level_hasStairs 1 := ⟨by decide, by decide, by decide +kernel⟩
set_option maxRecDepth 20000 in
theorem k_Arrays_fill : KS y_Arrays_fill b_Arrays_fill 4 none := ⟨mem_tables_1_2 4 rfl rfl, mem_tables_1_2 3 rfl rfl, mem_tables_1_1 9 rfl rfl⟩
theorem kd_Arrays_fill : KD y_Arrays_fill 2 := ⟨by decide, by decide, by decide +kernel⟩
set_option maxRecDepth 20000 in
theorem k_Level_clear : KV y_Level_clear b_Level_clear 1 none := ⟨mem_tables_1_2 1 rfl rfl, mem_tables_1_1 239 rfl rfl, mem_tables_1_2 0 rfl rfl, mem_tables_1_1 5 rfl rfl⟩
theorem kd_Level_clear : KD y_Level_clear 0 := ⟨by decide, by decide, by decide +kernel⟩
set_option maxRecDepth 20000 in
theorem k_Monsters_clear : KV y_Monsters_clear b_Monsters_clear 1 none := ⟨mem_tables_1_2 8 rfl rfl, mem_tables_1_2 6 rfl rfl, mem_tables_1_2 7 rfl rfl, mem_tables_1_1 6 rfl rfl⟩
theorem kd_Monsters_clear : KD y_Monsters_clear 0 := ⟨by decide, by decide, by decide +kernel⟩
set_option maxRecDepth 20000 in
theorem k_Maker_centreColumn : KV y_Maker_centreColumn b_Maker_centreColumn 2 (some .int) := ⟨mem_tables_1_2 40 rfl rfl, mem_tables_1_2 39 rfl rfl, tb_in (List.mem_append_left _ (by decide +kernel)) rfl, mem_tables_1_1 4 rfl rfl⟩
theorem kd_Maker_centreColumn : KD y_Maker_centreColumn 1 := ⟨by decide, by decide, by decide +kernel⟩
set_option maxRecDepth 20000 in
theorem k_Maker_centreRow : KV y_Maker_centreRow b_Maker_centreRow 2 (some .int) := ⟨mem_tables_1_2 44 rfl rfl, mem_tables_1_2 43 rfl rfl, tb_in (List.mem_append_left _ (by decide +kernel)) rfl, mem_tables_1_1 4 rfl rfl⟩
theorem kd_Maker_centreRow : KD y_Maker_centreRow 1 := ⟨by decide, by decide, by decide +kernel⟩
set_option maxRecDepth 20000 in
theorem k_Draws_draw : KV y_Draws_draw b_Draws_draw 2 (some .int) := ⟨mem_tables_1_2 16 rfl rfl, mem_tables_1_2 14 rfl rfl, mem_tables_1_2 15 rfl rfl, mem_tables_1_1 3 rfl rfl⟩
theorem kd_Draws_draw : KD y_Draws_draw 1 := ⟨by decide, by decide, by decide +kernel⟩
set_option maxRecDepth 20000 in
theorem k_Level_setGround : KV y_Level_setGround b_Level_setGround 3 none := ⟨mem_tables_1_2 32 rfl rfl, mem_tables_1_2 30 rfl rfl, mem_tables_1_2 31 rfl rfl, mem_tables_1_1 5 rfl rfl⟩
theorem kd_Level_setGround : KD y_Level_setGround 2 := ⟨by decide, by decide, by decide +kernel⟩
set_option maxRecDepth 20000 in
theorem k_Maker_digRow : KV y_Maker_digRow b_Maker_digRow 6 none := ⟨mem_tables_1_2 22 rfl rfl, mem_tables_1_2 21 rfl rfl, tb_in (List.mem_append_left _ (by decide +kernel)) rfl, mem_tables_1_1 4 rfl rfl⟩
theorem kd_Maker_digRow : KD y_Maker_digRow 4 := ⟨by decide, by decide, by decide +kernel⟩
set_option maxRecDepth 20000 in
theorem k_Maker_digColumn : KV y_Maker_digColumn b_Maker_digColumn 6 none := ⟨mem_tables_1_2 48 rfl rfl, mem_tables_1_2 47 rfl rfl, tb_in (List.mem_append_left _ (by decide +kernel)) rfl, mem_tables_1_1 4 rfl rfl⟩
theorem kd_Maker_digColumn : KD y_Maker_digColumn 4 := ⟨by decide, by decide, by decide +kernel⟩
set_option maxRecDepth 20000 in
theorem k_Maker_digWay : KV y_Maker_digWay b_Maker_digWay 9 none := ⟨mem_tables_1_2 36 rfl rfl, mem_tables_1_2 35 rfl rfl, tb_in (List.mem_append_left _ (by decide +kernel)) rfl, mem_tables_1_1 4 rfl rfl⟩
theorem kd_Maker_digWay : KD y_Maker_digWay 3 := ⟨by decide, by decide, by decide +kernel⟩
set_option maxRecDepth 20000 in
theorem k_Maker_drawPlace : KV y_Maker_drawPlace b_Maker_drawPlace 4 (some .int) := ⟨mem_tables_1_2 52 rfl rfl, mem_tables_1_2 51 rfl rfl, tb_in (List.mem_append_left _ (by decide +kernel)) rfl, mem_tables_1_1 4 rfl rfl⟩
theorem kd_Maker_drawPlace : KD y_Maker_drawPlace 1 := ⟨by decide, by decide, by decide +kernel⟩
set_option maxRecDepth 20000 in
theorem k_Maker_digRoom : KV y_Maker_digRoom b_Maker_digRoom 4 none := ⟨mem_tables_1_2 12 rfl rfl, mem_tables_1_2 11 rfl rfl, tb_in (List.mem_append_left _ (by decide +kernel)) rfl, mem_tables_1_1 4 rfl rfl⟩
theorem kd_Maker_digRoom : KD y_Maker_digRoom 2 := ⟨by decide, by decide, by decide +kernel⟩
set_option maxRecDepth 20000 in
theorem k_Monsters_at : KV y_Monsters_at b_Monsters_at 3 (some .int) := ⟨mem_tables_1_2 62 rfl rfl, mem_tables_1_2 60 rfl rfl, mem_tables_1_2 61 rfl rfl, mem_tables_1_1 6 rfl rfl⟩
theorem kd_Monsters_at : KD y_Monsters_at 1 := ⟨by decide, by decide, by decide +kernel⟩
set_option maxRecDepth 20000 in
theorem k_Monsters_add : KV y_Monsters_add b_Monsters_add 3 none := ⟨mem_tables_1_2 56 rfl rfl, mem_tables_1_2 54 rfl rfl, mem_tables_1_2 55 rfl rfl, mem_tables_1_1 6 rfl rfl⟩
theorem kd_Monsters_add : KD y_Monsters_add 2 := ⟨by decide, by decide, by decide +kernel⟩
set_option maxRecDepth 20000 in
theorem k_Level_layThing : KV y_Level_layThing b_Level_layThing 3 none := ⟨mem_tables_1_2 66 rfl rfl, mem_tables_1_2 64 rfl rfl, mem_tables_1_2 65 rfl rfl, mem_tables_1_1 5 rfl rfl⟩
theorem kd_Level_layThing : KD y_Level_layThing 2 := ⟨by decide, by decide, by decide +kernel⟩
set_option maxRecDepth 20000 in
theorem k_Maker_make : KV y_Maker_make b_Maker_make 7 none := ⟨mem_tables_1_1 236 rfl rfl, mem_tables_1_1 234 rfl rfl, mem_tables_1_1 235 rfl rfl, mem_tables_1_1 4 rfl rfl⟩
theorem kd_Maker_make : KD y_Maker_make 4 := ⟨by decide, by decide, by decide +kernel⟩
set_option maxRecDepth 20000 in
theorem k_Math_floorDiv : KS y_Math_floorDiv b_Math_floorDiv 3 (some .int) := ⟨mem_tables_1_2 88 rfl rfl, mem_tables_1_2 87 rfl rfl, mem_tables_1_1 10 rfl rfl⟩
theorem kd_Math_floorDiv : KD y_Math_floorDiv 2 := ⟨by decide, by decide, by decide +kernel⟩
set_option maxRecDepth 20000 in
theorem k_Level_isFloor : KV y_Level_isFloor b_Level_isFloor 2 (some .boolean) := ⟨mem_tables_1_2 92 rfl rfl, mem_tables_1_2 90 rfl rfl, mem_tables_1_2 91 rfl rfl, mem_tables_1_1 5 rfl rfl⟩
theorem kd_Level_isFloor : KD y_Level_isFloor 1 := ⟨by decide, by decide, by decide +kernel⟩
set_option maxRecDepth 20000 in
theorem k_Level_inSight : KV y_Level_inSight b_Level_inSight 11 (some .boolean) := ⟨mem_tables_1_2 81 rfl rfl, mem_tables_1_2 79 rfl rfl, mem_tables_1_2 80 rfl rfl, mem_tables_1_1 5 rfl rfl⟩
theorem kd_Level_inSight : KD y_Level_inSight 2 := ⟨by decide, by decide, by decide +kernel⟩
set_option maxRecDepth 20000 in
theorem k_Level_learnFrom : KV y_Level_learnFrom b_Level_learnFrom 3 none := ⟨mem_tables_1_2 77 rfl rfl, mem_tables_1_2 75 rfl rfl, mem_tables_1_2 76 rfl rfl, mem_tables_1_1 5 rfl rfl⟩
theorem kd_Level_learnFrom : KD y_Level_learnFrom 1 := ⟨by decide, by decide, by decide +kernel⟩
set_option maxRecDepth 20000 in
theorem k_Level_neighbour : KS y_Level_neighbour b_Level_neighbour 2 (some .int) := ⟨mem_tables_1_2 101 rfl rfl, mem_tables_1_2 100 rfl rfl, mem_tables_1_1 5 rfl rfl⟩
theorem kd_Level_neighbour : KD y_Level_neighbour 2 := ⟨by decide, by decide, by decide +kernel⟩
set_option maxRecDepth 20000 in
theorem k_Distances_measure : KV y_Distances_measure b_Distances_measure 8 none := ⟨mem_tables_1_2 96 rfl rfl, mem_tables_1_2 94 rfl rfl, mem_tables_1_2 95 rfl rfl, mem_tables_1_1 7 rfl rfl⟩
theorem kd_Distances_measure : KD y_Distances_measure 2 := ⟨by decide, by decide, by decide +kernel⟩
set_option maxRecDepth 20000 in
theorem k_Game_arrive : KV y_Game_arrive b_Game_arrive 2 none := ⟨mem_tables_1_2 73 rfl rfl, mem_tables_1_2 72 rfl rfl, tb_in (List.mem_append_left _ (by decide +kernel)) rfl, mem_tables_1_1 2 rfl rfl⟩
theorem kd_Game_arrive : KD y_Game_arrive 1 := ⟨by decide, by decide, by decide +kernel⟩
set_option maxRecDepth 20000 in
theorem k_Game_descend : KV y_Game_descend b_Game_descend 1 (some .int) := ⟨mem_tables_1_2 187 rfl rfl, mem_tables_1_2 186 rfl rfl, tb_in (List.mem_append_left _ (by decide +kernel)) rfl, mem_tables_1_1 2 rfl rfl⟩
theorem kd_Game_descend : KD y_Game_descend 0 := ⟨by decide, by decide, by decide +kernel⟩
set_option maxRecDepth 20000 in
theorem k_Hero_thingInBag : KV y_Hero_thingInBag b_Hero_thingInBag 2 (some .int) := ⟨mem_tables_1_2 169 rfl rfl, mem_tables_1_2 167 rfl rfl, mem_tables_1_2 168 rfl rfl, mem_tables_1_1 8 rfl rfl⟩
theorem kd_Hero_thingInBag : KD y_Hero_thingInBag 1 := ⟨by decide, by decide, by decide +kernel⟩
set_option maxRecDepth 20000 in
theorem k_Hero_dropFromBag : KV y_Hero_dropFromBag b_Hero_dropFromBag 3 none := ⟨mem_tables_1_2 173 rfl rfl, mem_tables_1_2 171 rfl rfl, mem_tables_1_2 172 rfl rfl, mem_tables_1_1 8 rfl rfl⟩
theorem kd_Hero_dropFromBag : KD y_Hero_dropFromBag 1 := ⟨by decide, by decide, by decide +kernel⟩
set_option maxRecDepth 20000 in
theorem k_Game_isFree : KV y_Game_isFree b_Game_isFree 2 (some .boolean) := ⟨mem_tables_1_2 182 rfl rfl, mem_tables_1_2 181 rfl rfl, tb_in (List.mem_append_left _ (by decide +kernel)) rfl, mem_tables_1_1 2 rfl rfl⟩
theorem kd_Game_isFree : KD y_Game_isFree 1 := ⟨by decide, by decide, by decide +kernel⟩
set_option maxRecDepth 20000 in
theorem k_Game_drawFreePlace : KV y_Game_drawFreePlace b_Game_drawFreePlace 4 (some .int) := ⟨mem_tables_1_2 178 rfl rfl, mem_tables_1_2 177 rfl rfl, tb_in (List.mem_append_left _ (by decide +kernel)) rfl, mem_tables_1_1 2 rfl rfl⟩
theorem kd_Game_drawFreePlace : KD y_Game_drawFreePlace 0 := ⟨by decide, by decide, by decide +kernel⟩
set_option maxRecDepth 20000 in
theorem k_Game_useThing : KV y_Game_useThing b_Game_useThing 3 (some .int) := ⟨mem_tables_1_2 165 rfl rfl, mem_tables_1_2 164 rfl rfl, tb_in (List.mem_append_left _ (by decide +kernel)) rfl, mem_tables_1_1 2 rfl rfl⟩
theorem kd_Game_useThing : KD y_Game_useThing 1 := ⟨by decide, by decide, by decide +kernel⟩
set_option maxRecDepth 20000 in
theorem k_Level_thingAt : KV y_Level_thingAt b_Level_thingAt 2 (some .int) := ⟨mem_tables_1_2 148 rfl rfl, mem_tables_1_2 146 rfl rfl, mem_tables_1_2 147 rfl rfl, mem_tables_1_1 5 rfl rfl⟩
theorem kd_Level_thingAt : KD y_Level_thingAt 1 := ⟨by decide, by decide, by decide +kernel⟩
set_option maxRecDepth 20000 in
theorem k_Hero_bagIsFull : KV y_Hero_bagIsFull b_Hero_bagIsFull 1 (some .boolean) := ⟨mem_tables_1_2 152 rfl rfl, mem_tables_1_2 150 rfl rfl, mem_tables_1_2 151 rfl rfl, mem_tables_1_1 8 rfl rfl⟩
theorem kd_Hero_bagIsFull : KD y_Hero_bagIsFull 0 := ⟨by decide, by decide, by decide +kernel⟩
set_option maxRecDepth 20000 in
theorem k_Hero_putInBag : KV y_Hero_putInBag b_Hero_putInBag 2 none := ⟨mem_tables_1_2 156 rfl rfl, mem_tables_1_2 154 rfl rfl, mem_tables_1_2 155 rfl rfl, mem_tables_1_1 8 rfl rfl⟩
theorem kd_Hero_putInBag : KD y_Hero_putInBag 1 := ⟨by decide, by decide, by decide +kernel⟩
set_option maxRecDepth 20000 in
theorem k_Level_takeThing : KV y_Level_takeThing b_Level_takeThing 2 none := ⟨mem_tables_1_2 161 rfl rfl, mem_tables_1_2 159 rfl rfl, mem_tables_1_2 160 rfl rfl, mem_tables_1_1 5 rfl rfl⟩
theorem kd_Level_takeThing : KD y_Level_takeThing 1 := ⟨by decide, by decide, by decide +kernel⟩
set_option maxRecDepth 20000 in
theorem k_Game_pickUp : KV y_Game_pickUp b_Game_pickUp 2 (some .int) := ⟨mem_tables_1_2 144 rfl rfl, mem_tables_1_2 143 rfl rfl, tb_in (List.mem_append_left _ (by decide +kernel)) rfl, mem_tables_1_1 2 rfl rfl⟩
theorem kd_Game_pickUp : KD y_Game_pickUp 0 := ⟨by decide, by decide, by decide +kernel⟩
set_option maxRecDepth 20000 in
theorem k_Monsters_isThere : KV y_Monsters_isThere b_Monsters_isThere 2 (some .boolean) := ⟨mem_tables_1_2 140 rfl rfl, mem_tables_1_2 138 rfl rfl, mem_tables_1_2 139 rfl rfl, mem_tables_1_1 6 rfl rfl⟩
theorem kd_Monsters_isThere : KD y_Monsters_isThere 1 := ⟨by decide, by decide, by decide +kernel⟩
set_option maxRecDepth 20000 in
theorem k_Monsters_strike : KV y_Monsters_strike b_Monsters_strike 3 (some .boolean) := ⟨mem_tables_1_2 136 rfl rfl, mem_tables_1_2 134 rfl rfl, mem_tables_1_2 135 rfl rfl, mem_tables_1_1 6 rfl rfl⟩
theorem kd_Monsters_strike : KD y_Monsters_strike 2 := ⟨by decide, by decide, by decide +kernel⟩
set_option maxRecDepth 20000 in
theorem k_Game_walk : KV y_Game_walk b_Game_walk 4 (some .int) := ⟨mem_tables_1_2 129 rfl rfl, mem_tables_1_2 128 rfl rfl, tb_in (List.mem_append_left _ (by decide +kernel)) rfl, mem_tables_1_1 2 rfl rfl⟩
theorem kd_Game_walk : KD y_Game_walk 1 := ⟨by decide, by decide, by decide +kernel⟩
set_option maxRecDepth 20000 in
theorem k_Distances_from : KV y_Distances_from b_Distances_from 2 (some .int) := ⟨mem_tables_1_2 221 rfl rfl, mem_tables_1_2 219 rfl rfl, mem_tables_1_2 220 rfl rfl, mem_tables_1_1 7 rfl rfl⟩
theorem kd_Distances_from : KD y_Distances_from 1 := ⟨by decide, by decide, by decide +kernel⟩
set_option maxRecDepth 20000 in
theorem k_Game_bestStep : KV y_Game_bestStep b_Game_bestStep 6 (some .int) := ⟨mem_tables_1_2 217 rfl rfl, mem_tables_1_2 216 rfl rfl, tb_in (List.mem_append_left _ (by decide +kernel)) rfl, mem_tables_1_1 2 rfl rfl⟩
theorem kd_Game_bestStep : KD y_Game_bestStep 2 := ⟨by decide, by decide, by decide +kernel⟩
set_option maxRecDepth 20000 in
theorem k_Game_goOrHit : KV y_Game_goOrHit b_Game_goOrHit 3 none := ⟨mem_tables_1_2 211 rfl rfl, mem_tables_1_2 210 rfl rfl, tb_in (List.mem_append_left _ (by decide +kernel)) rfl, mem_tables_1_1 2 rfl rfl⟩
theorem kd_Game_goOrHit : KD y_Game_goOrHit 2 := ⟨by decide, by decide, by decide +kernel⟩
set_option maxRecDepth 20000 in
theorem k_Game_act : KV y_Game_act b_Game_act 4 none := ⟨mem_tables_1_2 206 rfl rfl, mem_tables_1_2 205 rfl rfl, tb_in (List.mem_append_left _ (by decide +kernel)) rfl, mem_tables_1_1 2 rfl rfl⟩
theorem kd_Game_act : KD y_Game_act 1 := ⟨by decide, by decide, by decide +kernel⟩
set_option maxRecDepth 20000 in
theorem k_Game_takeTurns : KV y_Game_takeTurns b_Game_takeTurns 3 none := ⟨mem_tables_1_2 199 rfl rfl, mem_tables_1_2 198 rfl rfl, tb_in (List.mem_append_left _ (by decide +kernel)) rfl, mem_tables_1_1 2 rfl rfl⟩
theorem kd_Game_takeTurns : KD y_Game_takeTurns 1 := ⟨by decide, by decide, by decide +kernel⟩
set_option maxRecDepth 20000 in
theorem k_Game_passTime : KV y_Game_passTime b_Game_passTime 3 none := ⟨mem_tables_1_2 195 rfl rfl, mem_tables_1_2 194 rfl rfl, tb_in (List.mem_append_left _ (by decide +kernel)) rfl, mem_tables_1_1 2 rfl rfl⟩
theorem kd_Game_passTime : KD y_Game_passTime 0 := ⟨by decide, by decide, by decide +kernel⟩
set_option maxRecDepth 20000 in
theorem k_Game_press : KV y_Game_press b_Game_press 3 (some .int) := ⟨mem_tables_1_2 121 rfl rfl, mem_tables_1_2 119 rfl rfl, mem_tables_1_2 120 rfl rfl, mem_tables_1_1 2 rfl rfl⟩
theorem kd_Game_press : KD y_Game_press 1 := ⟨by decide, by decide, by decide +kernel⟩
set_option maxRecDepth 20000 in
theorem k_Desk_key : KV y_Desk_key b_Desk_key 3 (some .int) := ⟨mem_tables_1_2 117 rfl rfl, mem_tables_1_2 115 rfl rfl, mem_tables_1_2 116 rfl rfl, mem_tables_1_1 1 rfl rfl⟩
theorem kd_Desk_key : KD y_Desk_key 1 := ⟨by decide, by decide, by decide +kernel⟩
set_option maxRecDepth 20000 in
theorem k_Hero_reset : KV y_Hero_reset b_Hero_reset 1 none := ⟨mem_tables_1_1 151 rfl rfl, mem_tables_1_1 149 rfl rfl, mem_tables_1_1 150 rfl rfl, mem_tables_1_1 8 rfl rfl⟩
theorem kd_Hero_reset : KD y_Hero_reset 0 := ⟨by decide, by decide, by decide +kernel⟩
set_option maxRecDepth 20000 in
theorem k_Game_begin : KV y_Game_begin b_Game_begin 1 none := ⟨mem_tables_1_1 231 rfl rfl, mem_tables_1_1 229 rfl rfl, mem_tables_1_1 230 rfl rfl, mem_tables_1_1 2 rfl rfl⟩
theorem kd_Game_begin : KD y_Game_begin 0 := ⟨by decide, by decide, by decide +kernel⟩
set_option maxRecDepth 20000 in
theorem k_Desk_rewind : KV y_Desk_rewind b_Desk_rewind 3 (some .int) := ⟨mem_tables_1_2 225 rfl rfl, mem_tables_1_2 223 rfl rfl, mem_tables_1_2 224 rfl rfl, mem_tables_1_1 1 rfl rfl⟩
theorem kd_Desk_rewind : KD y_Desk_rewind 1 := ⟨by decide, by decide, by decide +kernel⟩
set_option maxRecDepth 20000 in
theorem k_Desk_whoIsAt : KV y_Desk_whoIsAt b_Desk_whoIsAt 3 (some .int) := ⟨mem_tables_1_2 234 rfl rfl, mem_tables_1_2 233 rfl rfl, tb_in (List.mem_append_left _ (by decide +kernel)) rfl, mem_tables_1_1 1 rfl rfl⟩
theorem kd_Desk_whoIsAt : KD y_Desk_whoIsAt 1 := ⟨by decide, by decide, by decide +kernel⟩
set_option maxRecDepth 20000 in
theorem k_Desk_cell : KV y_Desk_cell b_Desk_cell 5 (some .int) := ⟨mem_tables_1_2 229 rfl rfl, mem_tables_1_2 227 rfl rfl, mem_tables_1_2 228 rfl rfl, mem_tables_1_1 1 rfl rfl⟩
theorem kd_Desk_cell : KD y_Desk_cell 3 := ⟨by decide, by decide, by decide +kernel⟩
set_option maxRecDepth 20000 in
theorem k_Desk_monster : KV y_Desk_monster b_Desk_monster 4 (some .int) := ⟨mem_tables_1_3 1 rfl rfl, mem_tables_1_2 239 rfl rfl, mem_tables_1_3 0 rfl rfl, mem_tables_1_1 1 rfl rfl⟩
theorem kd_Desk_monster : KD y_Desk_monster 2 := ⟨by decide, by decide, by decide +kernel⟩
set_option maxRecDepth 20000 in
theorem k_Desk_player : KV y_Desk_player b_Desk_player 3 (some .int) := ⟨mem_tables_1_3 5 rfl rfl, mem_tables_1_3 3 rfl rfl, mem_tables_1_3 4 rfl rfl, mem_tables_1_1 1 rfl rfl⟩
theorem kd_Desk_player : KD y_Desk_player 1 := ⟨by decide, by decide, by decide +kernel⟩
set_option maxRecDepth 20000 in
theorem k_Desk_recorded : KV y_Desk_recorded b_Desk_recorded 2 (some .int) := ⟨mem_tables_1_3 11 rfl rfl, mem_tables_1_3 9 rfl rfl, mem_tables_1_3 10 rfl rfl, mem_tables_1_1 1 rfl rfl⟩
theorem kd_Desk_recorded : KD y_Desk_recorded 1 := ⟨by decide, by decide, by decide +kernel⟩
set_option maxRecDepth 20000 in
theorem k_Desk_mix : KS y_Desk_mix b_Desk_mix 4 (some .long) := ⟨mem_tables_1_3 19 rfl rfl, mem_tables_1_3 18 rfl rfl, mem_tables_1_1 1 rfl rfl⟩
theorem kd_Desk_mix : KD y_Desk_mix 2 := ⟨by decide, by decide, by decide +kernel⟩
set_option maxRecDepth 20000 in
theorem k_Desk_mixHero : KV y_Desk_mixHero b_Desk_mixHero 7 (some .long) := ⟨mem_tables_1_3 24 rfl rfl, mem_tables_1_3 23 rfl rfl, tb_in (List.mem_append_left _ (by decide +kernel)) rfl, mem_tables_1_1 1 rfl rfl⟩
theorem kd_Desk_mixHero : KD y_Desk_mixHero 1 := ⟨by decide, by decide, by decide +kernel⟩
set_option maxRecDepth 20000 in
theorem k_Desk_mixMonsters : KV y_Desk_mixMonsters b_Desk_mixMonsters 7 (some .long) := ⟨mem_tables_1_3 28 rfl rfl, mem_tables_1_3 27 rfl rfl, tb_in (List.mem_append_left _ (by decide +kernel)) rfl, mem_tables_1_1 1 rfl rfl⟩
theorem kd_Desk_mixMonsters : KD y_Desk_mixMonsters 1 := ⟨by decide, by decide, by decide +kernel⟩
set_option maxRecDepth 20000 in
theorem k_Desk_mixThings : KV y_Desk_mixThings b_Desk_mixThings 7 (some .long) := ⟨mem_tables_1_3 32 rfl rfl, mem_tables_1_3 31 rfl rfl, tb_in (List.mem_append_left _ (by decide +kernel)) rfl, mem_tables_1_1 1 rfl rfl⟩
theorem kd_Desk_mixThings : KD y_Desk_mixThings 1 := ⟨by decide, by decide, by decide +kernel⟩
set_option maxRecDepth 20000 in
theorem k_Desk_hash : KV y_Desk_hash b_Desk_hash 3 (some .long) := ⟨mem_tables_1_3 15 rfl rfl, mem_tables_1_3 13 rfl rfl, mem_tables_1_3 14 rfl rfl, mem_tables_1_1 1 rfl rfl⟩
theorem kd_Desk_hash : KD y_Desk_hash 0 := ⟨by decide, by decide, by decide +kernel⟩
set_option maxRecDepth 20000 in
theorem k_Monsters_countThere : KV y_Monsters_countThere b_Monsters_countThere 4 (some .int) := ⟨mem_tables_1_3 40 rfl rfl, mem_tables_1_3 38 rfl rfl, mem_tables_1_3 39 rfl rfl, mem_tables_1_1 6 rfl rfl⟩
theorem kd_Monsters_countThere : KD y_Monsters_countThere 1 := ⟨by decide, by decide, by decide +kernel⟩
set_option maxRecDepth 20000 in
theorem k_Desk_countFilled : KS y_Desk_countFilled b_Desk_countFilled 6 (some .int) := ⟨mem_tables_1_3 43 rfl rfl, mem_tables_1_3 42 rfl rfl, mem_tables_1_1 1 rfl rfl⟩
theorem kd_Desk_countFilled : KD y_Desk_countFilled 1 := ⟨by decide, by decide, by decide +kernel⟩
set_option maxRecDepth 20000 in
theorem k_Level_countFloorInSight : KV y_Level_countFloorInSight b_Level_countFloorInSight 4 (some .int) := ⟨mem_tables_1_3 47 rfl rfl, mem_tables_1_3 45 rfl rfl, mem_tables_1_3 46 rfl rfl, mem_tables_1_1 5 rfl rfl⟩
theorem kd_Level_countFloorInSight : KD y_Level_countFloorInSight 1 := ⟨by decide, by decide, by decide +kernel⟩
set_option maxRecDepth 20000 in
theorem k_Desk_count : KV y_Desk_count b_Desk_count 2 (some .int) := ⟨mem_tables_1_3 36 rfl rfl, mem_tables_1_3 34 rfl rfl, mem_tables_1_3 35 rfl rfl, mem_tables_1_1 1 rfl rfl⟩
theorem kd_Desk_count : KD y_Desk_count 1 := ⟨by decide, by decide, by decide +kernel⟩
set_option maxRecDepth 20000 in
theorem k_Model_turn : KS y_Model_turn b_Model_turn 1 (some .int) := ⟨mem_tables_1_3 223 rfl rfl, mem_tables_1_3 222 rfl rfl, mem_tables_1_1 11 rfl rfl⟩
theorem kd_Model_turn : KD y_Model_turn 1 := ⟨by decide, by decide, by decide +kernel⟩
set_option maxRecDepth 20000 in
theorem k_Model_in : KS y_Model_in b_Model_in 3 (some .boolean) := ⟨mem_tables_1_3 101 rfl rfl, mem_tables_1_3 100 rfl rfl, mem_tables_1_1 11 rfl rfl⟩
theorem kd_Model_in : KD y_Model_in 3 := ⟨by decide, by decide, by decide +kernel⟩
set_option maxRecDepth 20000 in
theorem k_Model_isKey : KS y_Model_isKey b_Model_isKey 1 (some .boolean) := ⟨mem_tables_1_3 220 rfl rfl, mem_tables_1_3 219 rfl rfl, mem_tables_1_1 11 rfl rfl⟩
theorem kd_Model_isKey : KD y_Model_isKey 1 := ⟨by decide, by decide, by decide +kernel⟩
set_option maxRecDepth 20000 in
theorem k_Model_next : KS y_Model_next b_Model_next 2 (some .long) := ⟨mem_tables_1_3 72 rfl rfl, mem_tables_1_3 71 rfl rfl, mem_tables_1_1 11 rfl rfl⟩
theorem kd_Model_next : KD y_Model_next 1 := ⟨by decide, by decide, by decide +kernel⟩
set_option maxRecDepth 20000 in
theorem k_Model_draw : KV y_Model_draw b_Model_draw 2 (some .int) := ⟨mem_tables_1_4 9 rfl rfl, mem_tables_1_4 8 rfl rfl, tb_in (List.mem_append_left _ (by decide +kernel)) rfl, mem_tables_1_1 11 rfl rfl⟩
theorem kd_Model_draw : KD y_Model_draw 1 := ⟨by decide, by decide, by decide +kernel⟩
set_option maxRecDepth 20000 in
theorem k_Model_monsterAt : KV y_Model_monsterAt b_Model_monsterAt 4 (some .int) := ⟨mem_tables_1_3 86 rfl rfl, mem_tables_1_3 85 rfl rfl, tb_in (List.mem_append_left _ (by decide +kernel)) rfl, mem_tables_1_1 11 rfl rfl⟩
theorem kd_Model_monsterAt : KD y_Model_monsterAt 2 := ⟨by decide, by decide, by decide +kernel⟩
set_option maxRecDepth 20000 in
theorem k_Model_uses : KV y_Model_uses b_Model_uses 6 (some .boolean) := ⟨mem_tables_1_4 5 rfl rfl, mem_tables_1_4 4 rfl rfl, tb_in (List.mem_append_left _ (by decide +kernel)) rfl, mem_tables_1_1 11 rfl rfl⟩
theorem kd_Model_uses : KD y_Model_uses 1 := ⟨by decide, by decide, by decide +kernel⟩
set_option maxRecDepth 20000 in
theorem k_Model_gets : KV y_Model_gets b_Model_gets 2 (some .boolean) := ⟨mem_tables_1_4 1 rfl rfl, mem_tables_1_4 0 rfl rfl, tb_in (List.mem_append_left _ (by decide +kernel)) rfl, mem_tables_1_1 11 rfl rfl⟩
theorem kd_Model_gets : KD y_Model_gets 0 := ⟨by decide, by decide, by decide +kernel⟩
set_option maxRecDepth 20000 in
theorem k_Model_dx : KS y_Model_dx b_Model_dx 1 (some .int) := ⟨mem_tables_1_3 234 rfl rfl, mem_tables_1_3 233 rfl rfl, mem_tables_1_1 11 rfl rfl⟩
theorem kd_Model_dx : KD y_Model_dx 1 := ⟨by decide, by decide, by decide +kernel⟩
set_option maxRecDepth 20000 in
theorem k_Model_dy : KS y_Model_dy b_Model_dy 1 (some .int) := ⟨mem_tables_1_3 237 rfl rfl, mem_tables_1_3 236 rfl rfl, mem_tables_1_1 11 rfl rfl⟩
theorem kd_Model_dy : KD y_Model_dy 1 := ⟨by decide, by decide, by decide +kernel⟩
set_option maxRecDepth 20000 in
theorem k_Model_isFloor : KV y_Model_isFloor b_Model_isFloor 3 (some .boolean) := ⟨mem_tables_1_3 112 rfl rfl, mem_tables_1_3 111 rfl rfl, tb_in (List.mem_append_left _ (by decide +kernel)) rfl, mem_tables_1_1 11 rfl rfl⟩
theorem kd_Model_isFloor : KD y_Model_isFloor 2 := ⟨by decide, by decide, by decide +kernel⟩
set_option maxRecDepth 20000 in
theorem k_Model_goes : KV y_Model_goes b_Model_goes 5 (some .boolean) := ⟨mem_tables_1_3 231 rfl rfl, mem_tables_1_3 230 rfl rfl, tb_in (List.mem_append_left _ (by decide +kernel)) rfl, mem_tables_1_1 11 rfl rfl⟩
theorem kd_Model_goes : KD y_Model_goes 1 := ⟨by decide, by decide, by decide +kernel⟩
set_option maxRecDepth 20000 in
theorem k_Model_make : KV y_Model_make b_Model_make 2 (some .int) := ⟨mem_tables_1_3 69 rfl rfl, mem_tables_1_3 68 rfl rfl, tb_in (List.mem_append_left _ (by decide +kernel)) rfl, mem_tables_1_1 11 rfl rfl⟩
theorem kd_Model_make : KD y_Model_make 1 := ⟨by decide, by decide, by decide +kernel⟩
set_option maxRecDepth 20000 in
theorem k_Model_dig : KV y_Model_dig b_Model_dig 7 none := ⟨mem_tables_1_3 78 rfl rfl, mem_tables_1_3 77 rfl rfl, tb_in (List.mem_append_left _ (by decide +kernel)) rfl, mem_tables_1_1 11 rfl rfl⟩
theorem kd_Model_dig : KD y_Model_dig 4 := ⟨by decide, by decide, by decide +kernel⟩
set_option maxRecDepth 20000 in
theorem k_Model_way : KV y_Model_way b_Model_way 7 none := ⟨mem_tables_1_3 82 rfl rfl, mem_tables_1_3 81 rfl rfl, tb_in (List.mem_append_left _ (by decide +kernel)) rfl, mem_tables_1_1 11 rfl rfl⟩
theorem kd_Model_way : KD y_Model_way 2 := ⟨by decide, by decide, by decide +kernel⟩
set_option maxRecDepth 20000 in
theorem k_Model_isNear : KV y_Model_isNear b_Model_isNear 3 (some .boolean) := ⟨mem_tables_1_3 98 rfl rfl, mem_tables_1_3 97 rfl rfl, tb_in (List.mem_append_left _ (by decide +kernel)) rfl, mem_tables_1_1 11 rfl rfl⟩
theorem kd_Model_isNear : KD y_Model_isNear 2 := ⟨by decide, by decide, by decide +kernel⟩
set_option maxRecDepth 20000 in
theorem k_Model_down : KS y_Model_down b_Model_down 2 (some .int) := ⟨mem_tables_1_3 108 rfl rfl, mem_tables_1_3 107 rfl rfl, mem_tables_1_1 11 rfl rfl⟩
theorem kd_Model_down : KD y_Model_down 2 := ⟨by decide, by decide, by decide +kernel⟩
set_option maxRecDepth 20000 in
theorem k_Model_isClear : KV y_Model_isClear b_Model_isClear 11 (some .boolean) := ⟨mem_tables_1_3 105 rfl rfl, mem_tables_1_3 104 rfl rfl, tb_in (List.mem_append_left _ (by decide +kernel)) rfl, mem_tables_1_1 11 rfl rfl⟩
theorem kd_Model_isClear : KD y_Model_isClear 4 := ⟨by decide, by decide, by decide +kernel⟩
set_option maxRecDepth 20000 in
theorem k_Model_isSeen : KV y_Model_isSeen b_Model_isSeen 3 (some .boolean) := ⟨mem_tables_1_3 94 rfl rfl, mem_tables_1_3 93 rfl rfl, tb_in (List.mem_append_left _ (by decide +kernel)) rfl, mem_tables_1_1 11 rfl rfl⟩
theorem kd_Model_isSeen : KD y_Model_isSeen 2 := ⟨by decide, by decide, by decide +kernel⟩
set_option maxRecDepth 20000 in
theorem k_Model_know : KV y_Model_know b_Model_know 2 none := ⟨mem_tables_1_3 90 rfl rfl, mem_tables_1_3 89 rfl rfl, tb_in (List.mem_append_left _ (by decide +kernel)) rfl, mem_tables_1_1 11 rfl rfl⟩
theorem kd_Model_know : KD y_Model_know 0 := ⟨by decide, by decide, by decide +kernel⟩
set_option maxRecDepth 20000 in
theorem k_Model_build : KV y_Model_build b_Model_build 9 none := ⟨mem_tables_1_3 64 rfl rfl, mem_tables_1_3 63 rfl rfl, tb_in (List.mem_append_left _ (by decide +kernel)) rfl, mem_tables_1_1 11 rfl rfl⟩
theorem kd_Model_build : KD y_Model_build 1 := ⟨by decide, by decide, by decide +kernel⟩
set_option maxRecDepth 20000 in
theorem k_Model_measure : KV y_Model_measure b_Model_measure 7 none := ⟨mem_tables_1_4 29 rfl rfl, mem_tables_1_4 28 rfl rfl, tb_in (List.mem_append_left _ (by decide +kernel)) rfl, mem_tables_1_1 11 rfl rfl⟩
theorem kd_Model_measure : KD y_Model_measure 0 := ⟨by decide, by decide, by decide +kernel⟩
set_option maxRecDepth 20000 in
theorem k_Model_wound : KV y_Model_wound b_Model_wound 2 none := ⟨mem_tables_1_4 21 rfl rfl, mem_tables_1_4 20 rfl rfl, tb_in (List.mem_append_left _ (by decide +kernel)) rfl, mem_tables_1_1 11 rfl rfl⟩
theorem kd_Model_wound : KD y_Model_wound 1 := ⟨by decide, by decide, by decide +kernel⟩
set_option maxRecDepth 20000 in
theorem k_Model_put : KV y_Model_put b_Model_put 4 none := ⟨mem_tables_1_4 25 rfl rfl, mem_tables_1_4 24 rfl rfl, tb_in (List.mem_append_left _ (by decide +kernel)) rfl, mem_tables_1_1 11 rfl rfl⟩
theorem kd_Model_put : KD y_Model_put 3 := ⟨by decide, by decide, by decide +kernel⟩
set_option maxRecDepth 20000 in
theorem k_Model_acts : KV y_Model_acts b_Model_acts 10 none := ⟨mem_tables_1_4 17 rfl rfl, mem_tables_1_4 16 rfl rfl, tb_in (List.mem_append_left _ (by decide +kernel)) rfl, mem_tables_1_1 11 rfl rfl⟩
theorem kd_Model_acts : KD y_Model_acts 1 := ⟨by decide, by decide, by decide +kernel⟩
set_option maxRecDepth 20000 in
theorem k_Model_pass : KV y_Model_pass b_Model_pass 2 none := ⟨mem_tables_1_4 13 rfl rfl, mem_tables_1_4 12 rfl rfl, tb_in (List.mem_append_left _ (by decide +kernel)) rfl, mem_tables_1_1 11 rfl rfl⟩
theorem kd_Model_pass : KD y_Model_pass 0 := ⟨by decide, by decide, by decide +kernel⟩
set_option maxRecDepth 20000 in
theorem k_Model_does : KV y_Model_does b_Model_does 4 (some .int) := ⟨mem_tables_1_3 227 rfl rfl, mem_tables_1_3 226 rfl rfl, tb_in (List.mem_append_left _ (by decide +kernel)) rfl, mem_tables_1_1 11 rfl rfl⟩
theorem kd_Model_does : KD y_Model_does 1 := ⟨by decide, by decide, by decide +kernel⟩
set_option maxRecDepth 20000 in
theorem k_Model_key : KV y_Model_key b_Model_key 2 (some .int) := ⟨mem_tables_1_3 217 rfl rfl, mem_tables_1_3 215 rfl rfl, mem_tables_1_3 216 rfl rfl, mem_tables_1_1 11 rfl rfl⟩
theorem kd_Model_key : KD y_Model_key 1 := ⟨by decide, by decide, by decide +kernel⟩
set_option maxRecDepth 20000 in
theorem k_Model_begin : KV y_Model_begin b_Model_begin 1 none := ⟨mem_tables_1_3 60 rfl rfl, mem_tables_1_3 59 rfl rfl, tb_in (List.mem_append_left _ (by decide +kernel)) rfl, mem_tables_1_1 11 rfl rfl⟩
theorem kd_Model_begin : KD y_Model_begin 0 := ⟨by decide, by decide, by decide +kernel⟩
set_option maxRecDepth 20000 in
theorem k_Model_rewind : KV y_Model_rewind b_Model_rewind 3 (some .int) := ⟨mem_tables_1_4 33 rfl rfl, mem_tables_1_4 31 rfl rfl, mem_tables_1_4 32 rfl rfl, mem_tables_1_1 11 rfl rfl⟩
theorem kd_Model_rewind : KD y_Model_rewind 1 := ⟨by decide, by decide, by decide +kernel⟩
set_option maxRecDepth 20000 in
theorem k_Model_cell : KV y_Model_cell b_Model_cell 6 (some .int) := ⟨mem_tables_1_4 37 rfl rfl, mem_tables_1_4 35 rfl rfl, mem_tables_1_4 36 rfl rfl, mem_tables_1_1 11 rfl rfl⟩
theorem kd_Model_cell : KD y_Model_cell 3 := ⟨by decide, by decide, by decide +kernel⟩
set_option maxRecDepth 20000 in
theorem k_Model_monster : KV y_Model_monster b_Model_monster 3 (some .int) := ⟨mem_tables_1_4 41 rfl rfl, mem_tables_1_4 39 rfl rfl, mem_tables_1_4 40 rfl rfl, mem_tables_1_1 11 rfl rfl⟩
theorem kd_Model_monster : KD y_Model_monster 2 := ⟨by decide, by decide, by decide +kernel⟩
set_option maxRecDepth 20000 in
theorem k_Model_player : KV y_Model_player b_Model_player 2 (some .int) := ⟨mem_tables_1_4 45 rfl rfl, mem_tables_1_4 43 rfl rfl, mem_tables_1_4 44 rfl rfl, mem_tables_1_1 11 rfl rfl⟩
theorem kd_Model_player : KD y_Model_player 1 := ⟨by decide, by decide, by decide +kernel⟩
set_option maxRecDepth 20000 in
theorem k_Model_recorded : KV y_Model_recorded b_Model_recorded 2 (some .int) := ⟨mem_tables_1_4 49 rfl rfl, mem_tables_1_4 47 rfl rfl, mem_tables_1_4 48 rfl rfl, mem_tables_1_1 11 rfl rfl⟩
theorem kd_Model_recorded : KD y_Model_recorded 1 := ⟨by decide, by decide, by decide +kernel⟩
set_option maxRecDepth 20000 in
theorem k_Model_hash : KV y_Model_hash b_Model_hash 5 (some .long) := ⟨mem_tables_1_4 53 rfl rfl, mem_tables_1_4 51 rfl rfl, mem_tables_1_4 52 rfl rfl, mem_tables_1_1 11 rfl rfl⟩
theorem kd_Model_hash : KD y_Model_hash 0 := ⟨by decide, by decide, by decide +kernel⟩
set_option maxRecDepth 20000 in
theorem k_Model_count : KV y_Model_count b_Model_count 4 (some .int) := ⟨mem_tables_1_4 60 rfl rfl, mem_tables_1_4 58 rfl rfl, mem_tables_1_4 59 rfl rfl, mem_tables_1_1 11 rfl rfl⟩
theorem kd_Model_count : KD y_Model_count 1 := ⟨by decide, by decide, by decide +kernel⟩
set_option maxRecDepth 20000 in
theorem k_Draws_init : KI y_Draws_init b_Draws_init 1 none := ⟨mem_tables_1_1 30 rfl rfl, mem_tables_1_1 29 rfl rfl, mem_tables_1_1 3 rfl rfl⟩
theorem kd_Draws_init : KD y_Draws_init 0 := ⟨by decide, by decide, by decide +kernel⟩
set_option maxRecDepth 20000 in
theorem k_Maker_init : KI y_Maker_init b_Maker_init 1 none := ⟨mem_tables_1_1 43 rfl rfl, mem_tables_1_1 42 rfl rfl, mem_tables_1_1 4 rfl rfl⟩
theorem kd_Maker_init : KD y_Maker_init 0 := ⟨by decide, by decide, by decide +kernel⟩
set_option maxRecDepth 20000 in
theorem k_Level_init : KI y_Level_init b_Level_init 1 none := ⟨mem_tables_1_1 68 rfl rfl, mem_tables_1_1 67 rfl rfl, mem_tables_1_1 5 rfl rfl⟩
theorem kd_Level_init : KD y_Level_init 0 := ⟨by decide, by decide, by decide +kernel⟩
set_option maxRecDepth 20000 in
theorem k_Monsters_init : KI y_Monsters_init b_Monsters_init 1 none := ⟨mem_tables_1_1 92 rfl rfl, mem_tables_1_1 91 rfl rfl, mem_tables_1_1 6 rfl rfl⟩
theorem kd_Monsters_init : KD y_Monsters_init 0 := ⟨by decide, by decide, by decide +kernel⟩
set_option maxRecDepth 20000 in
theorem k_Distances_init : KI y_Distances_init b_Distances_init 1 none := ⟨mem_tables_1_1 129 rfl rfl, mem_tables_1_1 128 rfl rfl, mem_tables_1_1 7 rfl rfl⟩
theorem kd_Distances_init : KD y_Distances_init 0 := ⟨by decide, by decide, by decide +kernel⟩
set_option maxRecDepth 20000 in
theorem k_Hero_init : KI y_Hero_init b_Hero_init 1 none := ⟨mem_tables_1_1 146 rfl rfl, mem_tables_1_1 145 rfl rfl, mem_tables_1_1 8 rfl rfl⟩
theorem kd_Hero_init : KD y_Hero_init 0 := ⟨by decide, by decide, by decide +kernel⟩
set_option maxRecDepth 20000 in
theorem k_Game_init : KI y_Game_init b_Game_init 2 none := ⟨mem_tables_1_1 24 rfl rfl, mem_tables_1_1 23 rfl rfl, mem_tables_1_1 2 rfl rfl⟩
theorem kd_Game_init : KD y_Game_init 1 := ⟨by decide, by decide, by decide +kernel⟩
set_option maxRecDepth 20000 in
theorem k_Desk_init : KI y_Desk_init b_Desk_init 2 none := ⟨mem_tables_1_1 16 rfl rfl, mem_tables_1_1 15 rfl rfl, mem_tables_1_1 1 rfl rfl⟩
theorem kd_Desk_init : KD y_Desk_init 1 := ⟨by decide, by decide, by decide +kernel⟩
set_option maxRecDepth 20000 in
theorem k_Model_init : KI y_Model_init b_Model_init 2 none := ⟨mem_tables_1_3 55 rfl rfl, mem_tables_1_3 54 rfl rfl, mem_tables_1_1 11 rfl rfl⟩
theorem kd_Model_init : KD y_Model_init 1 := ⟨by decide, by decide, by decide +kernel⟩
set_option maxRecDepth 20000 in
theorem k_Math_abs : Cond.static Lib.Math.abs.name ∈ TB ∧ Cond.initialized "java/lang/Math" ∈ TB ∧ Cond.code Lib.Math.abs.name Lib.Math.abs.code 1 (some .int) ∈ TB := ⟨mem_tables_1_2 83 rfl rfl, mem_tables_1_1 10 rfl rfl, mem_tables_1_2 84 rfl rfl⟩
set_option maxRecDepth 20000 in
theorem k_Math_max : Cond.static Lib.Math.max.name ∈ TB ∧ Cond.initialized "java/lang/Math" ∈ TB ∧ Cond.code Lib.Math.max.name Lib.Math.max.code 2 (some .int) ∈ TB := ⟨mem_tables_1_2 27 rfl rfl, mem_tables_1_1 10 rfl rfl, mem_tables_1_2 28 rfl rfl⟩
set_option maxRecDepth 20000 in
theorem k_Math_min : Cond.static Lib.Math.min.name ∈ TB ∧ Cond.initialized "java/lang/Math" ∈ TB ∧ Cond.code Lib.Math.min.name Lib.Math.min.code 2 (some .int) ∈ TB := ⟨mem_tables_1_2 24 rfl rfl, mem_tables_1_1 10 rfl rfl, mem_tables_1_2 25 rfl rfl⟩
end
section
def wl (ad : Nat → Nat) (cA : Nat → ClassId) (σ : St) : va_W := [(ad 0, .inr (0, [.ref (ad 1), .ref (ad 9), .int (σ.1 0)])),
  (ad 1, .inr (1, [.int (σ.1 1), .ref (ad 2), .ref (ad 3), .ref (ad 5), .ref (ad 6), .ref (ad 7), .ref (ad 8), .int (σ.1 2), .int (σ.1 3), .int (σ.1 4), .int (σ.1 5)])),
  (ad 2, .inr (2, [.long (σ.2.1 0)])),
  (ad 3, .inr (3, [.ref (ad 4), .ref (ad 18), .ref (ad 19), .ref (ad 20), .ref (ad 21)])),
  (ad 4, .inr (2, [.long (σ.2.1 1)])),
  (ad 5, .inr (4, [.ref (ad 10), .ref (ad 11), .ref (ad 12), .int (σ.1 6)])),
  (ad 6, .inr (5, [.ref (ad 13), .ref (ad 14), .ref (ad 15), .ref (ad 16), .ref (ad 17), .int (σ.1 7)])),
  (ad 7, .inr (6, [.ref (ad 22), .ref (ad 23), .int (σ.1 8)])),
  (ad 8, .inr (7, [.int (σ.1 9), .int (σ.1 10), .int (σ.1 11), .int (σ.1 12), .int (σ.1 13), .ref (ad 24), .int (σ.1 14)])),
  (ad 9, .inl (cA 0, 512, .inl (σ.2.2 0))),
  (ad 10, .inl (cA 0, 120, .inl (σ.2.2 1))),
  (ad 11, .inl (cA 0, 120, .inl (σ.2.2 2))),
  (ad 12, .inl (cA 0, 120, .inl (σ.2.2 3))),
  (ad 13, .inl (cA 0, 5, .inl (σ.2.2 4))),
  (ad 14, .inl (cA 0, 5, .inl (σ.2.2 5))),
  (ad 15, .inl (cA 0, 5, .inl (σ.2.2 6))),
  (ad 16, .inl (cA 0, 5, .inl (σ.2.2 7))),
  (ad 17, .inl (cA 0, 5, .inl (σ.2.2 8))),
  (ad 18, .inl (cA 0, 4, .inl (σ.2.2 9))),
  (ad 19, .inl (cA 0, 4, .inl (σ.2.2 10))),
  (ad 20, .inl (cA 0, 4, .inl (σ.2.2 11))),
  (ad 21, .inl (cA 0, 4, .inl (σ.2.2 12))),
  (ad 22, .inl (cA 0, 120, .inl (σ.2.2 13))),
  (ad 23, .inl (cA 0, 120, .inl (σ.2.2 14))),
  (ad 24, .inl (cA 0, 4, .inl (σ.2.2 15)))]
section W_wl
variable {p : Program} {l : Launch} {e : Env} {R : Room} {s : State} {m : MethodId} {args : Array Value} {below : List Frame} {meth : Method} {c : Code} {H : Heap} {locs : List Loc} {cells slots : Nat} {Q : State → Prop}
variable {cc : ByteArray} {pc : Nat} {ls : Array Slot} {rest : List Value} {D : va_G} {cA : Nat → ClassId} {tz : Nat → Nat} {ad : Nat → Nat} {A : Nat → Prop} {σ : St} {own : String} {index : Nat}
theorem G_desk_game (X : CX p s m args c cc own D cA) (h : WD D A s (wl ad cA σ) H locs) (hl : Cond.fieldLink own index "DungeonDesk" "game" "LDungeonDesk$Game;" ∈ TB) (hdg : decode cc pc = .ok (.getfield index, 3)) (kk : W p l e R s m args below meth c H locs cells slots Q (F0 m (pc + 3) ls (.ref (ad 1) :: rest))) : W p l e R s m args below meth c H locs cells slots Q (F0 m pc ls (.ref (ad 0) :: rest)) :=
  x_get X h 0 0 (T := F_Desk) (v := .ref (ad 1)) rfl rfl i_Desk (by decide) rfl hl hdg kk
theorem G_desk_keys (X : CX p s m args c cc own D cA) (h : WD D A s (wl ad cA σ) H locs) (hl : Cond.fieldLink own index "DungeonDesk" "keys" "[I" ∈ TB) (hdg : decode cc pc = .ok (.getfield index, 3)) (kk : W p l e R s m args below meth c H locs cells slots Q (F0 m (pc + 3) ls (.ref (ad 9) :: rest))) : W p l e R s m args below meth c H locs cells slots Q (F0 m pc ls (.ref (ad 0) :: rest)) :=
  x_get X h 0 1 (T := F_Desk) (v := .ref (ad 9)) rfl rfl i_Desk (by decide) rfl hl hdg kk
theorem G_desk_keyCount (X : CX p s m args c cc own D cA) (h : WD D A s (wl ad cA σ) H locs) (hl : Cond.fieldLink own index "DungeonDesk" "keyCount" "I" ∈ TB) (hdg : decode cc pc = .ok (.getfield index, 3)) (kk : W p l e R s m args below meth c H locs cells slots Q (F0 m (pc + 3) ls (.int (σ.1 0) :: rest))) : W p l e R s m args below meth c H locs cells slots Q (F0 m pc ls (.ref (ad 0) :: rest)) :=
  x_get X h 0 2 (T := F_Desk) (v := .int (σ.1 0)) rfl rfl i_Desk (by decide) rfl hl hdg kk
theorem P_desk_keyCount {x : Int32} (X : CX p s m args c cc own D cA) (h : WD D A s (wl ad cA σ) H locs) (hl : Cond.fieldLink own index "DungeonDesk" "keyCount" "I" ∈ TB) (hdg : decode cc pc = .ok (.putfield index, 3)) (kk : ∀ (H1 : Heap) (locs1 : List Loc) (σ2 : St), σ2 = sI σ 0 x → WD D A s (wl ad cA σ2) H1 locs1 → W p l e R s m args below meth c H1 locs1 cells slots Q (F0 m (pc + 3) ls rest)) : W p l e R s m args below meth c H locs cells slots Q (F0 m pc ls (.int x :: .ref (ad 0) :: rest)) :=
  x_put X h 0 2 (T := F_Desk) (v := .int x) (ty := .int) rfl rfl i_Desk (by decide) t_Desk t_Desk_ok n_Desk rfl (by decide +kernel) rfl rfl (Nat.le_of_ble_eq_true rfl) (ws' := wl ad cA (sI σ 0 x)) rfl hl hdg (fun H1 locs1 h1 => kk H1 locs1 _ rfl h1)
theorem G_game_seed (X : CX p s m args c cc own D cA) (h : WD D A s (wl ad cA σ) H locs) (hl : Cond.fieldLink own index "DungeonDesk$Game" "seed" "I" ∈ TB) (hdg : decode cc pc = .ok (.getfield index, 3)) (kk : W p l e R s m args below meth c H locs cells slots Q (F0 m (pc + 3) ls (.int (σ.1 1) :: rest))) : W p l e R s m args below meth c H locs cells slots Q (F0 m pc ls (.ref (ad 1) :: rest)) :=
  x_get X h 1 0 (T := F_Game) (v := .int (σ.1 1)) rfl rfl i_Game (by decide) rfl hl hdg kk
theorem G_game_play (X : CX p s m args c cc own D cA) (h : WD D A s (wl ad cA σ) H locs) (hl : Cond.fieldLink own index "DungeonDesk$Game" "play" "LDungeonDesk$Draws;" ∈ TB) (hdg : decode cc pc = .ok (.getfield index, 3)) (kk : W p l e R s m args below meth c H locs cells slots Q (F0 m (pc + 3) ls (.ref (ad 2) :: rest))) : W p l e R s m args below meth c H locs cells slots Q (F0 m pc ls (.ref (ad 1) :: rest)) :=
  x_get X h 1 1 (T := F_Game) (v := .ref (ad 2)) rfl rfl i_Game (by decide) rfl hl hdg kk
theorem G_game_maker (X : CX p s m args c cc own D cA) (h : WD D A s (wl ad cA σ) H locs) (hl : Cond.fieldLink own index "DungeonDesk$Game" "maker" "LDungeonDesk$Maker;" ∈ TB) (hdg : decode cc pc = .ok (.getfield index, 3)) (kk : W p l e R s m args below meth c H locs cells slots Q (F0 m (pc + 3) ls (.ref (ad 3) :: rest))) : W p l e R s m args below meth c H locs cells slots Q (F0 m pc ls (.ref (ad 1) :: rest)) :=
  x_get X h 1 2 (T := F_Game) (v := .ref (ad 3)) rfl rfl i_Game (by decide) rfl hl hdg kk
theorem G_game_level (X : CX p s m args c cc own D cA) (h : WD D A s (wl ad cA σ) H locs) (hl : Cond.fieldLink own index "DungeonDesk$Game" "level" "LDungeonDesk$Level;" ∈ TB) (hdg : decode cc pc = .ok (.getfield index, 3)) (kk : W p l e R s m args below meth c H locs cells slots Q (F0 m (pc + 3) ls (.ref (ad 5) :: rest))) : W p l e R s m args below meth c H locs cells slots Q (F0 m pc ls (.ref (ad 1) :: rest)) :=
  x_get X h 1 3 (T := F_Game) (v := .ref (ad 5)) rfl rfl i_Game (by decide) rfl hl hdg kk
theorem G_game_monsters (X : CX p s m args c cc own D cA) (h : WD D A s (wl ad cA σ) H locs) (hl : Cond.fieldLink own index "DungeonDesk$Game" "monsters" "LDungeonDesk$Monsters;" ∈ TB) (hdg : decode cc pc = .ok (.getfield index, 3)) (kk : W p l e R s m args below meth c H locs cells slots Q (F0 m (pc + 3) ls (.ref (ad 6) :: rest))) : W p l e R s m args below meth c H locs cells slots Q (F0 m pc ls (.ref (ad 1) :: rest)) :=
  x_get X h 1 4 (T := F_Game) (v := .ref (ad 6)) rfl rfl i_Game (by decide) rfl hl hdg kk
theorem G_game_distances (X : CX p s m args c cc own D cA) (h : WD D A s (wl ad cA σ) H locs) (hl : Cond.fieldLink own index "DungeonDesk$Game" "distances" "LDungeonDesk$Distances;" ∈ TB) (hdg : decode cc pc = .ok (.getfield index, 3)) (kk : W p l e R s m args below meth c H locs cells slots Q (F0 m (pc + 3) ls (.ref (ad 7) :: rest))) : W p l e R s m args below meth c H locs cells slots Q (F0 m pc ls (.ref (ad 1) :: rest)) :=
  x_get X h 1 5 (T := F_Game) (v := .ref (ad 7)) rfl rfl i_Game (by decide) rfl hl hdg kk
theorem G_game_hero (X : CX p s m args c cc own D cA) (h : WD D A s (wl ad cA σ) H locs) (hl : Cond.fieldLink own index "DungeonDesk$Game" "hero" "LDungeonDesk$Hero;" ∈ TB) (hdg : decode cc pc = .ok (.getfield index, 3)) (kk : W p l e R s m args below meth c H locs cells slots Q (F0 m (pc + 3) ls (.ref (ad 8) :: rest))) : W p l e R s m args below meth c H locs cells slots Q (F0 m pc ls (.ref (ad 1) :: rest)) :=
  x_get X h 1 6 (T := F_Game) (v := .ref (ad 8)) rfl rfl i_Game (by decide) rfl hl hdg kk
theorem G_game_depth (X : CX p s m args c cc own D cA) (h : WD D A s (wl ad cA σ) H locs) (hl : Cond.fieldLink own index "DungeonDesk$Game" "depth" "I" ∈ TB) (hdg : decode cc pc = .ok (.getfield index, 3)) (kk : W p l e R s m args below meth c H locs cells slots Q (F0 m (pc + 3) ls (.int (σ.1 2) :: rest))) : W p l e R s m args below meth c H locs cells slots Q (F0 m pc ls (.ref (ad 1) :: rest)) :=
  x_get X h 1 7 (T := F_Game) (v := .int (σ.1 2)) rfl rfl i_Game (by decide) rfl hl hdg kk
theorem P_game_depth {x : Int32} (X : CX p s m args c cc own D cA) (h : WD D A s (wl ad cA σ) H locs) (hl : Cond.fieldLink own index "DungeonDesk$Game" "depth" "I" ∈ TB) (hdg : decode cc pc = .ok (.putfield index, 3)) (kk : ∀ (H1 : Heap) (locs1 : List Loc) (σ2 : St), σ2 = sI σ 2 x → WD D A s (wl ad cA σ2) H1 locs1 → W p l e R s m args below meth c H1 locs1 cells slots Q (F0 m (pc + 3) ls rest)) : W p l e R s m args below meth c H locs cells slots Q (F0 m pc ls (.int x :: .ref (ad 1) :: rest)) :=
  x_put X h 1 7 (T := F_Game) (v := .int x) (ty := .int) rfl rfl i_Game (by decide) t_Game t_Game_ok n_Game rfl (by decide +kernel) rfl rfl (Nat.le_of_ble_eq_true rfl) (ws' := wl ad cA (sI σ 2 x)) rfl hl hdg (fun H1 locs1 h1 => kk H1 locs1 _ rfl h1)
theorem G_game_ticks (X : CX p s m args c cc own D cA) (h : WD D A s (wl ad cA σ) H locs) (hl : Cond.fieldLink own index "DungeonDesk$Game" "ticks" "I" ∈ TB) (hdg : decode cc pc = .ok (.getfield index, 3)) (kk : W p l e R s m args below meth c H locs cells slots Q (F0 m (pc + 3) ls (.int (σ.1 3) :: rest))) : W p l e R s m args below meth c H locs cells slots Q (F0 m pc ls (.ref (ad 1) :: rest)) :=
  x_get X h 1 8 (T := F_Game) (v := .int (σ.1 3)) rfl rfl i_Game (by decide) rfl hl hdg kk
theorem P_game_ticks {x : Int32} (X : CX p s m args c cc own D cA) (h : WD D A s (wl ad cA σ) H locs) (hl : Cond.fieldLink own index "DungeonDesk$Game" "ticks" "I" ∈ TB) (hdg : decode cc pc = .ok (.putfield index, 3)) (kk : ∀ (H1 : Heap) (locs1 : List Loc) (σ2 : St), σ2 = sI σ 3 x → WD D A s (wl ad cA σ2) H1 locs1 → W p l e R s m args below meth c H1 locs1 cells slots Q (F0 m (pc + 3) ls rest)) : W p l e R s m args below meth c H locs cells slots Q (F0 m pc ls (.int x :: .ref (ad 1) :: rest)) :=
  x_put X h 1 8 (T := F_Game) (v := .int x) (ty := .int) rfl rfl i_Game (by decide) t_Game t_Game_ok n_Game rfl (by decide +kernel) rfl rfl (Nat.le_of_ble_eq_true rfl) (ws' := wl ad cA (sI σ 3 x)) rfl hl hdg (fun H1 locs1 h1 => kk H1 locs1 _ rfl h1)
theorem G_game_slain (X : CX p s m args c cc own D cA) (h : WD D A s (wl ad cA σ) H locs) (hl : Cond.fieldLink own index "DungeonDesk$Game" "slain" "I" ∈ TB) (hdg : decode cc pc = .ok (.getfield index, 3)) (kk : W p l e R s m args below meth c H locs cells slots Q (F0 m (pc + 3) ls (.int (σ.1 4) :: rest))) : W p l e R s m args below meth c H locs cells slots Q (F0 m pc ls (.ref (ad 1) :: rest)) :=
  x_get X h 1 9 (T := F_Game) (v := .int (σ.1 4)) rfl rfl i_Game (by decide) rfl hl hdg kk
theorem P_game_slain {x : Int32} (X : CX p s m args c cc own D cA) (h : WD D A s (wl ad cA σ) H locs) (hl : Cond.fieldLink own index "DungeonDesk$Game" "slain" "I" ∈ TB) (hdg : decode cc pc = .ok (.putfield index, 3)) (kk : ∀ (H1 : Heap) (locs1 : List Loc) (σ2 : St), σ2 = sI σ 4 x → WD D A s (wl ad cA σ2) H1 locs1 → W p l e R s m args below meth c H1 locs1 cells slots Q (F0 m (pc + 3) ls rest)) : W p l e R s m args below meth c H locs cells slots Q (F0 m pc ls (.int x :: .ref (ad 1) :: rest)) :=
  x_put X h 1 9 (T := F_Game) (v := .int x) (ty := .int) rfl rfl i_Game (by decide) t_Game t_Game_ok n_Game rfl (by decide +kernel) rfl rfl (Nat.le_of_ble_eq_true rfl) (ws' := wl ad cA (sI σ 4 x)) rfl hl hdg (fun H1 locs1 h1 => kk H1 locs1 _ rfl h1)
theorem G_game_won (X : CX p s m args c cc own D cA) (h : WD D A s (wl ad cA σ) H locs) (hl : Cond.fieldLink own index "DungeonDesk$Game" "won" "Z" ∈ TB) (hdg : decode cc pc = .ok (.getfield index, 3)) (kk : W p l e R s m args below meth c H locs cells slots Q (F0 m (pc + 3) ls (.int (σ.1 5) :: rest))) : W p l e R s m args below meth c H locs cells slots Q (F0 m pc ls (.ref (ad 1) :: rest)) :=
  x_get X h 1 10 (T := F_Game) (v := .int (σ.1 5)) rfl rfl i_Game (by decide) rfl hl hdg kk
theorem P_game_won {x : Int32} (X : CX p s m args c cc own D cA) (h : WD D A s (wl ad cA σ) H locs) (hn : narrow .boolean (.int x) = .int x) (hfit : fits .boolean (.int x) = true) (hl : Cond.fieldLink own index "DungeonDesk$Game" "won" "Z" ∈ TB) (hdg : decode cc pc = .ok (.putfield index, 3)) (kk : ∀ (H1 : Heap) (locs1 : List Loc) (σ2 : St), σ2 = sI σ 5 x → WD D A s (wl ad cA σ2) H1 locs1 → W p l e R s m args below meth c H1 locs1 cells slots Q (F0 m (pc + 3) ls rest)) : W p l e R s m args below meth c H locs cells slots Q (F0 m pc ls (.int x :: .ref (ad 1) :: rest)) :=
  x_put X h 1 10 (T := F_Game) (v := .int x) (ty := .boolean) rfl rfl i_Game (by decide) t_Game t_Game_ok n_Game rfl (by decide +kernel) hn hfit (Nat.le_of_ble_eq_true rfl) (ws' := wl ad cA (sI σ 5 x)) rfl hl hdg (fun H1 locs1 h1 => kk H1 locs1 _ rfl h1)
theorem G_play_state (X : CX p s m args c cc own D cA) (h : WD D A s (wl ad cA σ) H locs) (hl : Cond.fieldLink own index "DungeonDesk$Draws" "state" "J" ∈ TB) (hdg : decode cc pc = .ok (.getfield index, 3)) (kk : W p l e R s m args below meth c H locs cells slots Q (F0 m (pc + 3) ls (.long (σ.2.1 0) :: rest))) : W p l e R s m args below meth c H locs cells slots Q (F0 m pc ls (.ref (ad 2) :: rest)) :=
  x_get X h 2 0 (T := F_Draws) (v := .long (σ.2.1 0)) rfl rfl i_Draws (by decide) rfl hl hdg kk
theorem P_play_state {x : Int64} (X : CX p s m args c cc own D cA) (h : WD D A s (wl ad cA σ) H locs) (hl : Cond.fieldLink own index "DungeonDesk$Draws" "state" "J" ∈ TB) (hdg : decode cc pc = .ok (.putfield index, 3)) (kk : ∀ (H1 : Heap) (locs1 : List Loc) (σ2 : St), σ2 = sL σ 0 x → WD D A s (wl ad cA σ2) H1 locs1 → W p l e R s m args below meth c H1 locs1 cells slots Q (F0 m (pc + 3) ls rest)) : W p l e R s m args below meth c H locs cells slots Q (F0 m pc ls (.long x :: .ref (ad 2) :: rest)) :=
  x_put X h 2 0 (T := F_Draws) (v := .long x) (ty := .long) rfl rfl i_Draws (by decide) t_Draws t_Draws_ok n_Draws rfl (by decide +kernel) rfl rfl (Nat.le_of_ble_eq_true rfl) (ws' := wl ad cA (sL σ 0 x)) rfl hl hdg (fun H1 locs1 h1 => kk H1 locs1 _ rfl h1)
theorem G_maker_making (X : CX p s m args c cc own D cA) (h : WD D A s (wl ad cA σ) H locs) (hl : Cond.fieldLink own index "DungeonDesk$Maker" "making" "LDungeonDesk$Draws;" ∈ TB) (hdg : decode cc pc = .ok (.getfield index, 3)) (kk : W p l e R s m args below meth c H locs cells slots Q (F0 m (pc + 3) ls (.ref (ad 4) :: rest))) : W p l e R s m args below meth c H locs cells slots Q (F0 m pc ls (.ref (ad 3) :: rest)) :=
  x_get X h 3 0 (T := F_Maker) (v := .ref (ad 4)) rfl rfl i_Maker (by decide) rfl hl hdg kk
theorem G_maker_left (X : CX p s m args c cc own D cA) (h : WD D A s (wl ad cA σ) H locs) (hl : Cond.fieldLink own index "DungeonDesk$Maker" "left" "[I" ∈ TB) (hdg : decode cc pc = .ok (.getfield index, 3)) (kk : W p l e R s m args below meth c H locs cells slots Q (F0 m (pc + 3) ls (.ref (ad 18) :: rest))) : W p l e R s m args below meth c H locs cells slots Q (F0 m pc ls (.ref (ad 3) :: rest)) :=
  x_get X h 3 1 (T := F_Maker) (v := .ref (ad 18)) rfl rfl i_Maker (by decide) rfl hl hdg kk
theorem G_maker_top (X : CX p s m args c cc own D cA) (h : WD D A s (wl ad cA σ) H locs) (hl : Cond.fieldLink own index "DungeonDesk$Maker" "top" "[I" ∈ TB) (hdg : decode cc pc = .ok (.getfield index, 3)) (kk : W p l e R s m args below meth c H locs cells slots Q (F0 m (pc + 3) ls (.ref (ad 19) :: rest))) : W p l e R s m args below meth c H locs cells slots Q (F0 m pc ls (.ref (ad 3) :: rest)) :=
  x_get X h 3 2 (T := F_Maker) (v := .ref (ad 19)) rfl rfl i_Maker (by decide) rfl hl hdg kk
theorem G_maker_width (X : CX p s m args c cc own D cA) (h : WD D A s (wl ad cA σ) H locs) (hl : Cond.fieldLink own index "DungeonDesk$Maker" "width" "[I" ∈ TB) (hdg : decode cc pc = .ok (.getfield index, 3)) (kk : W p l e R s m args below meth c H locs cells slots Q (F0 m (pc + 3) ls (.ref (ad 20) :: rest))) : W p l e R s m args below meth c H locs cells slots Q (F0 m pc ls (.ref (ad 3) :: rest)) :=
  x_get X h 3 3 (T := F_Maker) (v := .ref (ad 20)) rfl rfl i_Maker (by decide) rfl hl hdg kk
theorem G_maker_height (X : CX p s m args c cc own D cA) (h : WD D A s (wl ad cA σ) H locs) (hl : Cond.fieldLink own index "DungeonDesk$Maker" "height" "[I" ∈ TB) (hdg : decode cc pc = .ok (.getfield index, 3)) (kk : W p l e R s m args below meth c H locs cells slots Q (F0 m (pc + 3) ls (.ref (ad 21) :: rest))) : W p l e R s m args below meth c H locs cells slots Q (F0 m pc ls (.ref (ad 3) :: rest)) :=
  x_get X h 3 4 (T := F_Maker) (v := .ref (ad 21)) rfl rfl i_Maker (by decide) rfl hl hdg kk
theorem G_making_state (X : CX p s m args c cc own D cA) (h : WD D A s (wl ad cA σ) H locs) (hl : Cond.fieldLink own index "DungeonDesk$Draws" "state" "J" ∈ TB) (hdg : decode cc pc = .ok (.getfield index, 3)) (kk : W p l e R s m args below meth c H locs cells slots Q (F0 m (pc + 3) ls (.long (σ.2.1 1) :: rest))) : W p l e R s m args below meth c H locs cells slots Q (F0 m pc ls (.ref (ad 4) :: rest)) :=
  x_get X h 4 0 (T := F_Draws) (v := .long (σ.2.1 1)) rfl rfl i_Draws (by decide) rfl hl hdg kk
theorem P_making_state {x : Int64} (X : CX p s m args c cc own D cA) (h : WD D A s (wl ad cA σ) H locs) (hl : Cond.fieldLink own index "DungeonDesk$Draws" "state" "J" ∈ TB) (hdg : decode cc pc = .ok (.putfield index, 3)) (kk : ∀ (H1 : Heap) (locs1 : List Loc) (σ2 : St), σ2 = sL σ 1 x → WD D A s (wl ad cA σ2) H1 locs1 → W p l e R s m args below meth c H1 locs1 cells slots Q (F0 m (pc + 3) ls rest)) : W p l e R s m args below meth c H locs cells slots Q (F0 m pc ls (.long x :: .ref (ad 4) :: rest)) :=
  x_put X h 4 0 (T := F_Draws) (v := .long x) (ty := .long) rfl rfl i_Draws (by decide) t_Draws t_Draws_ok n_Draws rfl (by decide +kernel) rfl rfl (Nat.le_of_ble_eq_true rfl) (ws' := wl ad cA (sL σ 1 x)) rfl hl hdg (fun H1 locs1 h1 => kk H1 locs1 _ rfl h1)
theorem G_level_ground (X : CX p s m args c cc own D cA) (h : WD D A s (wl ad cA σ) H locs) (hl : Cond.fieldLink own index "DungeonDesk$Level" "ground" "[I" ∈ TB) (hdg : decode cc pc = .ok (.getfield index, 3)) (kk : W p l e R s m args below meth c H locs cells slots Q (F0 m (pc + 3) ls (.ref (ad 10) :: rest))) : W p l e R s m args below meth c H locs cells slots Q (F0 m pc ls (.ref (ad 5) :: rest)) :=
  x_get X h 5 0 (T := F_Level) (v := .ref (ad 10)) rfl rfl i_Level (by decide) rfl hl hdg kk
theorem G_level_things (X : CX p s m args c cc own D cA) (h : WD D A s (wl ad cA σ) H locs) (hl : Cond.fieldLink own index "DungeonDesk$Level" "things" "[I" ∈ TB) (hdg : decode cc pc = .ok (.getfield index, 3)) (kk : W p l e R s m args below meth c H locs cells slots Q (F0 m (pc + 3) ls (.ref (ad 11) :: rest))) : W p l e R s m args below meth c H locs cells slots Q (F0 m pc ls (.ref (ad 5) :: rest)) :=
  x_get X h 5 1 (T := F_Level) (v := .ref (ad 11)) rfl rfl i_Level (by decide) rfl hl hdg kk
theorem G_level_known (X : CX p s m args c cc own D cA) (h : WD D A s (wl ad cA σ) H locs) (hl : Cond.fieldLink own index "DungeonDesk$Level" "known" "[I" ∈ TB) (hdg : decode cc pc = .ok (.getfield index, 3)) (kk : W p l e R s m args below meth c H locs cells slots Q (F0 m (pc + 3) ls (.ref (ad 12) :: rest))) : W p l e R s m args below meth c H locs cells slots Q (F0 m pc ls (.ref (ad 5) :: rest)) :=
  x_get X h 5 2 (T := F_Level) (v := .ref (ad 12)) rfl rfl i_Level (by decide) rfl hl hdg kk
theorem G_level_start (X : CX p s m args c cc own D cA) (h : WD D A s (wl ad cA σ) H locs) (hl : Cond.fieldLink own index "DungeonDesk$Level" "start" "I" ∈ TB) (hdg : decode cc pc = .ok (.getfield index, 3)) (kk : W p l e R s m args below meth c H locs cells slots Q (F0 m (pc + 3) ls (.int (σ.1 6) :: rest))) : W p l e R s m args below meth c H locs cells slots Q (F0 m pc ls (.ref (ad 5) :: rest)) :=
  x_get X h 5 3 (T := F_Level) (v := .int (σ.1 6)) rfl rfl i_Level (by decide) rfl hl hdg kk
theorem P_level_start {x : Int32} (X : CX p s m args c cc own D cA) (h : WD D A s (wl ad cA σ) H locs) (hl : Cond.fieldLink own index "DungeonDesk$Level" "start" "I" ∈ TB) (hdg : decode cc pc = .ok (.putfield index, 3)) (kk : ∀ (H1 : Heap) (locs1 : List Loc) (σ2 : St), σ2 = sI σ 6 x → WD D A s (wl ad cA σ2) H1 locs1 → W p l e R s m args below meth c H1 locs1 cells slots Q (F0 m (pc + 3) ls rest)) : W p l e R s m args below meth c H locs cells slots Q (F0 m pc ls (.int x :: .ref (ad 5) :: rest)) :=
  x_put X h 5 3 (T := F_Level) (v := .int x) (ty := .int) rfl rfl i_Level (by decide) t_Level t_Level_ok n_Level rfl (by decide +kernel) rfl rfl (Nat.le_of_ble_eq_true rfl) (ws' := wl ad cA (sI σ 6 x)) rfl hl hdg (fun H1 locs1 h1 => kk H1 locs1 _ rfl h1)
theorem G_monsters_kind (X : CX p s m args c cc own D cA) (h : WD D A s (wl ad cA σ) H locs) (hl : Cond.fieldLink own index "DungeonDesk$Monsters" "kind" "[I" ∈ TB) (hdg : decode cc pc = .ok (.getfield index, 3)) (kk : W p l e R s m args below meth c H locs cells slots Q (F0 m (pc + 3) ls (.ref (ad 13) :: rest))) : W p l e R s m args below meth c H locs cells slots Q (F0 m pc ls (.ref (ad 6) :: rest)) :=
  x_get X h 6 0 (T := F_Monsters) (v := .ref (ad 13)) rfl rfl i_Monsters (by decide) rfl hl hdg kk
theorem G_monsters_place (X : CX p s m args c cc own D cA) (h : WD D A s (wl ad cA σ) H locs) (hl : Cond.fieldLink own index "DungeonDesk$Monsters" "place" "[I" ∈ TB) (hdg : decode cc pc = .ok (.getfield index, 3)) (kk : W p l e R s m args below meth c H locs cells slots Q (F0 m (pc + 3) ls (.ref (ad 14) :: rest))) : W p l e R s m args below meth c H locs cells slots Q (F0 m pc ls (.ref (ad 6) :: rest)) :=
  x_get X h 6 1 (T := F_Monsters) (v := .ref (ad 14)) rfl rfl i_Monsters (by decide) rfl hl hdg kk
theorem G_monsters_health (X : CX p s m args c cc own D cA) (h : WD D A s (wl ad cA σ) H locs) (hl : Cond.fieldLink own index "DungeonDesk$Monsters" "health" "[I" ∈ TB) (hdg : decode cc pc = .ok (.getfield index, 3)) (kk : W p l e R s m args below meth c H locs cells slots Q (F0 m (pc + 3) ls (.ref (ad 15) :: rest))) : W p l e R s m args below meth c H locs cells slots Q (F0 m pc ls (.ref (ad 6) :: rest)) :=
  x_get X h 6 2 (T := F_Monsters) (v := .ref (ad 15)) rfl rfl i_Monsters (by decide) rfl hl hdg kk
theorem G_monsters_energy (X : CX p s m args c cc own D cA) (h : WD D A s (wl ad cA σ) H locs) (hl : Cond.fieldLink own index "DungeonDesk$Monsters" "energy" "[I" ∈ TB) (hdg : decode cc pc = .ok (.getfield index, 3)) (kk : W p l e R s m args below meth c H locs cells slots Q (F0 m (pc + 3) ls (.ref (ad 16) :: rest))) : W p l e R s m args below meth c H locs cells slots Q (F0 m pc ls (.ref (ad 6) :: rest)) :=
  x_get X h 6 3 (T := F_Monsters) (v := .ref (ad 16)) rfl rfl i_Monsters (by decide) rfl hl hdg kk
theorem G_monsters_awake (X : CX p s m args c cc own D cA) (h : WD D A s (wl ad cA σ) H locs) (hl : Cond.fieldLink own index "DungeonDesk$Monsters" "awake" "[I" ∈ TB) (hdg : decode cc pc = .ok (.getfield index, 3)) (kk : W p l e R s m args below meth c H locs cells slots Q (F0 m (pc + 3) ls (.ref (ad 17) :: rest))) : W p l e R s m args below meth c H locs cells slots Q (F0 m pc ls (.ref (ad 6) :: rest)) :=
  x_get X h 6 4 (T := F_Monsters) (v := .ref (ad 17)) rfl rfl i_Monsters (by decide) rfl hl hdg kk
theorem G_monsters_made (X : CX p s m args c cc own D cA) (h : WD D A s (wl ad cA σ) H locs) (hl : Cond.fieldLink own index "DungeonDesk$Monsters" "made" "I" ∈ TB) (hdg : decode cc pc = .ok (.getfield index, 3)) (kk : W p l e R s m args below meth c H locs cells slots Q (F0 m (pc + 3) ls (.int (σ.1 7) :: rest))) : W p l e R s m args below meth c H locs cells slots Q (F0 m pc ls (.ref (ad 6) :: rest)) :=
  x_get X h 6 5 (T := F_Monsters) (v := .int (σ.1 7)) rfl rfl i_Monsters (by decide) rfl hl hdg kk
theorem P_monsters_made {x : Int32} (X : CX p s m args c cc own D cA) (h : WD D A s (wl ad cA σ) H locs) (hl : Cond.fieldLink own index "DungeonDesk$Monsters" "made" "I" ∈ TB) (hdg : decode cc pc = .ok (.putfield index, 3)) (kk : ∀ (H1 : Heap) (locs1 : List Loc) (σ2 : St), σ2 = sI σ 7 x → WD D A s (wl ad cA σ2) H1 locs1 → W p l e R s m args below meth c H1 locs1 cells slots Q (F0 m (pc + 3) ls rest)) : W p l e R s m args below meth c H locs cells slots Q (F0 m pc ls (.int x :: .ref (ad 6) :: rest)) :=
  x_put X h 6 5 (T := F_Monsters) (v := .int x) (ty := .int) rfl rfl i_Monsters (by decide) t_Monsters t_Monsters_ok n_Monsters rfl (by decide +kernel) rfl rfl (Nat.le_of_ble_eq_true rfl) (ws' := wl ad cA (sI σ 7 x)) rfl hl hdg (fun H1 locs1 h1 => kk H1 locs1 _ rfl h1)
theorem G_dist_steps (X : CX p s m args c cc own D cA) (h : WD D A s (wl ad cA σ) H locs) (hl : Cond.fieldLink own index "DungeonDesk$Distances" "steps" "[I" ∈ TB) (hdg : decode cc pc = .ok (.getfield index, 3)) (kk : W p l e R s m args below meth c H locs cells slots Q (F0 m (pc + 3) ls (.ref (ad 22) :: rest))) : W p l e R s m args below meth c H locs cells slots Q (F0 m pc ls (.ref (ad 7) :: rest)) :=
  x_get X h 7 0 (T := F_Distances) (v := .ref (ad 22)) rfl rfl i_Distances (by decide) rfl hl hdg kk
theorem G_dist_queue (X : CX p s m args c cc own D cA) (h : WD D A s (wl ad cA σ) H locs) (hl : Cond.fieldLink own index "DungeonDesk$Distances" "queue" "[I" ∈ TB) (hdg : decode cc pc = .ok (.getfield index, 3)) (kk : W p l e R s m args below meth c H locs cells slots Q (F0 m (pc + 3) ls (.ref (ad 23) :: rest))) : W p l e R s m args below meth c H locs cells slots Q (F0 m pc ls (.ref (ad 7) :: rest)) :=
  x_get X h 7 1 (T := F_Distances) (v := .ref (ad 23)) rfl rfl i_Distances (by decide) rfl hl hdg kk
theorem G_dist_greatest (X : CX p s m args c cc own D cA) (h : WD D A s (wl ad cA σ) H locs) (hl : Cond.fieldLink own index "DungeonDesk$Distances" "greatest" "I" ∈ TB) (hdg : decode cc pc = .ok (.getfield index, 3)) (kk : W p l e R s m args below meth c H locs cells slots Q (F0 m (pc + 3) ls (.int (σ.1 8) :: rest))) : W p l e R s m args below meth c H locs cells slots Q (F0 m pc ls (.ref (ad 7) :: rest)) :=
  x_get X h 7 2 (T := F_Distances) (v := .int (σ.1 8)) rfl rfl i_Distances (by decide) rfl hl hdg kk
theorem P_dist_greatest {x : Int32} (X : CX p s m args c cc own D cA) (h : WD D A s (wl ad cA σ) H locs) (hl : Cond.fieldLink own index "DungeonDesk$Distances" "greatest" "I" ∈ TB) (hdg : decode cc pc = .ok (.putfield index, 3)) (kk : ∀ (H1 : Heap) (locs1 : List Loc) (σ2 : St), σ2 = sI σ 8 x → WD D A s (wl ad cA σ2) H1 locs1 → W p l e R s m args below meth c H1 locs1 cells slots Q (F0 m (pc + 3) ls rest)) : W p l e R s m args below meth c H locs cells slots Q (F0 m pc ls (.int x :: .ref (ad 7) :: rest)) :=
  x_put X h 7 2 (T := F_Distances) (v := .int x) (ty := .int) rfl rfl i_Distances (by decide) t_Distances t_Distances_ok n_Distances rfl (by decide +kernel) rfl rfl (Nat.le_of_ble_eq_true rfl) (ws' := wl ad cA (sI σ 8 x)) rfl hl hdg (fun H1 locs1 h1 => kk H1 locs1 _ rfl h1)
theorem G_hero_place (X : CX p s m args c cc own D cA) (h : WD D A s (wl ad cA σ) H locs) (hl : Cond.fieldLink own index "DungeonDesk$Hero" "place" "I" ∈ TB) (hdg : decode cc pc = .ok (.getfield index, 3)) (kk : W p l e R s m args below meth c H locs cells slots Q (F0 m (pc + 3) ls (.int (σ.1 9) :: rest))) : W p l e R s m args below meth c H locs cells slots Q (F0 m pc ls (.ref (ad 8) :: rest)) :=
  x_get X h 8 0 (T := F_Hero) (v := .int (σ.1 9)) rfl rfl i_Hero (by decide) rfl hl hdg kk
theorem P_hero_place {x : Int32} (X : CX p s m args c cc own D cA) (h : WD D A s (wl ad cA σ) H locs) (hl : Cond.fieldLink own index "DungeonDesk$Hero" "place" "I" ∈ TB) (hdg : decode cc pc = .ok (.putfield index, 3)) (kk : ∀ (H1 : Heap) (locs1 : List Loc) (σ2 : St), σ2 = sI σ 9 x → WD D A s (wl ad cA σ2) H1 locs1 → W p l e R s m args below meth c H1 locs1 cells slots Q (F0 m (pc + 3) ls rest)) : W p l e R s m args below meth c H locs cells slots Q (F0 m pc ls (.int x :: .ref (ad 8) :: rest)) :=
  x_put X h 8 0 (T := F_Hero) (v := .int x) (ty := .int) rfl rfl i_Hero (by decide) t_Hero t_Hero_ok n_Hero rfl (by decide +kernel) rfl rfl (Nat.le_of_ble_eq_true rfl) (ws' := wl ad cA (sI σ 9 x)) rfl hl hdg (fun H1 locs1 h1 => kk H1 locs1 _ rfl h1)
theorem G_hero_health (X : CX p s m args c cc own D cA) (h : WD D A s (wl ad cA σ) H locs) (hl : Cond.fieldLink own index "DungeonDesk$Hero" "health" "I" ∈ TB) (hdg : decode cc pc = .ok (.getfield index, 3)) (kk : W p l e R s m args below meth c H locs cells slots Q (F0 m (pc + 3) ls (.int (σ.1 10) :: rest))) : W p l e R s m args below meth c H locs cells slots Q (F0 m pc ls (.ref (ad 8) :: rest)) :=
  x_get X h 8 1 (T := F_Hero) (v := .int (σ.1 10)) rfl rfl i_Hero (by decide) rfl hl hdg kk
theorem P_hero_health {x : Int32} (X : CX p s m args c cc own D cA) (h : WD D A s (wl ad cA σ) H locs) (hl : Cond.fieldLink own index "DungeonDesk$Hero" "health" "I" ∈ TB) (hdg : decode cc pc = .ok (.putfield index, 3)) (kk : ∀ (H1 : Heap) (locs1 : List Loc) (σ2 : St), σ2 = sI σ 10 x → WD D A s (wl ad cA σ2) H1 locs1 → W p l e R s m args below meth c H1 locs1 cells slots Q (F0 m (pc + 3) ls rest)) : W p l e R s m args below meth c H locs cells slots Q (F0 m pc ls (.int x :: .ref (ad 8) :: rest)) :=
  x_put X h 8 1 (T := F_Hero) (v := .int x) (ty := .int) rfl rfl i_Hero (by decide) t_Hero t_Hero_ok n_Hero rfl (by decide +kernel) rfl rfl (Nat.le_of_ble_eq_true rfl) (ws' := wl ad cA (sI σ 10 x)) rfl hl hdg (fun H1 locs1 h1 => kk H1 locs1 _ rfl h1)
theorem G_hero_hit (X : CX p s m args c cc own D cA) (h : WD D A s (wl ad cA σ) H locs) (hl : Cond.fieldLink own index "DungeonDesk$Hero" "hit" "I" ∈ TB) (hdg : decode cc pc = .ok (.getfield index, 3)) (kk : W p l e R s m args below meth c H locs cells slots Q (F0 m (pc + 3) ls (.int (σ.1 11) :: rest))) : W p l e R s m args below meth c H locs cells slots Q (F0 m pc ls (.ref (ad 8) :: rest)) :=
  x_get X h 8 2 (T := F_Hero) (v := .int (σ.1 11)) rfl rfl i_Hero (by decide) rfl hl hdg kk
theorem P_hero_hit {x : Int32} (X : CX p s m args c cc own D cA) (h : WD D A s (wl ad cA σ) H locs) (hl : Cond.fieldLink own index "DungeonDesk$Hero" "hit" "I" ∈ TB) (hdg : decode cc pc = .ok (.putfield index, 3)) (kk : ∀ (H1 : Heap) (locs1 : List Loc) (σ2 : St), σ2 = sI σ 11 x → WD D A s (wl ad cA σ2) H1 locs1 → W p l e R s m args below meth c H1 locs1 cells slots Q (F0 m (pc + 3) ls rest)) : W p l e R s m args below meth c H locs cells slots Q (F0 m pc ls (.int x :: .ref (ad 8) :: rest)) :=
  x_put X h 8 2 (T := F_Hero) (v := .int x) (ty := .int) rfl rfl i_Hero (by decide) t_Hero t_Hero_ok n_Hero rfl (by decide +kernel) rfl rfl (Nat.le_of_ble_eq_true rfl) (ws' := wl ad cA (sI σ 11 x)) rfl hl hdg (fun H1 locs1 h1 => kk H1 locs1 _ rfl h1)
theorem G_hero_energy (X : CX p s m args c cc own D cA) (h : WD D A s (wl ad cA σ) H locs) (hl : Cond.fieldLink own index "DungeonDesk$Hero" "energy" "I" ∈ TB) (hdg : decode cc pc = .ok (.getfield index, 3)) (kk : W p l e R s m args below meth c H locs cells slots Q (F0 m (pc + 3) ls (.int (σ.1 12) :: rest))) : W p l e R s m args below meth c H locs cells slots Q (F0 m pc ls (.ref (ad 8) :: rest)) :=
  x_get X h 8 3 (T := F_Hero) (v := .int (σ.1 12)) rfl rfl i_Hero (by decide) rfl hl hdg kk
theorem P_hero_energy {x : Int32} (X : CX p s m args c cc own D cA) (h : WD D A s (wl ad cA σ) H locs) (hl : Cond.fieldLink own index "DungeonDesk$Hero" "energy" "I" ∈ TB) (hdg : decode cc pc = .ok (.putfield index, 3)) (kk : ∀ (H1 : Heap) (locs1 : List Loc) (σ2 : St), σ2 = sI σ 12 x → WD D A s (wl ad cA σ2) H1 locs1 → W p l e R s m args below meth c H1 locs1 cells slots Q (F0 m (pc + 3) ls rest)) : W p l e R s m args below meth c H locs cells slots Q (F0 m pc ls (.int x :: .ref (ad 8) :: rest)) :=
  x_put X h 8 3 (T := F_Hero) (v := .int x) (ty := .int) rfl rfl i_Hero (by decide) t_Hero t_Hero_ok n_Hero rfl (by decide +kernel) rfl rfl (Nat.le_of_ble_eq_true rfl) (ws' := wl ad cA (sI σ 12 x)) rfl hl hdg (fun H1 locs1 h1 => kk H1 locs1 _ rfl h1)
theorem G_hero_haste (X : CX p s m args c cc own D cA) (h : WD D A s (wl ad cA σ) H locs) (hl : Cond.fieldLink own index "DungeonDesk$Hero" "haste" "I" ∈ TB) (hdg : decode cc pc = .ok (.getfield index, 3)) (kk : W p l e R s m args below meth c H locs cells slots Q (F0 m (pc + 3) ls (.int (σ.1 13) :: rest))) : W p l e R s m args below meth c H locs cells slots Q (F0 m pc ls (.ref (ad 8) :: rest)) :=
  x_get X h 8 4 (T := F_Hero) (v := .int (σ.1 13)) rfl rfl i_Hero (by decide) rfl hl hdg kk
theorem P_hero_haste {x : Int32} (X : CX p s m args c cc own D cA) (h : WD D A s (wl ad cA σ) H locs) (hl : Cond.fieldLink own index "DungeonDesk$Hero" "haste" "I" ∈ TB) (hdg : decode cc pc = .ok (.putfield index, 3)) (kk : ∀ (H1 : Heap) (locs1 : List Loc) (σ2 : St), σ2 = sI σ 13 x → WD D A s (wl ad cA σ2) H1 locs1 → W p l e R s m args below meth c H1 locs1 cells slots Q (F0 m (pc + 3) ls rest)) : W p l e R s m args below meth c H locs cells slots Q (F0 m pc ls (.int x :: .ref (ad 8) :: rest)) :=
  x_put X h 8 4 (T := F_Hero) (v := .int x) (ty := .int) rfl rfl i_Hero (by decide) t_Hero t_Hero_ok n_Hero rfl (by decide +kernel) rfl rfl (Nat.le_of_ble_eq_true rfl) (ws' := wl ad cA (sI σ 13 x)) rfl hl hdg (fun H1 locs1 h1 => kk H1 locs1 _ rfl h1)
theorem G_hero_bag (X : CX p s m args c cc own D cA) (h : WD D A s (wl ad cA σ) H locs) (hl : Cond.fieldLink own index "DungeonDesk$Hero" "bag" "[I" ∈ TB) (hdg : decode cc pc = .ok (.getfield index, 3)) (kk : W p l e R s m args below meth c H locs cells slots Q (F0 m (pc + 3) ls (.ref (ad 24) :: rest))) : W p l e R s m args below meth c H locs cells slots Q (F0 m pc ls (.ref (ad 8) :: rest)) :=
  x_get X h 8 5 (T := F_Hero) (v := .ref (ad 24)) rfl rfl i_Hero (by decide) rfl hl hdg kk
theorem G_hero_bagSize (X : CX p s m args c cc own D cA) (h : WD D A s (wl ad cA σ) H locs) (hl : Cond.fieldLink own index "DungeonDesk$Hero" "bagSize" "I" ∈ TB) (hdg : decode cc pc = .ok (.getfield index, 3)) (kk : W p l e R s m args below meth c H locs cells slots Q (F0 m (pc + 3) ls (.int (σ.1 14) :: rest))) : W p l e R s m args below meth c H locs cells slots Q (F0 m pc ls (.ref (ad 8) :: rest)) :=
  x_get X h 8 6 (T := F_Hero) (v := .int (σ.1 14)) rfl rfl i_Hero (by decide) rfl hl hdg kk
theorem P_hero_bagSize {x : Int32} (X : CX p s m args c cc own D cA) (h : WD D A s (wl ad cA σ) H locs) (hl : Cond.fieldLink own index "DungeonDesk$Hero" "bagSize" "I" ∈ TB) (hdg : decode cc pc = .ok (.putfield index, 3)) (kk : ∀ (H1 : Heap) (locs1 : List Loc) (σ2 : St), σ2 = sI σ 14 x → WD D A s (wl ad cA σ2) H1 locs1 → W p l e R s m args below meth c H1 locs1 cells slots Q (F0 m (pc + 3) ls rest)) : W p l e R s m args below meth c H locs cells slots Q (F0 m pc ls (.int x :: .ref (ad 8) :: rest)) :=
  x_put X h 8 6 (T := F_Hero) (v := .int x) (ty := .int) rfl rfl i_Hero (by decide) t_Hero t_Hero_ok n_Hero rfl (by decide +kernel) rfl rfl (Nat.le_of_ble_eq_true rfl) (ws' := wl ad cA (sI σ 14 x)) rfl hl hdg (fun H1 locs1 h1 => kk H1 locs1 _ rfl h1)
theorem R_keys {i : Int32} (X : CX p s m args c cc own D cA) (h : WD D A s (wl ad cA σ) H locs) (hin : vp_in i 512) (hdg : decode cc pc = .ok (.iaload, 1)) (kk : W p l e R s m args below meth c H locs cells slots Q (F0 m (pc + 1) ls (.int (σ.2.2 0 i.toNatClampNeg) :: rest))) : W p l e R s m args below meth c H locs cells slots Q (F0 m pc ls (.int i :: .ref (ad 9) :: rest)) :=
  x_iald X h 9 rfl hin hdg kk
theorem S_keys {i x : Int32} (X : CX p s m args c cc own D cA) (h : WD D A s (wl ad cA σ) H locs) (hin : vp_in i 512) (hdg : decode cc pc = .ok (.iastore, 1)) (kk : ∀ (H1 : Heap) (locs1 : List Loc) (σ2 : St), σ2 = sA σ 0 i.toNatClampNeg x → WD D A s (wl ad cA σ2) H1 locs1 → W p l e R s m args below meth c H1 locs1 cells slots Q (F0 m (pc + 1) ls rest)) : W p l e R s m args below meth c H locs cells slots Q (F0 m pc ls (.int x :: .int i :: .ref (ad 9) :: rest)) :=
  x_iast X h 9 (ws' := wl ad cA (sA σ 0 i.toNatClampNeg x)) rfl hin rfl hdg (fun H1 locs1 h1 => kk H1 locs1 _ rfl h1)
theorem N_keys (X : CX p s m args c cc own D cA) (h : WD D A s (wl ad cA σ) H locs) (hdg : decode cc pc = .ok (.arraylength, 1)) (kk : W p l e R s m args below meth c H locs cells slots Q (F0 m (pc + 1) ls (.int 512 :: rest))) : W p l e R s m args below meth c H locs cells slots Q (F0 m pc ls (.ref (ad 9) :: rest)) :=
  x_alen X h 9 rfl rfl hdg kk
theorem R_ground {i : Int32} (X : CX p s m args c cc own D cA) (h : WD D A s (wl ad cA σ) H locs) (hin : vp_in i 120) (hdg : decode cc pc = .ok (.iaload, 1)) (kk : W p l e R s m args below meth c H locs cells slots Q (F0 m (pc + 1) ls (.int (σ.2.2 1 i.toNatClampNeg) :: rest))) : W p l e R s m args below meth c H locs cells slots Q (F0 m pc ls (.int i :: .ref (ad 10) :: rest)) :=
  x_iald X h 10 rfl hin hdg kk
theorem S_ground {i x : Int32} (X : CX p s m args c cc own D cA) (h : WD D A s (wl ad cA σ) H locs) (hin : vp_in i 120) (hdg : decode cc pc = .ok (.iastore, 1)) (kk : ∀ (H1 : Heap) (locs1 : List Loc) (σ2 : St), σ2 = sA σ 1 i.toNatClampNeg x → WD D A s (wl ad cA σ2) H1 locs1 → W p l e R s m args below meth c H1 locs1 cells slots Q (F0 m (pc + 1) ls rest)) : W p l e R s m args below meth c H locs cells slots Q (F0 m pc ls (.int x :: .int i :: .ref (ad 10) :: rest)) :=
  x_iast X h 10 (ws' := wl ad cA (sA σ 1 i.toNatClampNeg x)) rfl hin rfl hdg (fun H1 locs1 h1 => kk H1 locs1 _ rfl h1)
theorem N_ground (X : CX p s m args c cc own D cA) (h : WD D A s (wl ad cA σ) H locs) (hdg : decode cc pc = .ok (.arraylength, 1)) (kk : W p l e R s m args below meth c H locs cells slots Q (F0 m (pc + 1) ls (.int 120 :: rest))) : W p l e R s m args below meth c H locs cells slots Q (F0 m pc ls (.ref (ad 10) :: rest)) :=
  x_alen X h 10 rfl rfl hdg kk
theorem R_things {i : Int32} (X : CX p s m args c cc own D cA) (h : WD D A s (wl ad cA σ) H locs) (hin : vp_in i 120) (hdg : decode cc pc = .ok (.iaload, 1)) (kk : W p l e R s m args below meth c H locs cells slots Q (F0 m (pc + 1) ls (.int (σ.2.2 2 i.toNatClampNeg) :: rest))) : W p l e R s m args below meth c H locs cells slots Q (F0 m pc ls (.int i :: .ref (ad 11) :: rest)) :=
  x_iald X h 11 rfl hin hdg kk
theorem S_things {i x : Int32} (X : CX p s m args c cc own D cA) (h : WD D A s (wl ad cA σ) H locs) (hin : vp_in i 120) (hdg : decode cc pc = .ok (.iastore, 1)) (kk : ∀ (H1 : Heap) (locs1 : List Loc) (σ2 : St), σ2 = sA σ 2 i.toNatClampNeg x → WD D A s (wl ad cA σ2) H1 locs1 → W p l e R s m args below meth c H1 locs1 cells slots Q (F0 m (pc + 1) ls rest)) : W p l e R s m args below meth c H locs cells slots Q (F0 m pc ls (.int x :: .int i :: .ref (ad 11) :: rest)) :=
  x_iast X h 11 (ws' := wl ad cA (sA σ 2 i.toNatClampNeg x)) rfl hin rfl hdg (fun H1 locs1 h1 => kk H1 locs1 _ rfl h1)
theorem N_things (X : CX p s m args c cc own D cA) (h : WD D A s (wl ad cA σ) H locs) (hdg : decode cc pc = .ok (.arraylength, 1)) (kk : W p l e R s m args below meth c H locs cells slots Q (F0 m (pc + 1) ls (.int 120 :: rest))) : W p l e R s m args below meth c H locs cells slots Q (F0 m pc ls (.ref (ad 11) :: rest)) :=
  x_alen X h 11 rfl rfl hdg kk
theorem R_known {i : Int32} (X : CX p s m args c cc own D cA) (h : WD D A s (wl ad cA σ) H locs) (hin : vp_in i 120) (hdg : decode cc pc = .ok (.iaload, 1)) (kk : W p l e R s m args below meth c H locs cells slots Q (F0 m (pc + 1) ls (.int (σ.2.2 3 i.toNatClampNeg) :: rest))) : W p l e R s m args below meth c H locs cells slots Q (F0 m pc ls (.int i :: .ref (ad 12) :: rest)) :=
  x_iald X h 12 rfl hin hdg kk
theorem S_known {i x : Int32} (X : CX p s m args c cc own D cA) (h : WD D A s (wl ad cA σ) H locs) (hin : vp_in i 120) (hdg : decode cc pc = .ok (.iastore, 1)) (kk : ∀ (H1 : Heap) (locs1 : List Loc) (σ2 : St), σ2 = sA σ 3 i.toNatClampNeg x → WD D A s (wl ad cA σ2) H1 locs1 → W p l e R s m args below meth c H1 locs1 cells slots Q (F0 m (pc + 1) ls rest)) : W p l e R s m args below meth c H locs cells slots Q (F0 m pc ls (.int x :: .int i :: .ref (ad 12) :: rest)) :=
  x_iast X h 12 (ws' := wl ad cA (sA σ 3 i.toNatClampNeg x)) rfl hin rfl hdg (fun H1 locs1 h1 => kk H1 locs1 _ rfl h1)
theorem N_known (X : CX p s m args c cc own D cA) (h : WD D A s (wl ad cA σ) H locs) (hdg : decode cc pc = .ok (.arraylength, 1)) (kk : W p l e R s m args below meth c H locs cells slots Q (F0 m (pc + 1) ls (.int 120 :: rest))) : W p l e R s m args below meth c H locs cells slots Q (F0 m pc ls (.ref (ad 12) :: rest)) :=
  x_alen X h 12 rfl rfl hdg kk
theorem R_kind {i : Int32} (X : CX p s m args c cc own D cA) (h : WD D A s (wl ad cA σ) H locs) (hin : vp_in i 5) (hdg : decode cc pc = .ok (.iaload, 1)) (kk : W p l e R s m args below meth c H locs cells slots Q (F0 m (pc + 1) ls (.int (σ.2.2 4 i.toNatClampNeg) :: rest))) : W p l e R s m args below meth c H locs cells slots Q (F0 m pc ls (.int i :: .ref (ad 13) :: rest)) :=
  x_iald X h 13 rfl hin hdg kk
theorem S_kind {i x : Int32} (X : CX p s m args c cc own D cA) (h : WD D A s (wl ad cA σ) H locs) (hin : vp_in i 5) (hdg : decode cc pc = .ok (.iastore, 1)) (kk : ∀ (H1 : Heap) (locs1 : List Loc) (σ2 : St), σ2 = sA σ 4 i.toNatClampNeg x → WD D A s (wl ad cA σ2) H1 locs1 → W p l e R s m args below meth c H1 locs1 cells slots Q (F0 m (pc + 1) ls rest)) : W p l e R s m args below meth c H locs cells slots Q (F0 m pc ls (.int x :: .int i :: .ref (ad 13) :: rest)) :=
  x_iast X h 13 (ws' := wl ad cA (sA σ 4 i.toNatClampNeg x)) rfl hin rfl hdg (fun H1 locs1 h1 => kk H1 locs1 _ rfl h1)
theorem N_kind (X : CX p s m args c cc own D cA) (h : WD D A s (wl ad cA σ) H locs) (hdg : decode cc pc = .ok (.arraylength, 1)) (kk : W p l e R s m args below meth c H locs cells slots Q (F0 m (pc + 1) ls (.int 5 :: rest))) : W p l e R s m args below meth c H locs cells slots Q (F0 m pc ls (.ref (ad 13) :: rest)) :=
  x_alen X h 13 rfl rfl hdg kk
theorem R_place {i : Int32} (X : CX p s m args c cc own D cA) (h : WD D A s (wl ad cA σ) H locs) (hin : vp_in i 5) (hdg : decode cc pc = .ok (.iaload, 1)) (kk : W p l e R s m args below meth c H locs cells slots Q (F0 m (pc + 1) ls (.int (σ.2.2 5 i.toNatClampNeg) :: rest))) : W p l e R s m args below meth c H locs cells slots Q (F0 m pc ls (.int i :: .ref (ad 14) :: rest)) :=
  x_iald X h 14 rfl hin hdg kk
theorem S_place {i x : Int32} (X : CX p s m args c cc own D cA) (h : WD D A s (wl ad cA σ) H locs) (hin : vp_in i 5) (hdg : decode cc pc = .ok (.iastore, 1)) (kk : ∀ (H1 : Heap) (locs1 : List Loc) (σ2 : St), σ2 = sA σ 5 i.toNatClampNeg x → WD D A s (wl ad cA σ2) H1 locs1 → W p l e R s m args below meth c H1 locs1 cells slots Q (F0 m (pc + 1) ls rest)) : W p l e R s m args below meth c H locs cells slots Q (F0 m pc ls (.int x :: .int i :: .ref (ad 14) :: rest)) :=
  x_iast X h 14 (ws' := wl ad cA (sA σ 5 i.toNatClampNeg x)) rfl hin rfl hdg (fun H1 locs1 h1 => kk H1 locs1 _ rfl h1)
theorem N_place (X : CX p s m args c cc own D cA) (h : WD D A s (wl ad cA σ) H locs) (hdg : decode cc pc = .ok (.arraylength, 1)) (kk : W p l e R s m args below meth c H locs cells slots Q (F0 m (pc + 1) ls (.int 5 :: rest))) : W p l e R s m args below meth c H locs cells slots Q (F0 m pc ls (.ref (ad 14) :: rest)) :=
  x_alen X h 14 rfl rfl hdg kk
theorem R_health {i : Int32} (X : CX p s m args c cc own D cA) (h : WD D A s (wl ad cA σ) H locs) (hin : vp_in i 5) (hdg : decode cc pc = .ok (.iaload, 1)) (kk : W p l e R s m args below meth c H locs cells slots Q (F0 m (pc + 1) ls (.int (σ.2.2 6 i.toNatClampNeg) :: rest))) : W p l e R s m args below meth c H locs cells slots Q (F0 m pc ls (.int i :: .ref (ad 15) :: rest)) :=
  x_iald X h 15 rfl hin hdg kk
theorem S_health {i x : Int32} (X : CX p s m args c cc own D cA) (h : WD D A s (wl ad cA σ) H locs) (hin : vp_in i 5) (hdg : decode cc pc = .ok (.iastore, 1)) (kk : ∀ (H1 : Heap) (locs1 : List Loc) (σ2 : St), σ2 = sA σ 6 i.toNatClampNeg x → WD D A s (wl ad cA σ2) H1 locs1 → W p l e R s m args below meth c H1 locs1 cells slots Q (F0 m (pc + 1) ls rest)) : W p l e R s m args below meth c H locs cells slots Q (F0 m pc ls (.int x :: .int i :: .ref (ad 15) :: rest)) :=
  x_iast X h 15 (ws' := wl ad cA (sA σ 6 i.toNatClampNeg x)) rfl hin rfl hdg (fun H1 locs1 h1 => kk H1 locs1 _ rfl h1)
theorem N_health (X : CX p s m args c cc own D cA) (h : WD D A s (wl ad cA σ) H locs) (hdg : decode cc pc = .ok (.arraylength, 1)) (kk : W p l e R s m args below meth c H locs cells slots Q (F0 m (pc + 1) ls (.int 5 :: rest))) : W p l e R s m args below meth c H locs cells slots Q (F0 m pc ls (.ref (ad 15) :: rest)) :=
  x_alen X h 15 rfl rfl hdg kk
theorem R_energy {i : Int32} (X : CX p s m args c cc own D cA) (h : WD D A s (wl ad cA σ) H locs) (hin : vp_in i 5) (hdg : decode cc pc = .ok (.iaload, 1)) (kk : W p l e R s m args below meth c H locs cells slots Q (F0 m (pc + 1) ls (.int (σ.2.2 7 i.toNatClampNeg) :: rest))) : W p l e R s m args below meth c H locs cells slots Q (F0 m pc ls (.int i :: .ref (ad 16) :: rest)) :=
  x_iald X h 16 rfl hin hdg kk
theorem S_energy {i x : Int32} (X : CX p s m args c cc own D cA) (h : WD D A s (wl ad cA σ) H locs) (hin : vp_in i 5) (hdg : decode cc pc = .ok (.iastore, 1)) (kk : ∀ (H1 : Heap) (locs1 : List Loc) (σ2 : St), σ2 = sA σ 7 i.toNatClampNeg x → WD D A s (wl ad cA σ2) H1 locs1 → W p l e R s m args below meth c H1 locs1 cells slots Q (F0 m (pc + 1) ls rest)) : W p l e R s m args below meth c H locs cells slots Q (F0 m pc ls (.int x :: .int i :: .ref (ad 16) :: rest)) :=
  x_iast X h 16 (ws' := wl ad cA (sA σ 7 i.toNatClampNeg x)) rfl hin rfl hdg (fun H1 locs1 h1 => kk H1 locs1 _ rfl h1)
theorem N_energy (X : CX p s m args c cc own D cA) (h : WD D A s (wl ad cA σ) H locs) (hdg : decode cc pc = .ok (.arraylength, 1)) (kk : W p l e R s m args below meth c H locs cells slots Q (F0 m (pc + 1) ls (.int 5 :: rest))) : W p l e R s m args below meth c H locs cells slots Q (F0 m pc ls (.ref (ad 16) :: rest)) :=
  x_alen X h 16 rfl rfl hdg kk
theorem R_awake {i : Int32} (X : CX p s m args c cc own D cA) (h : WD D A s (wl ad cA σ) H locs) (hin : vp_in i 5) (hdg : decode cc pc = .ok (.iaload, 1)) (kk : W p l e R s m args below meth c H locs cells slots Q (F0 m (pc + 1) ls (.int (σ.2.2 8 i.toNatClampNeg) :: rest))) : W p l e R s m args below meth c H locs cells slots Q (F0 m pc ls (.int i :: .ref (ad 17) :: rest)) :=
  x_iald X h 17 rfl hin hdg kk
theorem S_awake {i x : Int32} (X : CX p s m args c cc own D cA) (h : WD D A s (wl ad cA σ) H locs) (hin : vp_in i 5) (hdg : decode cc pc = .ok (.iastore, 1)) (kk : ∀ (H1 : Heap) (locs1 : List Loc) (σ2 : St), σ2 = sA σ 8 i.toNatClampNeg x → WD D A s (wl ad cA σ2) H1 locs1 → W p l e R s m args below meth c H1 locs1 cells slots Q (F0 m (pc + 1) ls rest)) : W p l e R s m args below meth c H locs cells slots Q (F0 m pc ls (.int x :: .int i :: .ref (ad 17) :: rest)) :=
  x_iast X h 17 (ws' := wl ad cA (sA σ 8 i.toNatClampNeg x)) rfl hin rfl hdg (fun H1 locs1 h1 => kk H1 locs1 _ rfl h1)
theorem N_awake (X : CX p s m args c cc own D cA) (h : WD D A s (wl ad cA σ) H locs) (hdg : decode cc pc = .ok (.arraylength, 1)) (kk : W p l e R s m args below meth c H locs cells slots Q (F0 m (pc + 1) ls (.int 5 :: rest))) : W p l e R s m args below meth c H locs cells slots Q (F0 m pc ls (.ref (ad 17) :: rest)) :=
  x_alen X h 17 rfl rfl hdg kk
theorem R_left {i : Int32} (X : CX p s m args c cc own D cA) (h : WD D A s (wl ad cA σ) H locs) (hin : vp_in i 4) (hdg : decode cc pc = .ok (.iaload, 1)) (kk : W p l e R s m args below meth c H locs cells slots Q (F0 m (pc + 1) ls (.int (σ.2.2 9 i.toNatClampNeg) :: rest))) : W p l e R s m args below meth c H locs cells slots Q (F0 m pc ls (.int i :: .ref (ad 18) :: rest)) :=
  x_iald X h 18 rfl hin hdg kk
theorem S_left {i x : Int32} (X : CX p s m args c cc own D cA) (h : WD D A s (wl ad cA σ) H locs) (hin : vp_in i 4) (hdg : decode cc pc = .ok (.iastore, 1)) (kk : ∀ (H1 : Heap) (locs1 : List Loc) (σ2 : St), σ2 = sA σ 9 i.toNatClampNeg x → WD D A s (wl ad cA σ2) H1 locs1 → W p l e R s m args below meth c H1 locs1 cells slots Q (F0 m (pc + 1) ls rest)) : W p l e R s m args below meth c H locs cells slots Q (F0 m pc ls (.int x :: .int i :: .ref (ad 18) :: rest)) :=
  x_iast X h 18 (ws' := wl ad cA (sA σ 9 i.toNatClampNeg x)) rfl hin rfl hdg (fun H1 locs1 h1 => kk H1 locs1 _ rfl h1)
theorem N_left (X : CX p s m args c cc own D cA) (h : WD D A s (wl ad cA σ) H locs) (hdg : decode cc pc = .ok (.arraylength, 1)) (kk : W p l e R s m args below meth c H locs cells slots Q (F0 m (pc + 1) ls (.int 4 :: rest))) : W p l e R s m args below meth c H locs cells slots Q (F0 m pc ls (.ref (ad 18) :: rest)) :=
  x_alen X h 18 rfl rfl hdg kk
theorem R_top {i : Int32} (X : CX p s m args c cc own D cA) (h : WD D A s (wl ad cA σ) H locs) (hin : vp_in i 4) (hdg : decode cc pc = .ok (.iaload, 1)) (kk : W p l e R s m args below meth c H locs cells slots Q (F0 m (pc + 1) ls (.int (σ.2.2 10 i.toNatClampNeg) :: rest))) : W p l e R s m args below meth c H locs cells slots Q (F0 m pc ls (.int i :: .ref (ad 19) :: rest)) :=
  x_iald X h 19 rfl hin hdg kk
theorem S_top {i x : Int32} (X : CX p s m args c cc own D cA) (h : WD D A s (wl ad cA σ) H locs) (hin : vp_in i 4) (hdg : decode cc pc = .ok (.iastore, 1)) (kk : ∀ (H1 : Heap) (locs1 : List Loc) (σ2 : St), σ2 = sA σ 10 i.toNatClampNeg x → WD D A s (wl ad cA σ2) H1 locs1 → W p l e R s m args below meth c H1 locs1 cells slots Q (F0 m (pc + 1) ls rest)) : W p l e R s m args below meth c H locs cells slots Q (F0 m pc ls (.int x :: .int i :: .ref (ad 19) :: rest)) :=
  x_iast X h 19 (ws' := wl ad cA (sA σ 10 i.toNatClampNeg x)) rfl hin rfl hdg (fun H1 locs1 h1 => kk H1 locs1 _ rfl h1)
theorem N_top (X : CX p s m args c cc own D cA) (h : WD D A s (wl ad cA σ) H locs) (hdg : decode cc pc = .ok (.arraylength, 1)) (kk : W p l e R s m args below meth c H locs cells slots Q (F0 m (pc + 1) ls (.int 4 :: rest))) : W p l e R s m args below meth c H locs cells slots Q (F0 m pc ls (.ref (ad 19) :: rest)) :=
  x_alen X h 19 rfl rfl hdg kk
theorem R_width {i : Int32} (X : CX p s m args c cc own D cA) (h : WD D A s (wl ad cA σ) H locs) (hin : vp_in i 4) (hdg : decode cc pc = .ok (.iaload, 1)) (kk : W p l e R s m args below meth c H locs cells slots Q (F0 m (pc + 1) ls (.int (σ.2.2 11 i.toNatClampNeg) :: rest))) : W p l e R s m args below meth c H locs cells slots Q (F0 m pc ls (.int i :: .ref (ad 20) :: rest)) :=
  x_iald X h 20 rfl hin hdg kk
theorem S_width {i x : Int32} (X : CX p s m args c cc own D cA) (h : WD D A s (wl ad cA σ) H locs) (hin : vp_in i 4) (hdg : decode cc pc = .ok (.iastore, 1)) (kk : ∀ (H1 : Heap) (locs1 : List Loc) (σ2 : St), σ2 = sA σ 11 i.toNatClampNeg x → WD D A s (wl ad cA σ2) H1 locs1 → W p l e R s m args below meth c H1 locs1 cells slots Q (F0 m (pc + 1) ls rest)) : W p l e R s m args below meth c H locs cells slots Q (F0 m pc ls (.int x :: .int i :: .ref (ad 20) :: rest)) :=
  x_iast X h 20 (ws' := wl ad cA (sA σ 11 i.toNatClampNeg x)) rfl hin rfl hdg (fun H1 locs1 h1 => kk H1 locs1 _ rfl h1)
theorem N_width (X : CX p s m args c cc own D cA) (h : WD D A s (wl ad cA σ) H locs) (hdg : decode cc pc = .ok (.arraylength, 1)) (kk : W p l e R s m args below meth c H locs cells slots Q (F0 m (pc + 1) ls (.int 4 :: rest))) : W p l e R s m args below meth c H locs cells slots Q (F0 m pc ls (.ref (ad 20) :: rest)) :=
  x_alen X h 20 rfl rfl hdg kk
theorem R_height {i : Int32} (X : CX p s m args c cc own D cA) (h : WD D A s (wl ad cA σ) H locs) (hin : vp_in i 4) (hdg : decode cc pc = .ok (.iaload, 1)) (kk : W p l e R s m args below meth c H locs cells slots Q (F0 m (pc + 1) ls (.int (σ.2.2 12 i.toNatClampNeg) :: rest))) : W p l e R s m args below meth c H locs cells slots Q (F0 m pc ls (.int i :: .ref (ad 21) :: rest)) :=
  x_iald X h 21 rfl hin hdg kk
theorem S_height {i x : Int32} (X : CX p s m args c cc own D cA) (h : WD D A s (wl ad cA σ) H locs) (hin : vp_in i 4) (hdg : decode cc pc = .ok (.iastore, 1)) (kk : ∀ (H1 : Heap) (locs1 : List Loc) (σ2 : St), σ2 = sA σ 12 i.toNatClampNeg x → WD D A s (wl ad cA σ2) H1 locs1 → W p l e R s m args below meth c H1 locs1 cells slots Q (F0 m (pc + 1) ls rest)) : W p l e R s m args below meth c H locs cells slots Q (F0 m pc ls (.int x :: .int i :: .ref (ad 21) :: rest)) :=
  x_iast X h 21 (ws' := wl ad cA (sA σ 12 i.toNatClampNeg x)) rfl hin rfl hdg (fun H1 locs1 h1 => kk H1 locs1 _ rfl h1)
theorem N_height (X : CX p s m args c cc own D cA) (h : WD D A s (wl ad cA σ) H locs) (hdg : decode cc pc = .ok (.arraylength, 1)) (kk : W p l e R s m args below meth c H locs cells slots Q (F0 m (pc + 1) ls (.int 4 :: rest))) : W p l e R s m args below meth c H locs cells slots Q (F0 m pc ls (.ref (ad 21) :: rest)) :=
  x_alen X h 21 rfl rfl hdg kk
theorem R_steps {i : Int32} (X : CX p s m args c cc own D cA) (h : WD D A s (wl ad cA σ) H locs) (hin : vp_in i 120) (hdg : decode cc pc = .ok (.iaload, 1)) (kk : W p l e R s m args below meth c H locs cells slots Q (F0 m (pc + 1) ls (.int (σ.2.2 13 i.toNatClampNeg) :: rest))) : W p l e R s m args below meth c H locs cells slots Q (F0 m pc ls (.int i :: .ref (ad 22) :: rest)) :=
  x_iald X h 22 rfl hin hdg kk
theorem S_steps {i x : Int32} (X : CX p s m args c cc own D cA) (h : WD D A s (wl ad cA σ) H locs) (hin : vp_in i 120) (hdg : decode cc pc = .ok (.iastore, 1)) (kk : ∀ (H1 : Heap) (locs1 : List Loc) (σ2 : St), σ2 = sA σ 13 i.toNatClampNeg x → WD D A s (wl ad cA σ2) H1 locs1 → W p l e R s m args below meth c H1 locs1 cells slots Q (F0 m (pc + 1) ls rest)) : W p l e R s m args below meth c H locs cells slots Q (F0 m pc ls (.int x :: .int i :: .ref (ad 22) :: rest)) :=
  x_iast X h 22 (ws' := wl ad cA (sA σ 13 i.toNatClampNeg x)) rfl hin rfl hdg (fun H1 locs1 h1 => kk H1 locs1 _ rfl h1)
theorem N_steps (X : CX p s m args c cc own D cA) (h : WD D A s (wl ad cA σ) H locs) (hdg : decode cc pc = .ok (.arraylength, 1)) (kk : W p l e R s m args below meth c H locs cells slots Q (F0 m (pc + 1) ls (.int 120 :: rest))) : W p l e R s m args below meth c H locs cells slots Q (F0 m pc ls (.ref (ad 22) :: rest)) :=
  x_alen X h 22 rfl rfl hdg kk
theorem R_queue {i : Int32} (X : CX p s m args c cc own D cA) (h : WD D A s (wl ad cA σ) H locs) (hin : vp_in i 120) (hdg : decode cc pc = .ok (.iaload, 1)) (kk : W p l e R s m args below meth c H locs cells slots Q (F0 m (pc + 1) ls (.int (σ.2.2 14 i.toNatClampNeg) :: rest))) : W p l e R s m args below meth c H locs cells slots Q (F0 m pc ls (.int i :: .ref (ad 23) :: rest)) :=
  x_iald X h 23 rfl hin hdg kk
theorem S_queue {i x : Int32} (X : CX p s m args c cc own D cA) (h : WD D A s (wl ad cA σ) H locs) (hin : vp_in i 120) (hdg : decode cc pc = .ok (.iastore, 1)) (kk : ∀ (H1 : Heap) (locs1 : List Loc) (σ2 : St), σ2 = sA σ 14 i.toNatClampNeg x → WD D A s (wl ad cA σ2) H1 locs1 → W p l e R s m args below meth c H1 locs1 cells slots Q (F0 m (pc + 1) ls rest)) : W p l e R s m args below meth c H locs cells slots Q (F0 m pc ls (.int x :: .int i :: .ref (ad 23) :: rest)) :=
  x_iast X h 23 (ws' := wl ad cA (sA σ 14 i.toNatClampNeg x)) rfl hin rfl hdg (fun H1 locs1 h1 => kk H1 locs1 _ rfl h1)
theorem N_queue (X : CX p s m args c cc own D cA) (h : WD D A s (wl ad cA σ) H locs) (hdg : decode cc pc = .ok (.arraylength, 1)) (kk : W p l e R s m args below meth c H locs cells slots Q (F0 m (pc + 1) ls (.int 120 :: rest))) : W p l e R s m args below meth c H locs cells slots Q (F0 m pc ls (.ref (ad 23) :: rest)) :=
  x_alen X h 23 rfl rfl hdg kk
theorem R_bag {i : Int32} (X : CX p s m args c cc own D cA) (h : WD D A s (wl ad cA σ) H locs) (hin : vp_in i 4) (hdg : decode cc pc = .ok (.iaload, 1)) (kk : W p l e R s m args below meth c H locs cells slots Q (F0 m (pc + 1) ls (.int (σ.2.2 15 i.toNatClampNeg) :: rest))) : W p l e R s m args below meth c H locs cells slots Q (F0 m pc ls (.int i :: .ref (ad 24) :: rest)) :=
  x_iald X h 24 rfl hin hdg kk
theorem S_bag {i x : Int32} (X : CX p s m args c cc own D cA) (h : WD D A s (wl ad cA σ) H locs) (hin : vp_in i 4) (hdg : decode cc pc = .ok (.iastore, 1)) (kk : ∀ (H1 : Heap) (locs1 : List Loc) (σ2 : St), σ2 = sA σ 15 i.toNatClampNeg x → WD D A s (wl ad cA σ2) H1 locs1 → W p l e R s m args below meth c H1 locs1 cells slots Q (F0 m (pc + 1) ls rest)) : W p l e R s m args below meth c H locs cells slots Q (F0 m pc ls (.int x :: .int i :: .ref (ad 24) :: rest)) :=
  x_iast X h 24 (ws' := wl ad cA (sA σ 15 i.toNatClampNeg x)) rfl hin rfl hdg (fun H1 locs1 h1 => kk H1 locs1 _ rfl h1)
theorem N_bag (X : CX p s m args c cc own D cA) (h : WD D A s (wl ad cA σ) H locs) (hdg : decode cc pc = .ok (.arraylength, 1)) (kk : W p l e R s m args below meth c H locs cells slots Q (F0 m (pc + 1) ls (.int 4 :: rest))) : W p l e R s m args below meth c H locs cells slots Q (F0 m pc ls (.ref (ad 24) :: rest)) :=
  x_alen X h 24 rfl rfl hdg kk
theorem Z_STEPS (X : CX p s m args c cc own D cA) (hZ : SZ stb tz A s s.heap) (h : WD D A s (wl ad cA σ) H locs) (hl : Cond.fieldLink own index "DungeonDesk$Level" "STEPS" "[I" ∈ TB) (hdg : decode cc pc = .ok (.getstatic index, 3)) (kk : W p l e R s m args below meth c H locs cells slots Q (F0 m (pc + 3) ls (.ref (tz 0) :: rest))) : W p l e R s m args below meth c H locs cells slots Q (F0 m pc ls rest) :=
  x_gets X hZ h 0 (q := ("DungeonDesk$Level", "STEPS", 4, tb_STEPS)) rfl hl hdg kk
theorem U_STEPS {i : Int32} (X : CX p s m args c cc own D cA) (hZ : SZ stb tz A s s.heap) (h : WD D A s (wl ad cA σ) H locs) (hin : vp_in i 4) (hdg : decode cc pc = .ok (.iaload, 1)) (kk : W p l e R s m args below meth c H locs cells slots Q (F0 m (pc + 1) ls (.int (tb_STEPS i.toNatClampNeg) :: rest))) : W p l e R s m args below meth c H locs cells slots Q (F0 m pc ls (.int i :: .ref (tz 0) :: rest)) :=
  x_ti X hZ h 0 (q := ("DungeonDesk$Level", "STEPS", 4, tb_STEPS)) rfl hin hdg kk
theorem V_STEPS (X : CX p s m args c cc own D cA) (hZ : SZ stb tz A s s.heap) (h : WD D A s (wl ad cA σ) H locs) (hdg : decode cc pc = .ok (.arraylength, 1)) (kk : W p l e R s m args below meth c H locs cells slots Q (F0 m (pc + 1) ls (.int 4 :: rest))) : W p l e R s m args below meth c H locs cells slots Q (F0 m pc ls (.ref (tz 0) :: rest)) :=
  x_tlen X hZ h 0 (q := ("DungeonDesk$Level", "STEPS", 4, tb_STEPS)) rfl rfl hdg kk
theorem Z_HEALTH_OF (X : CX p s m args c cc own D cA) (hZ : SZ stb tz A s s.heap) (h : WD D A s (wl ad cA σ) H locs) (hl : Cond.fieldLink own index "DungeonDesk$Monsters" "HEALTH_OF" "[I" ∈ TB) (hdg : decode cc pc = .ok (.getstatic index, 3)) (kk : W p l e R s m args below meth c H locs cells slots Q (F0 m (pc + 3) ls (.ref (tz 1) :: rest))) : W p l e R s m args below meth c H locs cells slots Q (F0 m pc ls rest) :=
  x_gets X hZ h 1 (q := ("DungeonDesk$Monsters", "HEALTH_OF", 3, tb_HEALTH_OF)) rfl hl hdg kk
theorem U_HEALTH_OF {i : Int32} (X : CX p s m args c cc own D cA) (hZ : SZ stb tz A s s.heap) (h : WD D A s (wl ad cA σ) H locs) (hin : vp_in i 3) (hdg : decode cc pc = .ok (.iaload, 1)) (kk : W p l e R s m args below meth c H locs cells slots Q (F0 m (pc + 1) ls (.int (tb_HEALTH_OF i.toNatClampNeg) :: rest))) : W p l e R s m args below meth c H locs cells slots Q (F0 m pc ls (.int i :: .ref (tz 1) :: rest)) :=
  x_ti X hZ h 1 (q := ("DungeonDesk$Monsters", "HEALTH_OF", 3, tb_HEALTH_OF)) rfl hin hdg kk
theorem V_HEALTH_OF (X : CX p s m args c cc own D cA) (hZ : SZ stb tz A s s.heap) (h : WD D A s (wl ad cA σ) H locs) (hdg : decode cc pc = .ok (.arraylength, 1)) (kk : W p l e R s m args below meth c H locs cells slots Q (F0 m (pc + 1) ls (.int 3 :: rest))) : W p l e R s m args below meth c H locs cells slots Q (F0 m pc ls (.ref (tz 1) :: rest)) :=
  x_tlen X hZ h 1 (q := ("DungeonDesk$Monsters", "HEALTH_OF", 3, tb_HEALTH_OF)) rfl rfl hdg kk
theorem Z_SPEED_OF (X : CX p s m args c cc own D cA) (hZ : SZ stb tz A s s.heap) (h : WD D A s (wl ad cA σ) H locs) (hl : Cond.fieldLink own index "DungeonDesk$Monsters" "SPEED_OF" "[I" ∈ TB) (hdg : decode cc pc = .ok (.getstatic index, 3)) (kk : W p l e R s m args below meth c H locs cells slots Q (F0 m (pc + 3) ls (.ref (tz 2) :: rest))) : W p l e R s m args below meth c H locs cells slots Q (F0 m pc ls rest) :=
  x_gets X hZ h 2 (q := ("DungeonDesk$Monsters", "SPEED_OF", 3, tb_SPEED_OF)) rfl hl hdg kk
theorem U_SPEED_OF {i : Int32} (X : CX p s m args c cc own D cA) (hZ : SZ stb tz A s s.heap) (h : WD D A s (wl ad cA σ) H locs) (hin : vp_in i 3) (hdg : decode cc pc = .ok (.iaload, 1)) (kk : W p l e R s m args below meth c H locs cells slots Q (F0 m (pc + 1) ls (.int (tb_SPEED_OF i.toNatClampNeg) :: rest))) : W p l e R s m args below meth c H locs cells slots Q (F0 m pc ls (.int i :: .ref (tz 2) :: rest)) :=
  x_ti X hZ h 2 (q := ("DungeonDesk$Monsters", "SPEED_OF", 3, tb_SPEED_OF)) rfl hin hdg kk
theorem V_SPEED_OF (X : CX p s m args c cc own D cA) (hZ : SZ stb tz A s s.heap) (h : WD D A s (wl ad cA σ) H locs) (hdg : decode cc pc = .ok (.arraylength, 1)) (kk : W p l e R s m args below meth c H locs cells slots Q (F0 m (pc + 1) ls (.int 3 :: rest))) : W p l e R s m args below meth c H locs cells slots Q (F0 m pc ls (.ref (tz 2) :: rest)) :=
  x_tlen X hZ h 2 (q := ("DungeonDesk$Monsters", "SPEED_OF", 3, tb_SPEED_OF)) rfl rfl hdg kk
theorem Z_HIT_OF (X : CX p s m args c cc own D cA) (hZ : SZ stb tz A s s.heap) (h : WD D A s (wl ad cA σ) H locs) (hl : Cond.fieldLink own index "DungeonDesk$Monsters" "HIT_OF" "[I" ∈ TB) (hdg : decode cc pc = .ok (.getstatic index, 3)) (kk : W p l e R s m args below meth c H locs cells slots Q (F0 m (pc + 3) ls (.ref (tz 3) :: rest))) : W p l e R s m args below meth c H locs cells slots Q (F0 m pc ls rest) :=
  x_gets X hZ h 3 (q := ("DungeonDesk$Monsters", "HIT_OF", 3, tb_HIT_OF)) rfl hl hdg kk
theorem U_HIT_OF {i : Int32} (X : CX p s m args c cc own D cA) (hZ : SZ stb tz A s s.heap) (h : WD D A s (wl ad cA σ) H locs) (hin : vp_in i 3) (hdg : decode cc pc = .ok (.iaload, 1)) (kk : W p l e R s m args below meth c H locs cells slots Q (F0 m (pc + 1) ls (.int (tb_HIT_OF i.toNatClampNeg) :: rest))) : W p l e R s m args below meth c H locs cells slots Q (F0 m pc ls (.int i :: .ref (tz 3) :: rest)) :=
  x_ti X hZ h 3 (q := ("DungeonDesk$Monsters", "HIT_OF", 3, tb_HIT_OF)) rfl hin hdg kk
theorem V_HIT_OF (X : CX p s m args c cc own D cA) (hZ : SZ stb tz A s s.heap) (h : WD D A s (wl ad cA σ) H locs) (hdg : decode cc pc = .ok (.arraylength, 1)) (kk : W p l e R s m args below meth c H locs cells slots Q (F0 m (pc + 1) ls (.int 3 :: rest))) : W p l e R s m args below meth c H locs cells slots Q (F0 m pc ls (.ref (tz 3) :: rest)) :=
  x_tlen X hZ h 3 (q := ("DungeonDesk$Monsters", "HIT_OF", 3, tb_HIT_OF)) rfl rfl hdg kk
end W_wl
end
section
def wm (ad : Nat → Nat) (cA : Nat → ClassId) (σ : St) : va_W := [(ad 0, .inr (8, [.int (σ.1 0), .long (σ.2.1 0), .long (σ.2.1 1), .ref (ad 1), .ref (ad 2), .ref (ad 3), .ref (ad 4), .ref (ad 5), .ref (ad 6), .ref (ad 7), .ref (ad 8), .ref (ad 9), .ref (ad 10), .ref (ad 11), .int (σ.1 1), .ref (ad 12), .ref (ad 13), .ref (ad 14), .ref (ad 15), .int (σ.1 2), .int (σ.1 3), .int (σ.1 4), .int (σ.1 5), .int (σ.1 6), .int (σ.1 7), .int (σ.1 8), .int (σ.1 9), .int (σ.1 10), .int (σ.1 11), .ref (ad 16), .int (σ.1 12), .ref (ad 17), .int (σ.1 13)])),
  (ad 1, .inl (cA 0, 120, .inl (σ.2.2 0))),
  (ad 2, .inl (cA 0, 120, .inl (σ.2.2 1))),
  (ad 3, .inl (cA 0, 120, .inl (σ.2.2 2))),
  (ad 4, .inl (cA 1, 120, .inl (σ.2.2 3))),
  (ad 5, .inl (cA 0, 8, .inl (σ.2.2 4))),
  (ad 6, .inl (cA 0, 8, .inl (σ.2.2 5))),
  (ad 7, .inl (cA 0, 8, .inl (σ.2.2 6))),
  (ad 8, .inl (cA 0, 8, .inl (σ.2.2 7))),
  (ad 9, .inl (cA 0, 8, .inl (σ.2.2 8))),
  (ad 10, .inl (cA 1, 8, .inl (σ.2.2 9))),
  (ad 11, .inl (cA 1, 8, .inl (σ.2.2 10))),
  (ad 12, .inl (cA 0, 4, .inl (σ.2.2 11))),
  (ad 13, .inl (cA 0, 4, .inl (σ.2.2 12))),
  (ad 14, .inl (cA 0, 4, .inl (σ.2.2 13))),
  (ad 15, .inl (cA 0, 4, .inl (σ.2.2 14))),
  (ad 16, .inl (cA 0, 5, .inl (σ.2.2 15))),
  (ad 17, .inl (cA 0, 520, .inl (σ.2.2 16)))]
section W_wm
variable {p : Program} {l : Launch} {e : Env} {R : Room} {s : State} {m : MethodId} {args : Array Value} {below : List Frame} {meth : Method} {c : Code} {H : Heap} {locs : List Loc} {cells slots : Nat} {Q : State → Prop}
variable {cc : ByteArray} {pc : Nat} {ls : Array Slot} {rest : List Value} {D : va_G} {cA : Nat → ClassId} {tz : Nat → Nat} {ad : Nat → Nat} {A : Nat → Prop} {σ : St} {own : String} {index : Nat}
theorem G_model_seed (X : CX p s m args c cc own D cA) (h : WD D A s (wm ad cA σ) H locs) (hl : Cond.fieldLink own index "DungeonDeskModel" "seed" "I" ∈ TB) (hdg : decode cc pc = .ok (.getfield index, 3)) (kk : W p l e R s m args below meth c H locs cells slots Q (F0 m (pc + 3) ls (.int (σ.1 0) :: rest))) : W p l e R s m args below meth c H locs cells slots Q (F0 m pc ls (.ref (ad 0) :: rest)) :=
  x_get X h 0 0 (T := F_Model) (v := .int (σ.1 0)) rfl rfl i_Model (by decide) rfl hl hdg kk
theorem G_model_making (X : CX p s m args c cc own D cA) (h : WD D A s (wm ad cA σ) H locs) (hl : Cond.fieldLink own index "DungeonDeskModel" "making" "J" ∈ TB) (hdg : decode cc pc = .ok (.getfield index, 3)) (kk : W p l e R s m args below meth c H locs cells slots Q (F0 m (pc + 3) ls (.long (σ.2.1 0) :: rest))) : W p l e R s m args below meth c H locs cells slots Q (F0 m pc ls (.ref (ad 0) :: rest)) :=
  x_get X h 0 1 (T := F_Model) (v := .long (σ.2.1 0)) rfl rfl i_Model (by decide) rfl hl hdg kk
theorem P_model_making {x : Int64} (X : CX p s m args c cc own D cA) (h : WD D A s (wm ad cA σ) H locs) (hl : Cond.fieldLink own index "DungeonDeskModel" "making" "J" ∈ TB) (hdg : decode cc pc = .ok (.putfield index, 3)) (kk : ∀ (H1 : Heap) (locs1 : List Loc) (σ2 : St), σ2 = sL σ 0 x → WD D A s (wm ad cA σ2) H1 locs1 → W p l e R s m args below meth c H1 locs1 cells slots Q (F0 m (pc + 3) ls rest)) : W p l e R s m args below meth c H locs cells slots Q (F0 m pc ls (.long x :: .ref (ad 0) :: rest)) :=
  x_put X h 0 1 (T := F_Model) (v := .long x) (ty := .long) rfl rfl i_Model (by decide) t_Model t_Model_ok n_Model rfl (by decide +kernel) rfl rfl (Nat.le_of_ble_eq_true rfl) (ws' := wm ad cA (sL σ 0 x)) rfl hl hdg (fun H1 locs1 h1 => kk H1 locs1 _ rfl h1)
theorem G_model_play (X : CX p s m args c cc own D cA) (h : WD D A s (wm ad cA σ) H locs) (hl : Cond.fieldLink own index "DungeonDeskModel" "play" "J" ∈ TB) (hdg : decode cc pc = .ok (.getfield index, 3)) (kk : W p l e R s m args below meth c H locs cells slots Q (F0 m (pc + 3) ls (.long (σ.2.1 1) :: rest))) : W p l e R s m args below meth c H locs cells slots Q (F0 m pc ls (.ref (ad 0) :: rest)) :=
  x_get X h 0 2 (T := F_Model) (v := .long (σ.2.1 1)) rfl rfl i_Model (by decide) rfl hl hdg kk
theorem P_model_play {x : Int64} (X : CX p s m args c cc own D cA) (h : WD D A s (wm ad cA σ) H locs) (hl : Cond.fieldLink own index "DungeonDeskModel" "play" "J" ∈ TB) (hdg : decode cc pc = .ok (.putfield index, 3)) (kk : ∀ (H1 : Heap) (locs1 : List Loc) (σ2 : St), σ2 = sL σ 1 x → WD D A s (wm ad cA σ2) H1 locs1 → W p l e R s m args below meth c H1 locs1 cells slots Q (F0 m (pc + 3) ls rest)) : W p l e R s m args below meth c H locs cells slots Q (F0 m pc ls (.long x :: .ref (ad 0) :: rest)) :=
  x_put X h 0 2 (T := F_Model) (v := .long x) (ty := .long) rfl rfl i_Model (by decide) t_Model t_Model_ok n_Model rfl (by decide +kernel) rfl rfl (Nat.le_of_ble_eq_true rfl) (ws' := wm ad cA (sL σ 1 x)) rfl hl hdg (fun H1 locs1 h1 => kk H1 locs1 _ rfl h1)
theorem G_model_floor (X : CX p s m args c cc own D cA) (h : WD D A s (wm ad cA σ) H locs) (hl : Cond.fieldLink own index "DungeonDeskModel" "floor" "[I" ∈ TB) (hdg : decode cc pc = .ok (.getfield index, 3)) (kk : W p l e R s m args below meth c H locs cells slots Q (F0 m (pc + 3) ls (.ref (ad 1) :: rest))) : W p l e R s m args below meth c H locs cells slots Q (F0 m pc ls (.ref (ad 0) :: rest)) :=
  x_get X h 0 3 (T := F_Model) (v := .ref (ad 1)) rfl rfl i_Model (by decide) rfl hl hdg kk
theorem G_model_thing (X : CX p s m args c cc own D cA) (h : WD D A s (wm ad cA σ) H locs) (hl : Cond.fieldLink own index "DungeonDeskModel" "thing" "[I" ∈ TB) (hdg : decode cc pc = .ok (.getfield index, 3)) (kk : W p l e R s m args below meth c H locs cells slots Q (F0 m (pc + 3) ls (.ref (ad 2) :: rest))) : W p l e R s m args below meth c H locs cells slots Q (F0 m pc ls (.ref (ad 0) :: rest)) :=
  x_get X h 0 4 (T := F_Model) (v := .ref (ad 2)) rfl rfl i_Model (by decide) rfl hl hdg kk
theorem G_model_distance (X : CX p s m args c cc own D cA) (h : WD D A s (wm ad cA σ) H locs) (hl : Cond.fieldLink own index "DungeonDeskModel" "distance" "[I" ∈ TB) (hdg : decode cc pc = .ok (.getfield index, 3)) (kk : W p l e R s m args below meth c H locs cells slots Q (F0 m (pc + 3) ls (.ref (ad 3) :: rest))) : W p l e R s m args below meth c H locs cells slots Q (F0 m pc ls (.ref (ad 0) :: rest)) :=
  x_get X h 0 5 (T := F_Model) (v := .ref (ad 3)) rfl rfl i_Model (by decide) rfl hl hdg kk
theorem G_model_known (X : CX p s m args c cc own D cA) (h : WD D A s (wm ad cA σ) H locs) (hl : Cond.fieldLink own index "DungeonDeskModel" "known" "[Z" ∈ TB) (hdg : decode cc pc = .ok (.getfield index, 3)) (kk : W p l e R s m args below meth c H locs cells slots Q (F0 m (pc + 3) ls (.ref (ad 4) :: rest))) : W p l e R s m args below meth c H locs cells slots Q (F0 m pc ls (.ref (ad 0) :: rest)) :=
  x_get X h 0 6 (T := F_Model) (v := .ref (ad 4)) rfl rfl i_Model (by decide) rfl hl hdg kk
theorem G_model_kind (X : CX p s m args c cc own D cA) (h : WD D A s (wm ad cA σ) H locs) (hl : Cond.fieldLink own index "DungeonDeskModel" "kind" "[I" ∈ TB) (hdg : decode cc pc = .ok (.getfield index, 3)) (kk : W p l e R s m args below meth c H locs cells slots Q (F0 m (pc + 3) ls (.ref (ad 5) :: rest))) : W p l e R s m args below meth c H locs cells slots Q (F0 m pc ls (.ref (ad 0) :: rest)) :=
  x_get X h 0 7 (T := F_Model) (v := .ref (ad 5)) rfl rfl i_Model (by decide) rfl hl hdg kk
theorem G_model_mx (X : CX p s m args c cc own D cA) (h : WD D A s (wm ad cA σ) H locs) (hl : Cond.fieldLink own index "DungeonDeskModel" "mx" "[I" ∈ TB) (hdg : decode cc pc = .ok (.getfield index, 3)) (kk : W p l e R s m args below meth c H locs cells slots Q (F0 m (pc + 3) ls (.ref (ad 6) :: rest))) : W p l e R s m args below meth c H locs cells slots Q (F0 m pc ls (.ref (ad 0) :: rest)) :=
  x_get X h 0 8 (T := F_Model) (v := .ref (ad 6)) rfl rfl i_Model (by decide) rfl hl hdg kk
theorem G_model_my (X : CX p s m args c cc own D cA) (h : WD D A s (wm ad cA σ) H locs) (hl : Cond.fieldLink own index "DungeonDeskModel" "my" "[I" ∈ TB) (hdg : decode cc pc = .ok (.getfield index, 3)) (kk : W p l e R s m args below meth c H locs cells slots Q (F0 m (pc + 3) ls (.ref (ad 7) :: rest))) : W p l e R s m args below meth c H locs cells slots Q (F0 m pc ls (.ref (ad 0) :: rest)) :=
  x_get X h 0 9 (T := F_Model) (v := .ref (ad 7)) rfl rfl i_Model (by decide) rfl hl hdg kk
theorem G_model_health (X : CX p s m args c cc own D cA) (h : WD D A s (wm ad cA σ) H locs) (hl : Cond.fieldLink own index "DungeonDeskModel" "health" "[I" ∈ TB) (hdg : decode cc pc = .ok (.getfield index, 3)) (kk : W p l e R s m args below meth c H locs cells slots Q (F0 m (pc + 3) ls (.ref (ad 8) :: rest))) : W p l e R s m args below meth c H locs cells slots Q (F0 m pc ls (.ref (ad 0) :: rest)) :=
  x_get X h 0 10 (T := F_Model) (v := .ref (ad 8)) rfl rfl i_Model (by decide) rfl hl hdg kk
theorem G_model_energy (X : CX p s m args c cc own D cA) (h : WD D A s (wm ad cA σ) H locs) (hl : Cond.fieldLink own index "DungeonDeskModel" "energy" "[I" ∈ TB) (hdg : decode cc pc = .ok (.getfield index, 3)) (kk : W p l e R s m args below meth c H locs cells slots Q (F0 m (pc + 3) ls (.ref (ad 9) :: rest))) : W p l e R s m args below meth c H locs cells slots Q (F0 m pc ls (.ref (ad 0) :: rest)) :=
  x_get X h 0 11 (T := F_Model) (v := .ref (ad 9)) rfl rfl i_Model (by decide) rfl hl hdg kk
theorem G_model_awake (X : CX p s m args c cc own D cA) (h : WD D A s (wm ad cA σ) H locs) (hl : Cond.fieldLink own index "DungeonDeskModel" "awake" "[Z" ∈ TB) (hdg : decode cc pc = .ok (.getfield index, 3)) (kk : W p l e R s m args below meth c H locs cells slots Q (F0 m (pc + 3) ls (.ref (ad 10) :: rest))) : W p l e R s m args below meth c H locs cells slots Q (F0 m pc ls (.ref (ad 0) :: rest)) :=
  x_get X h 0 12 (T := F_Model) (v := .ref (ad 10)) rfl rfl i_Model (by decide) rfl hl hdg kk
theorem G_model_gone (X : CX p s m args c cc own D cA) (h : WD D A s (wm ad cA σ) H locs) (hl : Cond.fieldLink own index "DungeonDeskModel" "gone" "[Z" ∈ TB) (hdg : decode cc pc = .ok (.getfield index, 3)) (kk : W p l e R s m args below meth c H locs cells slots Q (F0 m (pc + 3) ls (.ref (ad 11) :: rest))) : W p l e R s m args below meth c H locs cells slots Q (F0 m pc ls (.ref (ad 0) :: rest)) :=
  x_get X h 0 13 (T := F_Model) (v := .ref (ad 11)) rfl rfl i_Model (by decide) rfl hl hdg kk
theorem G_model_monsters (X : CX p s m args c cc own D cA) (h : WD D A s (wm ad cA σ) H locs) (hl : Cond.fieldLink own index "DungeonDeskModel" "monsters" "I" ∈ TB) (hdg : decode cc pc = .ok (.getfield index, 3)) (kk : W p l e R s m args below meth c H locs cells slots Q (F0 m (pc + 3) ls (.int (σ.1 1) :: rest))) : W p l e R s m args below meth c H locs cells slots Q (F0 m pc ls (.ref (ad 0) :: rest)) :=
  x_get X h 0 14 (T := F_Model) (v := .int (σ.1 1)) rfl rfl i_Model (by decide) rfl hl hdg kk
theorem P_model_monsters {x : Int32} (X : CX p s m args c cc own D cA) (h : WD D A s (wm ad cA σ) H locs) (hl : Cond.fieldLink own index "DungeonDeskModel" "monsters" "I" ∈ TB) (hdg : decode cc pc = .ok (.putfield index, 3)) (kk : ∀ (H1 : Heap) (locs1 : List Loc) (σ2 : St), σ2 = sI σ 1 x → WD D A s (wm ad cA σ2) H1 locs1 → W p l e R s m args below meth c H1 locs1 cells slots Q (F0 m (pc + 3) ls rest)) : W p l e R s m args below meth c H locs cells slots Q (F0 m pc ls (.int x :: .ref (ad 0) :: rest)) :=
  x_put X h 0 14 (T := F_Model) (v := .int x) (ty := .int) rfl rfl i_Model (by decide) t_Model t_Model_ok n_Model rfl (by decide +kernel) rfl rfl (Nat.le_of_ble_eq_true rfl) (ws' := wm ad cA (sI σ 1 x)) rfl hl hdg (fun H1 locs1 h1 => kk H1 locs1 _ rfl h1)
theorem G_model_left (X : CX p s m args c cc own D cA) (h : WD D A s (wm ad cA σ) H locs) (hl : Cond.fieldLink own index "DungeonDeskModel" "left" "[I" ∈ TB) (hdg : decode cc pc = .ok (.getfield index, 3)) (kk : W p l e R s m args below meth c H locs cells slots Q (F0 m (pc + 3) ls (.ref (ad 12) :: rest))) : W p l e R s m args below meth c H locs cells slots Q (F0 m pc ls (.ref (ad 0) :: rest)) :=
  x_get X h 0 15 (T := F_Model) (v := .ref (ad 12)) rfl rfl i_Model (by decide) rfl hl hdg kk
theorem G_model_top (X : CX p s m args c cc own D cA) (h : WD D A s (wm ad cA σ) H locs) (hl : Cond.fieldLink own index "DungeonDeskModel" "top" "[I" ∈ TB) (hdg : decode cc pc = .ok (.getfield index, 3)) (kk : W p l e R s m args below meth c H locs cells slots Q (F0 m (pc + 3) ls (.ref (ad 13) :: rest))) : W p l e R s m args below meth c H locs cells slots Q (F0 m pc ls (.ref (ad 0) :: rest)) :=
  x_get X h 0 16 (T := F_Model) (v := .ref (ad 13)) rfl rfl i_Model (by decide) rfl hl hdg kk
theorem G_model_wide (X : CX p s m args c cc own D cA) (h : WD D A s (wm ad cA σ) H locs) (hl : Cond.fieldLink own index "DungeonDeskModel" "wide" "[I" ∈ TB) (hdg : decode cc pc = .ok (.getfield index, 3)) (kk : W p l e R s m args below meth c H locs cells slots Q (F0 m (pc + 3) ls (.ref (ad 14) :: rest))) : W p l e R s m args below meth c H locs cells slots Q (F0 m pc ls (.ref (ad 0) :: rest)) :=
  x_get X h 0 17 (T := F_Model) (v := .ref (ad 14)) rfl rfl i_Model (by decide) rfl hl hdg kk
theorem G_model_high (X : CX p s m args c cc own D cA) (h : WD D A s (wm ad cA σ) H locs) (hl : Cond.fieldLink own index "DungeonDeskModel" "high" "[I" ∈ TB) (hdg : decode cc pc = .ok (.getfield index, 3)) (kk : W p l e R s m args below meth c H locs cells slots Q (F0 m (pc + 3) ls (.ref (ad 15) :: rest))) : W p l e R s m args below meth c H locs cells slots Q (F0 m pc ls (.ref (ad 0) :: rest)) :=
  x_get X h 0 18 (T := F_Model) (v := .ref (ad 15)) rfl rfl i_Model (by decide) rfl hl hdg kk
theorem G_model_px (X : CX p s m args c cc own D cA) (h : WD D A s (wm ad cA σ) H locs) (hl : Cond.fieldLink own index "DungeonDeskModel" "px" "I" ∈ TB) (hdg : decode cc pc = .ok (.getfield index, 3)) (kk : W p l e R s m args below meth c H locs cells slots Q (F0 m (pc + 3) ls (.int (σ.1 2) :: rest))) : W p l e R s m args below meth c H locs cells slots Q (F0 m pc ls (.ref (ad 0) :: rest)) :=
  x_get X h 0 19 (T := F_Model) (v := .int (σ.1 2)) rfl rfl i_Model (by decide) rfl hl hdg kk
theorem P_model_px {x : Int32} (X : CX p s m args c cc own D cA) (h : WD D A s (wm ad cA σ) H locs) (hl : Cond.fieldLink own index "DungeonDeskModel" "px" "I" ∈ TB) (hdg : decode cc pc = .ok (.putfield index, 3)) (kk : ∀ (H1 : Heap) (locs1 : List Loc) (σ2 : St), σ2 = sI σ 2 x → WD D A s (wm ad cA σ2) H1 locs1 → W p l e R s m args below meth c H1 locs1 cells slots Q (F0 m (pc + 3) ls rest)) : W p l e R s m args below meth c H locs cells slots Q (F0 m pc ls (.int x :: .ref (ad 0) :: rest)) :=
  x_put X h 0 19 (T := F_Model) (v := .int x) (ty := .int) rfl rfl i_Model (by decide) t_Model t_Model_ok n_Model rfl (by decide +kernel) rfl rfl (Nat.le_of_ble_eq_true rfl) (ws' := wm ad cA (sI σ 2 x)) rfl hl hdg (fun H1 locs1 h1 => kk H1 locs1 _ rfl h1)
theorem G_model_py (X : CX p s m args c cc own D cA) (h : WD D A s (wm ad cA σ) H locs) (hl : Cond.fieldLink own index "DungeonDeskModel" "py" "I" ∈ TB) (hdg : decode cc pc = .ok (.getfield index, 3)) (kk : W p l e R s m args below meth c H locs cells slots Q (F0 m (pc + 3) ls (.int (σ.1 3) :: rest))) : W p l e R s m args below meth c H locs cells slots Q (F0 m pc ls (.ref (ad 0) :: rest)) :=
  x_get X h 0 20 (T := F_Model) (v := .int (σ.1 3)) rfl rfl i_Model (by decide) rfl hl hdg kk
theorem P_model_py {x : Int32} (X : CX p s m args c cc own D cA) (h : WD D A s (wm ad cA σ) H locs) (hl : Cond.fieldLink own index "DungeonDeskModel" "py" "I" ∈ TB) (hdg : decode cc pc = .ok (.putfield index, 3)) (kk : ∀ (H1 : Heap) (locs1 : List Loc) (σ2 : St), σ2 = sI σ 3 x → WD D A s (wm ad cA σ2) H1 locs1 → W p l e R s m args below meth c H1 locs1 cells slots Q (F0 m (pc + 3) ls rest)) : W p l e R s m args below meth c H locs cells slots Q (F0 m pc ls (.int x :: .ref (ad 0) :: rest)) :=
  x_put X h 0 20 (T := F_Model) (v := .int x) (ty := .int) rfl rfl i_Model (by decide) t_Model t_Model_ok n_Model rfl (by decide +kernel) rfl rfl (Nat.le_of_ble_eq_true rfl) (ws' := wm ad cA (sI σ 3 x)) rfl hl hdg (fun H1 locs1 h1 => kk H1 locs1 _ rfl h1)
theorem G_model_life (X : CX p s m args c cc own D cA) (h : WD D A s (wm ad cA σ) H locs) (hl : Cond.fieldLink own index "DungeonDeskModel" "life" "I" ∈ TB) (hdg : decode cc pc = .ok (.getfield index, 3)) (kk : W p l e R s m args below meth c H locs cells slots Q (F0 m (pc + 3) ls (.int (σ.1 4) :: rest))) : W p l e R s m args below meth c H locs cells slots Q (F0 m pc ls (.ref (ad 0) :: rest)) :=
  x_get X h 0 21 (T := F_Model) (v := .int (σ.1 4)) rfl rfl i_Model (by decide) rfl hl hdg kk
theorem P_model_life {x : Int32} (X : CX p s m args c cc own D cA) (h : WD D A s (wm ad cA σ) H locs) (hl : Cond.fieldLink own index "DungeonDeskModel" "life" "I" ∈ TB) (hdg : decode cc pc = .ok (.putfield index, 3)) (kk : ∀ (H1 : Heap) (locs1 : List Loc) (σ2 : St), σ2 = sI σ 4 x → WD D A s (wm ad cA σ2) H1 locs1 → W p l e R s m args below meth c H1 locs1 cells slots Q (F0 m (pc + 3) ls rest)) : W p l e R s m args below meth c H locs cells slots Q (F0 m pc ls (.int x :: .ref (ad 0) :: rest)) :=
  x_put X h 0 21 (T := F_Model) (v := .int x) (ty := .int) rfl rfl i_Model (by decide) t_Model t_Model_ok n_Model rfl (by decide +kernel) rfl rfl (Nat.le_of_ble_eq_true rfl) (ws' := wm ad cA (sI σ 4 x)) rfl hl hdg (fun H1 locs1 h1 => kk H1 locs1 _ rfl h1)
theorem G_model_hit (X : CX p s m args c cc own D cA) (h : WD D A s (wm ad cA σ) H locs) (hl : Cond.fieldLink own index "DungeonDeskModel" "hit" "I" ∈ TB) (hdg : decode cc pc = .ok (.getfield index, 3)) (kk : W p l e R s m args below meth c H locs cells slots Q (F0 m (pc + 3) ls (.int (σ.1 5) :: rest))) : W p l e R s m args below meth c H locs cells slots Q (F0 m pc ls (.ref (ad 0) :: rest)) :=
  x_get X h 0 22 (T := F_Model) (v := .int (σ.1 5)) rfl rfl i_Model (by decide) rfl hl hdg kk
theorem P_model_hit {x : Int32} (X : CX p s m args c cc own D cA) (h : WD D A s (wm ad cA σ) H locs) (hl : Cond.fieldLink own index "DungeonDeskModel" "hit" "I" ∈ TB) (hdg : decode cc pc = .ok (.putfield index, 3)) (kk : ∀ (H1 : Heap) (locs1 : List Loc) (σ2 : St), σ2 = sI σ 5 x → WD D A s (wm ad cA σ2) H1 locs1 → W p l e R s m args below meth c H1 locs1 cells slots Q (F0 m (pc + 3) ls rest)) : W p l e R s m args below meth c H locs cells slots Q (F0 m pc ls (.int x :: .ref (ad 0) :: rest)) :=
  x_put X h 0 22 (T := F_Model) (v := .int x) (ty := .int) rfl rfl i_Model (by decide) t_Model t_Model_ok n_Model rfl (by decide +kernel) rfl rfl (Nat.le_of_ble_eq_true rfl) (ws' := wm ad cA (sI σ 5 x)) rfl hl hdg (fun H1 locs1 h1 => kk H1 locs1 _ rfl h1)
theorem G_model_power (X : CX p s m args c cc own D cA) (h : WD D A s (wm ad cA σ) H locs) (hl : Cond.fieldLink own index "DungeonDeskModel" "power" "I" ∈ TB) (hdg : decode cc pc = .ok (.getfield index, 3)) (kk : W p l e R s m args below meth c H locs cells slots Q (F0 m (pc + 3) ls (.int (σ.1 6) :: rest))) : W p l e R s m args below meth c H locs cells slots Q (F0 m pc ls (.ref (ad 0) :: rest)) :=
  x_get X h 0 23 (T := F_Model) (v := .int (σ.1 6)) rfl rfl i_Model (by decide) rfl hl hdg kk
theorem P_model_power {x : Int32} (X : CX p s m args c cc own D cA) (h : WD D A s (wm ad cA σ) H locs) (hl : Cond.fieldLink own index "DungeonDeskModel" "power" "I" ∈ TB) (hdg : decode cc pc = .ok (.putfield index, 3)) (kk : ∀ (H1 : Heap) (locs1 : List Loc) (σ2 : St), σ2 = sI σ 6 x → WD D A s (wm ad cA σ2) H1 locs1 → W p l e R s m args below meth c H1 locs1 cells slots Q (F0 m (pc + 3) ls rest)) : W p l e R s m args below meth c H locs cells slots Q (F0 m pc ls (.int x :: .ref (ad 0) :: rest)) :=
  x_put X h 0 23 (T := F_Model) (v := .int x) (ty := .int) rfl rfl i_Model (by decide) t_Model t_Model_ok n_Model rfl (by decide +kernel) rfl rfl (Nat.le_of_ble_eq_true rfl) (ws' := wm ad cA (sI σ 6 x)) rfl hl hdg (fun H1 locs1 h1 => kk H1 locs1 _ rfl h1)
theorem G_model_haste (X : CX p s m args c cc own D cA) (h : WD D A s (wm ad cA σ) H locs) (hl : Cond.fieldLink own index "DungeonDeskModel" "haste" "I" ∈ TB) (hdg : decode cc pc = .ok (.getfield index, 3)) (kk : W p l e R s m args below meth c H locs cells slots Q (F0 m (pc + 3) ls (.int (σ.1 7) :: rest))) : W p l e R s m args below meth c H locs cells slots Q (F0 m pc ls (.ref (ad 0) :: rest)) :=
  x_get X h 0 24 (T := F_Model) (v := .int (σ.1 7)) rfl rfl i_Model (by decide) rfl hl hdg kk
theorem P_model_haste {x : Int32} (X : CX p s m args c cc own D cA) (h : WD D A s (wm ad cA σ) H locs) (hl : Cond.fieldLink own index "DungeonDeskModel" "haste" "I" ∈ TB) (hdg : decode cc pc = .ok (.putfield index, 3)) (kk : ∀ (H1 : Heap) (locs1 : List Loc) (σ2 : St), σ2 = sI σ 7 x → WD D A s (wm ad cA σ2) H1 locs1 → W p l e R s m args below meth c H1 locs1 cells slots Q (F0 m (pc + 3) ls rest)) : W p l e R s m args below meth c H locs cells slots Q (F0 m pc ls (.int x :: .ref (ad 0) :: rest)) :=
  x_put X h 0 24 (T := F_Model) (v := .int x) (ty := .int) rfl rfl i_Model (by decide) t_Model t_Model_ok n_Model rfl (by decide +kernel) rfl rfl (Nat.le_of_ble_eq_true rfl) (ws' := wm ad cA (sI σ 7 x)) rfl hl hdg (fun H1 locs1 h1 => kk H1 locs1 _ rfl h1)
theorem G_model_level (X : CX p s m args c cc own D cA) (h : WD D A s (wm ad cA σ) H locs) (hl : Cond.fieldLink own index "DungeonDeskModel" "level" "I" ∈ TB) (hdg : decode cc pc = .ok (.getfield index, 3)) (kk : W p l e R s m args below meth c H locs cells slots Q (F0 m (pc + 3) ls (.int (σ.1 8) :: rest))) : W p l e R s m args below meth c H locs cells slots Q (F0 m pc ls (.ref (ad 0) :: rest)) :=
  x_get X h 0 25 (T := F_Model) (v := .int (σ.1 8)) rfl rfl i_Model (by decide) rfl hl hdg kk
theorem P_model_level {x : Int32} (X : CX p s m args c cc own D cA) (h : WD D A s (wm ad cA σ) H locs) (hl : Cond.fieldLink own index "DungeonDeskModel" "level" "I" ∈ TB) (hdg : decode cc pc = .ok (.putfield index, 3)) (kk : ∀ (H1 : Heap) (locs1 : List Loc) (σ2 : St), σ2 = sI σ 8 x → WD D A s (wm ad cA σ2) H1 locs1 → W p l e R s m args below meth c H1 locs1 cells slots Q (F0 m (pc + 3) ls rest)) : W p l e R s m args below meth c H locs cells slots Q (F0 m pc ls (.int x :: .ref (ad 0) :: rest)) :=
  x_put X h 0 25 (T := F_Model) (v := .int x) (ty := .int) rfl rfl i_Model (by decide) t_Model t_Model_ok n_Model rfl (by decide +kernel) rfl rfl (Nat.le_of_ble_eq_true rfl) (ws' := wm ad cA (sI σ 8 x)) rfl hl hdg (fun H1 locs1 h1 => kk H1 locs1 _ rfl h1)
theorem G_model_state (X : CX p s m args c cc own D cA) (h : WD D A s (wm ad cA σ) H locs) (hl : Cond.fieldLink own index "DungeonDeskModel" "state" "I" ∈ TB) (hdg : decode cc pc = .ok (.getfield index, 3)) (kk : W p l e R s m args below meth c H locs cells slots Q (F0 m (pc + 3) ls (.int (σ.1 9) :: rest))) : W p l e R s m args below meth c H locs cells slots Q (F0 m pc ls (.ref (ad 0) :: rest)) :=
  x_get X h 0 26 (T := F_Model) (v := .int (σ.1 9)) rfl rfl i_Model (by decide) rfl hl hdg kk
theorem P_model_state {x : Int32} (X : CX p s m args c cc own D cA) (h : WD D A s (wm ad cA σ) H locs) (hl : Cond.fieldLink own index "DungeonDeskModel" "state" "I" ∈ TB) (hdg : decode cc pc = .ok (.putfield index, 3)) (kk : ∀ (H1 : Heap) (locs1 : List Loc) (σ2 : St), σ2 = sI σ 9 x → WD D A s (wm ad cA σ2) H1 locs1 → W p l e R s m args below meth c H1 locs1 cells slots Q (F0 m (pc + 3) ls rest)) : W p l e R s m args below meth c H locs cells slots Q (F0 m pc ls (.int x :: .ref (ad 0) :: rest)) :=
  x_put X h 0 26 (T := F_Model) (v := .int x) (ty := .int) rfl rfl i_Model (by decide) t_Model t_Model_ok n_Model rfl (by decide +kernel) rfl rfl (Nat.le_of_ble_eq_true rfl) (ws' := wm ad cA (sI σ 9 x)) rfl hl hdg (fun H1 locs1 h1 => kk H1 locs1 _ rfl h1)
theorem G_model_ticks (X : CX p s m args c cc own D cA) (h : WD D A s (wm ad cA σ) H locs) (hl : Cond.fieldLink own index "DungeonDeskModel" "ticks" "I" ∈ TB) (hdg : decode cc pc = .ok (.getfield index, 3)) (kk : W p l e R s m args below meth c H locs cells slots Q (F0 m (pc + 3) ls (.int (σ.1 10) :: rest))) : W p l e R s m args below meth c H locs cells slots Q (F0 m pc ls (.ref (ad 0) :: rest)) :=
  x_get X h 0 27 (T := F_Model) (v := .int (σ.1 10)) rfl rfl i_Model (by decide) rfl hl hdg kk
theorem P_model_ticks {x : Int32} (X : CX p s m args c cc own D cA) (h : WD D A s (wm ad cA σ) H locs) (hl : Cond.fieldLink own index "DungeonDeskModel" "ticks" "I" ∈ TB) (hdg : decode cc pc = .ok (.putfield index, 3)) (kk : ∀ (H1 : Heap) (locs1 : List Loc) (σ2 : St), σ2 = sI σ 10 x → WD D A s (wm ad cA σ2) H1 locs1 → W p l e R s m args below meth c H1 locs1 cells slots Q (F0 m (pc + 3) ls rest)) : W p l e R s m args below meth c H locs cells slots Q (F0 m pc ls (.int x :: .ref (ad 0) :: rest)) :=
  x_put X h 0 27 (T := F_Model) (v := .int x) (ty := .int) rfl rfl i_Model (by decide) t_Model t_Model_ok n_Model rfl (by decide +kernel) rfl rfl (Nat.le_of_ble_eq_true rfl) (ws' := wm ad cA (sI σ 10 x)) rfl hl hdg (fun H1 locs1 h1 => kk H1 locs1 _ rfl h1)
theorem G_model_went (X : CX p s m args c cc own D cA) (h : WD D A s (wm ad cA σ) H locs) (hl : Cond.fieldLink own index "DungeonDeskModel" "went" "I" ∈ TB) (hdg : decode cc pc = .ok (.getfield index, 3)) (kk : W p l e R s m args below meth c H locs cells slots Q (F0 m (pc + 3) ls (.int (σ.1 11) :: rest))) : W p l e R s m args below meth c H locs cells slots Q (F0 m pc ls (.ref (ad 0) :: rest)) :=
  x_get X h 0 28 (T := F_Model) (v := .int (σ.1 11)) rfl rfl i_Model (by decide) rfl hl hdg kk
theorem P_model_went {x : Int32} (X : CX p s m args c cc own D cA) (h : WD D A s (wm ad cA σ) H locs) (hl : Cond.fieldLink own index "DungeonDeskModel" "went" "I" ∈ TB) (hdg : decode cc pc = .ok (.putfield index, 3)) (kk : ∀ (H1 : Heap) (locs1 : List Loc) (σ2 : St), σ2 = sI σ 11 x → WD D A s (wm ad cA σ2) H1 locs1 → W p l e R s m args below meth c H1 locs1 cells slots Q (F0 m (pc + 3) ls rest)) : W p l e R s m args below meth c H locs cells slots Q (F0 m pc ls (.int x :: .ref (ad 0) :: rest)) :=
  x_put X h 0 28 (T := F_Model) (v := .int x) (ty := .int) rfl rfl i_Model (by decide) t_Model t_Model_ok n_Model rfl (by decide +kernel) rfl rfl (Nat.le_of_ble_eq_true rfl) (ws' := wm ad cA (sI σ 11 x)) rfl hl hdg (fun H1 locs1 h1 => kk H1 locs1 _ rfl h1)
theorem G_model_bag (X : CX p s m args c cc own D cA) (h : WD D A s (wm ad cA σ) H locs) (hl : Cond.fieldLink own index "DungeonDeskModel" "bag" "[I" ∈ TB) (hdg : decode cc pc = .ok (.getfield index, 3)) (kk : W p l e R s m args below meth c H locs cells slots Q (F0 m (pc + 3) ls (.ref (ad 16) :: rest))) : W p l e R s m args below meth c H locs cells slots Q (F0 m pc ls (.ref (ad 0) :: rest)) :=
  x_get X h 0 29 (T := F_Model) (v := .ref (ad 16)) rfl rfl i_Model (by decide) rfl hl hdg kk
theorem G_model_things (X : CX p s m args c cc own D cA) (h : WD D A s (wm ad cA σ) H locs) (hl : Cond.fieldLink own index "DungeonDeskModel" "things" "I" ∈ TB) (hdg : decode cc pc = .ok (.getfield index, 3)) (kk : W p l e R s m args below meth c H locs cells slots Q (F0 m (pc + 3) ls (.int (σ.1 12) :: rest))) : W p l e R s m args below meth c H locs cells slots Q (F0 m pc ls (.ref (ad 0) :: rest)) :=
  x_get X h 0 30 (T := F_Model) (v := .int (σ.1 12)) rfl rfl i_Model (by decide) rfl hl hdg kk
theorem P_model_things {x : Int32} (X : CX p s m args c cc own D cA) (h : WD D A s (wm ad cA σ) H locs) (hl : Cond.fieldLink own index "DungeonDeskModel" "things" "I" ∈ TB) (hdg : decode cc pc = .ok (.putfield index, 3)) (kk : ∀ (H1 : Heap) (locs1 : List Loc) (σ2 : St), σ2 = sI σ 12 x → WD D A s (wm ad cA σ2) H1 locs1 → W p l e R s m args below meth c H1 locs1 cells slots Q (F0 m (pc + 3) ls rest)) : W p l e R s m args below meth c H locs cells slots Q (F0 m pc ls (.int x :: .ref (ad 0) :: rest)) :=
  x_put X h 0 30 (T := F_Model) (v := .int x) (ty := .int) rfl rfl i_Model (by decide) t_Model t_Model_ok n_Model rfl (by decide +kernel) rfl rfl (Nat.le_of_ble_eq_true rfl) (ws' := wm ad cA (sI σ 12 x)) rfl hl hdg (fun H1 locs1 h1 => kk H1 locs1 _ rfl h1)
theorem G_model_keys (X : CX p s m args c cc own D cA) (h : WD D A s (wm ad cA σ) H locs) (hl : Cond.fieldLink own index "DungeonDeskModel" "keys" "[I" ∈ TB) (hdg : decode cc pc = .ok (.getfield index, 3)) (kk : W p l e R s m args below meth c H locs cells slots Q (F0 m (pc + 3) ls (.ref (ad 17) :: rest))) : W p l e R s m args below meth c H locs cells slots Q (F0 m pc ls (.ref (ad 0) :: rest)) :=
  x_get X h 0 31 (T := F_Model) (v := .ref (ad 17)) rfl rfl i_Model (by decide) rfl hl hdg kk
theorem G_model_recorded (X : CX p s m args c cc own D cA) (h : WD D A s (wm ad cA σ) H locs) (hl : Cond.fieldLink own index "DungeonDeskModel" "recorded" "I" ∈ TB) (hdg : decode cc pc = .ok (.getfield index, 3)) (kk : W p l e R s m args below meth c H locs cells slots Q (F0 m (pc + 3) ls (.int (σ.1 13) :: rest))) : W p l e R s m args below meth c H locs cells slots Q (F0 m pc ls (.ref (ad 0) :: rest)) :=
  x_get X h 0 32 (T := F_Model) (v := .int (σ.1 13)) rfl rfl i_Model (by decide) rfl hl hdg kk
theorem P_model_recorded {x : Int32} (X : CX p s m args c cc own D cA) (h : WD D A s (wm ad cA σ) H locs) (hl : Cond.fieldLink own index "DungeonDeskModel" "recorded" "I" ∈ TB) (hdg : decode cc pc = .ok (.putfield index, 3)) (kk : ∀ (H1 : Heap) (locs1 : List Loc) (σ2 : St), σ2 = sI σ 13 x → WD D A s (wm ad cA σ2) H1 locs1 → W p l e R s m args below meth c H1 locs1 cells slots Q (F0 m (pc + 3) ls rest)) : W p l e R s m args below meth c H locs cells slots Q (F0 m pc ls (.int x :: .ref (ad 0) :: rest)) :=
  x_put X h 0 32 (T := F_Model) (v := .int x) (ty := .int) rfl rfl i_Model (by decide) t_Model t_Model_ok n_Model rfl (by decide +kernel) rfl rfl (Nat.le_of_ble_eq_true rfl) (ws' := wm ad cA (sI σ 13 x)) rfl hl hdg (fun H1 locs1 h1 => kk H1 locs1 _ rfl h1)
theorem R_mfloor {i : Int32} (X : CX p s m args c cc own D cA) (h : WD D A s (wm ad cA σ) H locs) (hin : vp_in i 120) (hdg : decode cc pc = .ok (.iaload, 1)) (kk : W p l e R s m args below meth c H locs cells slots Q (F0 m (pc + 1) ls (.int (σ.2.2 0 i.toNatClampNeg) :: rest))) : W p l e R s m args below meth c H locs cells slots Q (F0 m pc ls (.int i :: .ref (ad 1) :: rest)) :=
  x_iald X h 1 rfl hin hdg kk
theorem S_mfloor {i x : Int32} (X : CX p s m args c cc own D cA) (h : WD D A s (wm ad cA σ) H locs) (hin : vp_in i 120) (hdg : decode cc pc = .ok (.iastore, 1)) (kk : ∀ (H1 : Heap) (locs1 : List Loc) (σ2 : St), σ2 = sA σ 0 i.toNatClampNeg x → WD D A s (wm ad cA σ2) H1 locs1 → W p l e R s m args below meth c H1 locs1 cells slots Q (F0 m (pc + 1) ls rest)) : W p l e R s m args below meth c H locs cells slots Q (F0 m pc ls (.int x :: .int i :: .ref (ad 1) :: rest)) :=
  x_iast X h 1 (ws' := wm ad cA (sA σ 0 i.toNatClampNeg x)) rfl hin rfl hdg (fun H1 locs1 h1 => kk H1 locs1 _ rfl h1)
theorem N_mfloor (X : CX p s m args c cc own D cA) (h : WD D A s (wm ad cA σ) H locs) (hdg : decode cc pc = .ok (.arraylength, 1)) (kk : W p l e R s m args below meth c H locs cells slots Q (F0 m (pc + 1) ls (.int 120 :: rest))) : W p l e R s m args below meth c H locs cells slots Q (F0 m pc ls (.ref (ad 1) :: rest)) :=
  x_alen X h 1 rfl rfl hdg kk
theorem R_mthing {i : Int32} (X : CX p s m args c cc own D cA) (h : WD D A s (wm ad cA σ) H locs) (hin : vp_in i 120) (hdg : decode cc pc = .ok (.iaload, 1)) (kk : W p l e R s m args below meth c H locs cells slots Q (F0 m (pc + 1) ls (.int (σ.2.2 1 i.toNatClampNeg) :: rest))) : W p l e R s m args below meth c H locs cells slots Q (F0 m pc ls (.int i :: .ref (ad 2) :: rest)) :=
  x_iald X h 2 rfl hin hdg kk
theorem S_mthing {i x : Int32} (X : CX p s m args c cc own D cA) (h : WD D A s (wm ad cA σ) H locs) (hin : vp_in i 120) (hdg : decode cc pc = .ok (.iastore, 1)) (kk : ∀ (H1 : Heap) (locs1 : List Loc) (σ2 : St), σ2 = sA σ 1 i.toNatClampNeg x → WD D A s (wm ad cA σ2) H1 locs1 → W p l e R s m args below meth c H1 locs1 cells slots Q (F0 m (pc + 1) ls rest)) : W p l e R s m args below meth c H locs cells slots Q (F0 m pc ls (.int x :: .int i :: .ref (ad 2) :: rest)) :=
  x_iast X h 2 (ws' := wm ad cA (sA σ 1 i.toNatClampNeg x)) rfl hin rfl hdg (fun H1 locs1 h1 => kk H1 locs1 _ rfl h1)
theorem N_mthing (X : CX p s m args c cc own D cA) (h : WD D A s (wm ad cA σ) H locs) (hdg : decode cc pc = .ok (.arraylength, 1)) (kk : W p l e R s m args below meth c H locs cells slots Q (F0 m (pc + 1) ls (.int 120 :: rest))) : W p l e R s m args below meth c H locs cells slots Q (F0 m pc ls (.ref (ad 2) :: rest)) :=
  x_alen X h 2 rfl rfl hdg kk
theorem R_mdistance {i : Int32} (X : CX p s m args c cc own D cA) (h : WD D A s (wm ad cA σ) H locs) (hin : vp_in i 120) (hdg : decode cc pc = .ok (.iaload, 1)) (kk : W p l e R s m args below meth c H locs cells slots Q (F0 m (pc + 1) ls (.int (σ.2.2 2 i.toNatClampNeg) :: rest))) : W p l e R s m args below meth c H locs cells slots Q (F0 m pc ls (.int i :: .ref (ad 3) :: rest)) :=
  x_iald X h 3 rfl hin hdg kk
theorem S_mdistance {i x : Int32} (X : CX p s m args c cc own D cA) (h : WD D A s (wm ad cA σ) H locs) (hin : vp_in i 120) (hdg : decode cc pc = .ok (.iastore, 1)) (kk : ∀ (H1 : Heap) (locs1 : List Loc) (σ2 : St), σ2 = sA σ 2 i.toNatClampNeg x → WD D A s (wm ad cA σ2) H1 locs1 → W p l e R s m args below meth c H1 locs1 cells slots Q (F0 m (pc + 1) ls rest)) : W p l e R s m args below meth c H locs cells slots Q (F0 m pc ls (.int x :: .int i :: .ref (ad 3) :: rest)) :=
  x_iast X h 3 (ws' := wm ad cA (sA σ 2 i.toNatClampNeg x)) rfl hin rfl hdg (fun H1 locs1 h1 => kk H1 locs1 _ rfl h1)
theorem N_mdistance (X : CX p s m args c cc own D cA) (h : WD D A s (wm ad cA σ) H locs) (hdg : decode cc pc = .ok (.arraylength, 1)) (kk : W p l e R s m args below meth c H locs cells slots Q (F0 m (pc + 1) ls (.int 120 :: rest))) : W p l e R s m args below meth c H locs cells slots Q (F0 m pc ls (.ref (ad 3) :: rest)) :=
  x_alen X h 3 rfl rfl hdg kk
theorem R_mknown {i : Int32} (X : CX p s m args c cc own D cA) (h : WD D A s (wm ad cA σ) H locs) (hin : vp_in i 120) (hdg : decode cc pc = .ok (.baload, 1)) (kk : W p l e R s m args below meth c H locs cells slots Q (F0 m (pc + 1) ls (.int (σ.2.2 3 i.toNatClampNeg) :: rest))) : W p l e R s m args below meth c H locs cells slots Q (F0 m pc ls (.int i :: .ref (ad 4) :: rest)) :=
  x_zald X h 4 rfl hin hdg kk
theorem S_mknown {i x : Int32} (X : CX p s m args c cc own D cA) (h : WD D A s (wm ad cA σ) H locs) (hin : vp_in i 120) (hz : vp_nar .boolean x = x) (hdg : decode cc pc = .ok (.bastore, 1)) (kk : ∀ (H1 : Heap) (locs1 : List Loc) (σ2 : St), σ2 = sA σ 3 i.toNatClampNeg x → WD D A s (wm ad cA σ2) H1 locs1 → W p l e R s m args below meth c H1 locs1 cells slots Q (F0 m (pc + 1) ls rest)) : W p l e R s m args below meth c H locs cells slots Q (F0 m pc ls (.int x :: .int i :: .ref (ad 4) :: rest)) :=
  x_zast X h 4 (ws' := wm ad cA (sA σ 3 i.toNatClampNeg x)) rfl hin hz rfl hdg (fun H1 locs1 h1 => kk H1 locs1 _ rfl h1)
theorem N_mknown (X : CX p s m args c cc own D cA) (h : WD D A s (wm ad cA σ) H locs) (hdg : decode cc pc = .ok (.arraylength, 1)) (kk : W p l e R s m args below meth c H locs cells slots Q (F0 m (pc + 1) ls (.int 120 :: rest))) : W p l e R s m args below meth c H locs cells slots Q (F0 m pc ls (.ref (ad 4) :: rest)) :=
  x_alenz X h 4 rfl rfl hdg kk
theorem R_mkind {i : Int32} (X : CX p s m args c cc own D cA) (h : WD D A s (wm ad cA σ) H locs) (hin : vp_in i 8) (hdg : decode cc pc = .ok (.iaload, 1)) (kk : W p l e R s m args below meth c H locs cells slots Q (F0 m (pc + 1) ls (.int (σ.2.2 4 i.toNatClampNeg) :: rest))) : W p l e R s m args below meth c H locs cells slots Q (F0 m pc ls (.int i :: .ref (ad 5) :: rest)) :=
  x_iald X h 5 rfl hin hdg kk
theorem S_mkind {i x : Int32} (X : CX p s m args c cc own D cA) (h : WD D A s (wm ad cA σ) H locs) (hin : vp_in i 8) (hdg : decode cc pc = .ok (.iastore, 1)) (kk : ∀ (H1 : Heap) (locs1 : List Loc) (σ2 : St), σ2 = sA σ 4 i.toNatClampNeg x → WD D A s (wm ad cA σ2) H1 locs1 → W p l e R s m args below meth c H1 locs1 cells slots Q (F0 m (pc + 1) ls rest)) : W p l e R s m args below meth c H locs cells slots Q (F0 m pc ls (.int x :: .int i :: .ref (ad 5) :: rest)) :=
  x_iast X h 5 (ws' := wm ad cA (sA σ 4 i.toNatClampNeg x)) rfl hin rfl hdg (fun H1 locs1 h1 => kk H1 locs1 _ rfl h1)
theorem N_mkind (X : CX p s m args c cc own D cA) (h : WD D A s (wm ad cA σ) H locs) (hdg : decode cc pc = .ok (.arraylength, 1)) (kk : W p l e R s m args below meth c H locs cells slots Q (F0 m (pc + 1) ls (.int 8 :: rest))) : W p l e R s m args below meth c H locs cells slots Q (F0 m pc ls (.ref (ad 5) :: rest)) :=
  x_alen X h 5 rfl rfl hdg kk
theorem R_mmx {i : Int32} (X : CX p s m args c cc own D cA) (h : WD D A s (wm ad cA σ) H locs) (hin : vp_in i 8) (hdg : decode cc pc = .ok (.iaload, 1)) (kk : W p l e R s m args below meth c H locs cells slots Q (F0 m (pc + 1) ls (.int (σ.2.2 5 i.toNatClampNeg) :: rest))) : W p l e R s m args below meth c H locs cells slots Q (F0 m pc ls (.int i :: .ref (ad 6) :: rest)) :=
  x_iald X h 6 rfl hin hdg kk
theorem S_mmx {i x : Int32} (X : CX p s m args c cc own D cA) (h : WD D A s (wm ad cA σ) H locs) (hin : vp_in i 8) (hdg : decode cc pc = .ok (.iastore, 1)) (kk : ∀ (H1 : Heap) (locs1 : List Loc) (σ2 : St), σ2 = sA σ 5 i.toNatClampNeg x → WD D A s (wm ad cA σ2) H1 locs1 → W p l e R s m args below meth c H1 locs1 cells slots Q (F0 m (pc + 1) ls rest)) : W p l e R s m args below meth c H locs cells slots Q (F0 m pc ls (.int x :: .int i :: .ref (ad 6) :: rest)) :=
  x_iast X h 6 (ws' := wm ad cA (sA σ 5 i.toNatClampNeg x)) rfl hin rfl hdg (fun H1 locs1 h1 => kk H1 locs1 _ rfl h1)
theorem N_mmx (X : CX p s m args c cc own D cA) (h : WD D A s (wm ad cA σ) H locs) (hdg : decode cc pc = .ok (.arraylength, 1)) (kk : W p l e R s m args below meth c H locs cells slots Q (F0 m (pc + 1) ls (.int 8 :: rest))) : W p l e R s m args below meth c H locs cells slots Q (F0 m pc ls (.ref (ad 6) :: rest)) :=
  x_alen X h 6 rfl rfl hdg kk
theorem R_mmy {i : Int32} (X : CX p s m args c cc own D cA) (h : WD D A s (wm ad cA σ) H locs) (hin : vp_in i 8) (hdg : decode cc pc = .ok (.iaload, 1)) (kk : W p l e R s m args below meth c H locs cells slots Q (F0 m (pc + 1) ls (.int (σ.2.2 6 i.toNatClampNeg) :: rest))) : W p l e R s m args below meth c H locs cells slots Q (F0 m pc ls (.int i :: .ref (ad 7) :: rest)) :=
  x_iald X h 7 rfl hin hdg kk
theorem S_mmy {i x : Int32} (X : CX p s m args c cc own D cA) (h : WD D A s (wm ad cA σ) H locs) (hin : vp_in i 8) (hdg : decode cc pc = .ok (.iastore, 1)) (kk : ∀ (H1 : Heap) (locs1 : List Loc) (σ2 : St), σ2 = sA σ 6 i.toNatClampNeg x → WD D A s (wm ad cA σ2) H1 locs1 → W p l e R s m args below meth c H1 locs1 cells slots Q (F0 m (pc + 1) ls rest)) : W p l e R s m args below meth c H locs cells slots Q (F0 m pc ls (.int x :: .int i :: .ref (ad 7) :: rest)) :=
  x_iast X h 7 (ws' := wm ad cA (sA σ 6 i.toNatClampNeg x)) rfl hin rfl hdg (fun H1 locs1 h1 => kk H1 locs1 _ rfl h1)
theorem N_mmy (X : CX p s m args c cc own D cA) (h : WD D A s (wm ad cA σ) H locs) (hdg : decode cc pc = .ok (.arraylength, 1)) (kk : W p l e R s m args below meth c H locs cells slots Q (F0 m (pc + 1) ls (.int 8 :: rest))) : W p l e R s m args below meth c H locs cells slots Q (F0 m pc ls (.ref (ad 7) :: rest)) :=
  x_alen X h 7 rfl rfl hdg kk
theorem R_mhealth {i : Int32} (X : CX p s m args c cc own D cA) (h : WD D A s (wm ad cA σ) H locs) (hin : vp_in i 8) (hdg : decode cc pc = .ok (.iaload, 1)) (kk : W p l e R s m args below meth c H locs cells slots Q (F0 m (pc + 1) ls (.int (σ.2.2 7 i.toNatClampNeg) :: rest))) : W p l e R s m args below meth c H locs cells slots Q (F0 m pc ls (.int i :: .ref (ad 8) :: rest)) :=
  x_iald X h 8 rfl hin hdg kk
theorem S_mhealth {i x : Int32} (X : CX p s m args c cc own D cA) (h : WD D A s (wm ad cA σ) H locs) (hin : vp_in i 8) (hdg : decode cc pc = .ok (.iastore, 1)) (kk : ∀ (H1 : Heap) (locs1 : List Loc) (σ2 : St), σ2 = sA σ 7 i.toNatClampNeg x → WD D A s (wm ad cA σ2) H1 locs1 → W p l e R s m args below meth c H1 locs1 cells slots Q (F0 m (pc + 1) ls rest)) : W p l e R s m args below meth c H locs cells slots Q (F0 m pc ls (.int x :: .int i :: .ref (ad 8) :: rest)) :=
  x_iast X h 8 (ws' := wm ad cA (sA σ 7 i.toNatClampNeg x)) rfl hin rfl hdg (fun H1 locs1 h1 => kk H1 locs1 _ rfl h1)
theorem N_mhealth (X : CX p s m args c cc own D cA) (h : WD D A s (wm ad cA σ) H locs) (hdg : decode cc pc = .ok (.arraylength, 1)) (kk : W p l e R s m args below meth c H locs cells slots Q (F0 m (pc + 1) ls (.int 8 :: rest))) : W p l e R s m args below meth c H locs cells slots Q (F0 m pc ls (.ref (ad 8) :: rest)) :=
  x_alen X h 8 rfl rfl hdg kk
theorem R_menergy {i : Int32} (X : CX p s m args c cc own D cA) (h : WD D A s (wm ad cA σ) H locs) (hin : vp_in i 8) (hdg : decode cc pc = .ok (.iaload, 1)) (kk : W p l e R s m args below meth c H locs cells slots Q (F0 m (pc + 1) ls (.int (σ.2.2 8 i.toNatClampNeg) :: rest))) : W p l e R s m args below meth c H locs cells slots Q (F0 m pc ls (.int i :: .ref (ad 9) :: rest)) :=
  x_iald X h 9 rfl hin hdg kk
theorem S_menergy {i x : Int32} (X : CX p s m args c cc own D cA) (h : WD D A s (wm ad cA σ) H locs) (hin : vp_in i 8) (hdg : decode cc pc = .ok (.iastore, 1)) (kk : ∀ (H1 : Heap) (locs1 : List Loc) (σ2 : St), σ2 = sA σ 8 i.toNatClampNeg x → WD D A s (wm ad cA σ2) H1 locs1 → W p l e R s m args below meth c H1 locs1 cells slots Q (F0 m (pc + 1) ls rest)) : W p l e R s m args below meth c H locs cells slots Q (F0 m pc ls (.int x :: .int i :: .ref (ad 9) :: rest)) :=
  x_iast X h 9 (ws' := wm ad cA (sA σ 8 i.toNatClampNeg x)) rfl hin rfl hdg (fun H1 locs1 h1 => kk H1 locs1 _ rfl h1)
theorem N_menergy (X : CX p s m args c cc own D cA) (h : WD D A s (wm ad cA σ) H locs) (hdg : decode cc pc = .ok (.arraylength, 1)) (kk : W p l e R s m args below meth c H locs cells slots Q (F0 m (pc + 1) ls (.int 8 :: rest))) : W p l e R s m args below meth c H locs cells slots Q (F0 m pc ls (.ref (ad 9) :: rest)) :=
  x_alen X h 9 rfl rfl hdg kk
theorem R_mawake {i : Int32} (X : CX p s m args c cc own D cA) (h : WD D A s (wm ad cA σ) H locs) (hin : vp_in i 8) (hdg : decode cc pc = .ok (.baload, 1)) (kk : W p l e R s m args below meth c H locs cells slots Q (F0 m (pc + 1) ls (.int (σ.2.2 9 i.toNatClampNeg) :: rest))) : W p l e R s m args below meth c H locs cells slots Q (F0 m pc ls (.int i :: .ref (ad 10) :: rest)) :=
  x_zald X h 10 rfl hin hdg kk
theorem S_mawake {i x : Int32} (X : CX p s m args c cc own D cA) (h : WD D A s (wm ad cA σ) H locs) (hin : vp_in i 8) (hz : vp_nar .boolean x = x) (hdg : decode cc pc = .ok (.bastore, 1)) (kk : ∀ (H1 : Heap) (locs1 : List Loc) (σ2 : St), σ2 = sA σ 9 i.toNatClampNeg x → WD D A s (wm ad cA σ2) H1 locs1 → W p l e R s m args below meth c H1 locs1 cells slots Q (F0 m (pc + 1) ls rest)) : W p l e R s m args below meth c H locs cells slots Q (F0 m pc ls (.int x :: .int i :: .ref (ad 10) :: rest)) :=
  x_zast X h 10 (ws' := wm ad cA (sA σ 9 i.toNatClampNeg x)) rfl hin hz rfl hdg (fun H1 locs1 h1 => kk H1 locs1 _ rfl h1)
theorem N_mawake (X : CX p s m args c cc own D cA) (h : WD D A s (wm ad cA σ) H locs) (hdg : decode cc pc = .ok (.arraylength, 1)) (kk : W p l e R s m args below meth c H locs cells slots Q (F0 m (pc + 1) ls (.int 8 :: rest))) : W p l e R s m args below meth c H locs cells slots Q (F0 m pc ls (.ref (ad 10) :: rest)) :=
  x_alenz X h 10 rfl rfl hdg kk
theorem R_mgone {i : Int32} (X : CX p s m args c cc own D cA) (h : WD D A s (wm ad cA σ) H locs) (hin : vp_in i 8) (hdg : decode cc pc = .ok (.baload, 1)) (kk : W p l e R s m args below meth c H locs cells slots Q (F0 m (pc + 1) ls (.int (σ.2.2 10 i.toNatClampNeg) :: rest))) : W p l e R s m args below meth c H locs cells slots Q (F0 m pc ls (.int i :: .ref (ad 11) :: rest)) :=
  x_zald X h 11 rfl hin hdg kk
theorem S_mgone {i x : Int32} (X : CX p s m args c cc own D cA) (h : WD D A s (wm ad cA σ) H locs) (hin : vp_in i 8) (hz : vp_nar .boolean x = x) (hdg : decode cc pc = .ok (.bastore, 1)) (kk : ∀ (H1 : Heap) (locs1 : List Loc) (σ2 : St), σ2 = sA σ 10 i.toNatClampNeg x → WD D A s (wm ad cA σ2) H1 locs1 → W p l e R s m args below meth c H1 locs1 cells slots Q (F0 m (pc + 1) ls rest)) : W p l e R s m args below meth c H locs cells slots Q (F0 m pc ls (.int x :: .int i :: .ref (ad 11) :: rest)) :=
  x_zast X h 11 (ws' := wm ad cA (sA σ 10 i.toNatClampNeg x)) rfl hin hz rfl hdg (fun H1 locs1 h1 => kk H1 locs1 _ rfl h1)
theorem N_mgone (X : CX p s m args c cc own D cA) (h : WD D A s (wm ad cA σ) H locs) (hdg : decode cc pc = .ok (.arraylength, 1)) (kk : W p l e R s m args below meth c H locs cells slots Q (F0 m (pc + 1) ls (.int 8 :: rest))) : W p l e R s m args below meth c H locs cells slots Q (F0 m pc ls (.ref (ad 11) :: rest)) :=
  x_alenz X h 11 rfl rfl hdg kk
theorem R_mleft {i : Int32} (X : CX p s m args c cc own D cA) (h : WD D A s (wm ad cA σ) H locs) (hin : vp_in i 4) (hdg : decode cc pc = .ok (.iaload, 1)) (kk : W p l e R s m args below meth c H locs cells slots Q (F0 m (pc + 1) ls (.int (σ.2.2 11 i.toNatClampNeg) :: rest))) : W p l e R s m args below meth c H locs cells slots Q (F0 m pc ls (.int i :: .ref (ad 12) :: rest)) :=
  x_iald X h 12 rfl hin hdg kk
theorem S_mleft {i x : Int32} (X : CX p s m args c cc own D cA) (h : WD D A s (wm ad cA σ) H locs) (hin : vp_in i 4) (hdg : decode cc pc = .ok (.iastore, 1)) (kk : ∀ (H1 : Heap) (locs1 : List Loc) (σ2 : St), σ2 = sA σ 11 i.toNatClampNeg x → WD D A s (wm ad cA σ2) H1 locs1 → W p l e R s m args below meth c H1 locs1 cells slots Q (F0 m (pc + 1) ls rest)) : W p l e R s m args below meth c H locs cells slots Q (F0 m pc ls (.int x :: .int i :: .ref (ad 12) :: rest)) :=
  x_iast X h 12 (ws' := wm ad cA (sA σ 11 i.toNatClampNeg x)) rfl hin rfl hdg (fun H1 locs1 h1 => kk H1 locs1 _ rfl h1)
theorem N_mleft (X : CX p s m args c cc own D cA) (h : WD D A s (wm ad cA σ) H locs) (hdg : decode cc pc = .ok (.arraylength, 1)) (kk : W p l e R s m args below meth c H locs cells slots Q (F0 m (pc + 1) ls (.int 4 :: rest))) : W p l e R s m args below meth c H locs cells slots Q (F0 m pc ls (.ref (ad 12) :: rest)) :=
  x_alen X h 12 rfl rfl hdg kk
theorem R_mtop {i : Int32} (X : CX p s m args c cc own D cA) (h : WD D A s (wm ad cA σ) H locs) (hin : vp_in i 4) (hdg : decode cc pc = .ok (.iaload, 1)) (kk : W p l e R s m args below meth c H locs cells slots Q (F0 m (pc + 1) ls (.int (σ.2.2 12 i.toNatClampNeg) :: rest))) : W p l e R s m args below meth c H locs cells slots Q (F0 m pc ls (.int i :: .ref (ad 13) :: rest)) :=
  x_iald X h 13 rfl hin hdg kk
theorem S_mtop {i x : Int32} (X : CX p s m args c cc own D cA) (h : WD D A s (wm ad cA σ) H locs) (hin : vp_in i 4) (hdg : decode cc pc = .ok (.iastore, 1)) (kk : ∀ (H1 : Heap) (locs1 : List Loc) (σ2 : St), σ2 = sA σ 12 i.toNatClampNeg x → WD D A s (wm ad cA σ2) H1 locs1 → W p l e R s m args below meth c H1 locs1 cells slots Q (F0 m (pc + 1) ls rest)) : W p l e R s m args below meth c H locs cells slots Q (F0 m pc ls (.int x :: .int i :: .ref (ad 13) :: rest)) :=
  x_iast X h 13 (ws' := wm ad cA (sA σ 12 i.toNatClampNeg x)) rfl hin rfl hdg (fun H1 locs1 h1 => kk H1 locs1 _ rfl h1)
theorem N_mtop (X : CX p s m args c cc own D cA) (h : WD D A s (wm ad cA σ) H locs) (hdg : decode cc pc = .ok (.arraylength, 1)) (kk : W p l e R s m args below meth c H locs cells slots Q (F0 m (pc + 1) ls (.int 4 :: rest))) : W p l e R s m args below meth c H locs cells slots Q (F0 m pc ls (.ref (ad 13) :: rest)) :=
  x_alen X h 13 rfl rfl hdg kk
theorem R_mwide {i : Int32} (X : CX p s m args c cc own D cA) (h : WD D A s (wm ad cA σ) H locs) (hin : vp_in i 4) (hdg : decode cc pc = .ok (.iaload, 1)) (kk : W p l e R s m args below meth c H locs cells slots Q (F0 m (pc + 1) ls (.int (σ.2.2 13 i.toNatClampNeg) :: rest))) : W p l e R s m args below meth c H locs cells slots Q (F0 m pc ls (.int i :: .ref (ad 14) :: rest)) :=
  x_iald X h 14 rfl hin hdg kk
theorem S_mwide {i x : Int32} (X : CX p s m args c cc own D cA) (h : WD D A s (wm ad cA σ) H locs) (hin : vp_in i 4) (hdg : decode cc pc = .ok (.iastore, 1)) (kk : ∀ (H1 : Heap) (locs1 : List Loc) (σ2 : St), σ2 = sA σ 13 i.toNatClampNeg x → WD D A s (wm ad cA σ2) H1 locs1 → W p l e R s m args below meth c H1 locs1 cells slots Q (F0 m (pc + 1) ls rest)) : W p l e R s m args below meth c H locs cells slots Q (F0 m pc ls (.int x :: .int i :: .ref (ad 14) :: rest)) :=
  x_iast X h 14 (ws' := wm ad cA (sA σ 13 i.toNatClampNeg x)) rfl hin rfl hdg (fun H1 locs1 h1 => kk H1 locs1 _ rfl h1)
theorem N_mwide (X : CX p s m args c cc own D cA) (h : WD D A s (wm ad cA σ) H locs) (hdg : decode cc pc = .ok (.arraylength, 1)) (kk : W p l e R s m args below meth c H locs cells slots Q (F0 m (pc + 1) ls (.int 4 :: rest))) : W p l e R s m args below meth c H locs cells slots Q (F0 m pc ls (.ref (ad 14) :: rest)) :=
  x_alen X h 14 rfl rfl hdg kk
theorem R_mhigh {i : Int32} (X : CX p s m args c cc own D cA) (h : WD D A s (wm ad cA σ) H locs) (hin : vp_in i 4) (hdg : decode cc pc = .ok (.iaload, 1)) (kk : W p l e R s m args below meth c H locs cells slots Q (F0 m (pc + 1) ls (.int (σ.2.2 14 i.toNatClampNeg) :: rest))) : W p l e R s m args below meth c H locs cells slots Q (F0 m pc ls (.int i :: .ref (ad 15) :: rest)) :=
  x_iald X h 15 rfl hin hdg kk
theorem S_mhigh {i x : Int32} (X : CX p s m args c cc own D cA) (h : WD D A s (wm ad cA σ) H locs) (hin : vp_in i 4) (hdg : decode cc pc = .ok (.iastore, 1)) (kk : ∀ (H1 : Heap) (locs1 : List Loc) (σ2 : St), σ2 = sA σ 14 i.toNatClampNeg x → WD D A s (wm ad cA σ2) H1 locs1 → W p l e R s m args below meth c H1 locs1 cells slots Q (F0 m (pc + 1) ls rest)) : W p l e R s m args below meth c H locs cells slots Q (F0 m pc ls (.int x :: .int i :: .ref (ad 15) :: rest)) :=
  x_iast X h 15 (ws' := wm ad cA (sA σ 14 i.toNatClampNeg x)) rfl hin rfl hdg (fun H1 locs1 h1 => kk H1 locs1 _ rfl h1)
theorem N_mhigh (X : CX p s m args c cc own D cA) (h : WD D A s (wm ad cA σ) H locs) (hdg : decode cc pc = .ok (.arraylength, 1)) (kk : W p l e R s m args below meth c H locs cells slots Q (F0 m (pc + 1) ls (.int 4 :: rest))) : W p l e R s m args below meth c H locs cells slots Q (F0 m pc ls (.ref (ad 15) :: rest)) :=
  x_alen X h 15 rfl rfl hdg kk
theorem R_mbag {i : Int32} (X : CX p s m args c cc own D cA) (h : WD D A s (wm ad cA σ) H locs) (hin : vp_in i 5) (hdg : decode cc pc = .ok (.iaload, 1)) (kk : W p l e R s m args below meth c H locs cells slots Q (F0 m (pc + 1) ls (.int (σ.2.2 15 i.toNatClampNeg) :: rest))) : W p l e R s m args below meth c H locs cells slots Q (F0 m pc ls (.int i :: .ref (ad 16) :: rest)) :=
  x_iald X h 16 rfl hin hdg kk
theorem S_mbag {i x : Int32} (X : CX p s m args c cc own D cA) (h : WD D A s (wm ad cA σ) H locs) (hin : vp_in i 5) (hdg : decode cc pc = .ok (.iastore, 1)) (kk : ∀ (H1 : Heap) (locs1 : List Loc) (σ2 : St), σ2 = sA σ 15 i.toNatClampNeg x → WD D A s (wm ad cA σ2) H1 locs1 → W p l e R s m args below meth c H1 locs1 cells slots Q (F0 m (pc + 1) ls rest)) : W p l e R s m args below meth c H locs cells slots Q (F0 m pc ls (.int x :: .int i :: .ref (ad 16) :: rest)) :=
  x_iast X h 16 (ws' := wm ad cA (sA σ 15 i.toNatClampNeg x)) rfl hin rfl hdg (fun H1 locs1 h1 => kk H1 locs1 _ rfl h1)
theorem N_mbag (X : CX p s m args c cc own D cA) (h : WD D A s (wm ad cA σ) H locs) (hdg : decode cc pc = .ok (.arraylength, 1)) (kk : W p l e R s m args below meth c H locs cells slots Q (F0 m (pc + 1) ls (.int 5 :: rest))) : W p l e R s m args below meth c H locs cells slots Q (F0 m pc ls (.ref (ad 16) :: rest)) :=
  x_alen X h 16 rfl rfl hdg kk
theorem R_mkeys {i : Int32} (X : CX p s m args c cc own D cA) (h : WD D A s (wm ad cA σ) H locs) (hin : vp_in i 520) (hdg : decode cc pc = .ok (.iaload, 1)) (kk : W p l e R s m args below meth c H locs cells slots Q (F0 m (pc + 1) ls (.int (σ.2.2 16 i.toNatClampNeg) :: rest))) : W p l e R s m args below meth c H locs cells slots Q (F0 m pc ls (.int i :: .ref (ad 17) :: rest)) :=
  x_iald X h 17 rfl hin hdg kk
theorem S_mkeys {i x : Int32} (X : CX p s m args c cc own D cA) (h : WD D A s (wm ad cA σ) H locs) (hin : vp_in i 520) (hdg : decode cc pc = .ok (.iastore, 1)) (kk : ∀ (H1 : Heap) (locs1 : List Loc) (σ2 : St), σ2 = sA σ 16 i.toNatClampNeg x → WD D A s (wm ad cA σ2) H1 locs1 → W p l e R s m args below meth c H1 locs1 cells slots Q (F0 m (pc + 1) ls rest)) : W p l e R s m args below meth c H locs cells slots Q (F0 m pc ls (.int x :: .int i :: .ref (ad 17) :: rest)) :=
  x_iast X h 17 (ws' := wm ad cA (sA σ 16 i.toNatClampNeg x)) rfl hin rfl hdg (fun H1 locs1 h1 => kk H1 locs1 _ rfl h1)
theorem N_mkeys (X : CX p s m args c cc own D cA) (h : WD D A s (wm ad cA σ) H locs) (hdg : decode cc pc = .ok (.arraylength, 1)) (kk : W p l e R s m args below meth c H locs cells slots Q (F0 m (pc + 1) ls (.int 520 :: rest))) : W p l e R s m args below meth c H locs cells slots Q (F0 m pc ls (.ref (ad 17) :: rest)) :=
  x_alen X h 17 rfl rfl hdg kk
end W_wm
end
section
theorem d_Hero_isDead_0 : decode b_Hero_isDead 0 = .ok (.aload_n 0, 1) := by decide +kernel
theorem d_Hero_isDead_1 : decode b_Hero_isDead 1 = .ok (.getfield 22, 3) := by decide +kernel
theorem d_Hero_isDead_4 : decode b_Hero_isDead 4 = .ok (.ifCond .gt 7, 3) := by decide +kernel
theorem d_Hero_isDead_7 : decode b_Hero_isDead 7 = .ok (.iconst 1, 1) := by decide +kernel
theorem d_Hero_isDead_8 : decode b_Hero_isDead 8 = .ok (.goto 4, 3) := by decide +kernel
theorem d_Hero_isDead_11 : decode b_Hero_isDead 11 = .ok (.iconst 0, 1) := by decide +kernel
theorem d_Hero_isDead_12 : decode b_Hero_isDead 12 = .ok (.ireturn, 1) := by decide +kernel
def f_Hero_isDead (n : Nat) (σ : St) : Option (Int32 × St) := if 0 < (σ.1 10) then (some (0, σ)) else (some (1, σ))
set_option maxHeartbeats 4000000 in
set_option maxRecDepth 100000 in
theorem c_Hero_isDead (l : Launch) (D : va_G) (ad : Nat → Nat) (cA : Nat → ClassId) (tz : Nat → Nat) (n : Nat) (σ : St) (r : Int32) (σr : St) (hf : f_Hero_isDead n σ = some (r, σr)) : Ki l D cA tz (wl ad cA) y_Hero_isDead (.code y_Hero_isDead b_Hero_isDead 1 (some .boolean) :: TB) ({ frames := 0, cells := 0, slots := 0, locals := 0 }) [.ref (ad 8)] σ r σr := by
  refine x_openz (own := R_Hero) rfl (by decide) (fun p e s m args below meth c A Q X hml hZ hA H locs ls h hl rt => ?_)
  have hx := X.1
  have hb := X.2.1
  have hl : lv_has ls 1 [(0, .ref (ad 8))] := hl
  unfold f_Hero_isDead at hf
  refine lv_aload_n hx hb d_Hero_isDead_0 rfl (lv_at hl 0 rfl) ?_
  refine G_hero_health X h m_f_Hero_22 d_Hero_isDead_1 ?_
  refine lv_if_gt (tgt := 11) hx hb d_Hero_isDead_4 (by decide) (fun c1 => ?_) (fun c1 => ?_)
  · have hf := it c1 hf
    refine lv_iconst (v := 0) hx hb d_Hero_isDead_11 (by decide) ?_
    exact rt _ _ H locs 12 ls rfl hf h d_Hero_isDead_12
  · have hf := ie c1 hf
    refine lv_iconst (v := 1) hx hb d_Hero_isDead_7 (by decide) ?_
    refine lv_goto (tgt := 12) hx hb d_Hero_isDead_8 (by decide) ?_
    exact rt _ _ H locs 12 ls rfl hf h d_Hero_isDead_12
theorem d_Level_isCell_0 : decode b_Level_isCell 0 = .ok (.iload_n 0, 1) := by decide +kernel
theorem d_Level_isCell_1 : decode b_Level_isCell 1 = .ok (.ifCond .lt 13, 3) := by decide +kernel
theorem d_Level_isCell_4 : decode b_Level_isCell 4 = .ok (.iload_n 0, 1) := by decide +kernel
theorem d_Level_isCell_5 : decode b_Level_isCell 5 = .ok (.bipush 120, 2) := by decide +kernel
theorem d_Level_isCell_7 : decode b_Level_isCell 7 = .ok (.if_icmp .ge 7, 3) := by decide +kernel
theorem d_Level_isCell_10 : decode b_Level_isCell 10 = .ok (.iconst 1, 1) := by decide +kernel
theorem d_Level_isCell_11 : decode b_Level_isCell 11 = .ok (.goto 4, 3) := by decide +kernel
theorem d_Level_isCell_14 : decode b_Level_isCell 14 = .ok (.iconst 0, 1) := by decide +kernel
theorem d_Level_isCell_15 : decode b_Level_isCell 15 = .ok (.ireturn, 1) := by decide +kernel
def f_Level_isCell (n : Nat) (x0 : Int32) (σ : St) : Option (Int32 × St) := if x0 < 0 then (some (0, σ)) else (if 120 ≤ x0 then (some (0, σ)) else (some (1, σ)))
set_option maxHeartbeats 4000000 in
set_option maxRecDepth 100000 in
theorem c_Level_isCell (l : Launch) (D : va_G) (ad : Nat → Nat) (cA : Nat → ClassId) (tz : Nat → Nat) (n : Nat) (x0 : Int32) (σ : St) (r : Int32) (σr : St) (hf : f_Level_isCell n x0 σ = some (r, σr)) : Ki l D cA tz (wl ad cA) y_Level_isCell (.code y_Level_isCell b_Level_isCell 1 (some .boolean) :: TB) ({ frames := 0, cells := 0, slots := 0, locals := 0 }) [.int x0] σ r σr := by
  refine x_openz (own := R_Level) rfl (by decide) (fun p e s m args below meth c A Q X hml hZ hA H locs ls h hl rt => ?_)
  have hx := X.1
  have hb := X.2.1
  have hl : lv_has ls 1 [(0, .int x0)] := hl
  unfold f_Level_isCell at hf
  refine lv_iload_n hx hb d_Level_isCell_0 rfl (lv_at hl 0 rfl) ?_
  refine lv_if_lt (tgt := 14) hx hb d_Level_isCell_1 (by decide) (fun c1 => ?_) (fun c1 => ?_)
  · have hf := it c1 hf
    refine lv_iconst (v := 0) hx hb d_Level_isCell_14 (by decide) ?_
    exact rt _ _ H locs 15 ls rfl hf h d_Level_isCell_15
  · have hf := ie c1 hf
    refine lv_iload_n hx hb d_Level_isCell_4 rfl (lv_at hl 0 rfl) ?_
    refine lv_bipush (v := 120) hx hb d_Level_isCell_5 (by decide) ?_
    refine lv_icmp_ge (tgt := 14) hx hb d_Level_isCell_7 (by decide) (fun c2 => ?_) (fun c2 => ?_)
    · have hf := it c2 hf
      refine lv_iconst (v := 0) hx hb d_Level_isCell_14 (by decide) ?_
      exact rt _ _ H locs 15 ls rfl hf h d_Level_isCell_15
    · have hf := ie c2 hf
      refine lv_iconst (v := 1) hx hb d_Level_isCell_10 (by decide) ?_
      refine lv_goto (tgt := 15) hx hb d_Level_isCell_11 (by decide) ?_
      exact rt _ _ H locs 15 ls rfl hf h d_Level_isCell_15
theorem d_Level_hasStairs_0 : decode b_Level_hasStairs 0 = .ok (.iload_n 1, 1) := by decide +kernel
theorem d_Level_hasStairs_1 : decode b_Level_hasStairs 1 = .ok (.invokestatic 34, 3) := by decide +kernel
theorem d_Level_hasStairs_4 : decode b_Level_hasStairs 4 = .ok (.ifCond .eq 17, 3) := by decide +kernel
theorem d_Level_hasStairs_7 : decode b_Level_hasStairs 7 = .ok (.aload_n 0, 1) := by decide +kernel
theorem d_Level_hasStairs_8 : decode b_Level_hasStairs 8 = .ok (.getfield 9, 3) := by decide +kernel
theorem d_Level_hasStairs_11 : decode b_Level_hasStairs 11 = .ok (.iload_n 1, 1) := by decide +kernel
theorem d_Level_hasStairs_12 : decode b_Level_hasStairs 12 = .ok (.iaload, 1) := by decide +kernel
theorem d_Level_hasStairs_13 : decode b_Level_hasStairs 13 = .ok (.iconst 2, 1) := by decide +kernel
theorem d_Level_hasStairs_14 : decode b_Level_hasStairs 14 = .ok (.if_icmp .ne 7, 3) := by decide +kernel
theorem d_Level_hasStairs_17 : decode b_Level_hasStairs 17 = .ok (.iconst 1, 1) := by decide +kernel
theorem d_Level_hasStairs_18 : decode b_Level_hasStairs 18 = .ok (.goto 4, 3) := by decide +kernel
theorem d_Level_hasStairs_21 : decode b_Level_hasStairs 21 = .ok (.iconst 0, 1) := by decide +kernel
theorem d_Level_hasStairs_22 : decode b_Level_hasStairs 22 = .ok (.ireturn, 1) := by decide +kernel
def f_Level_hasStairs (n : Nat) (x1 : Int32) (σ : St) : Option (Int32 × St) := bd (f_Level_isCell n x1 σ) (fun r1 σ2 => if r1 = 0 then (some (0, σ2)) else (gd (inb x1 120) (if (σ2.2.2 1 x1.toNatClampNeg) = 2 then (some (1, σ2)) else (some (0, σ2)))))
set_option maxHeartbeats 4000000 in
set_option maxRecDepth 100000 in
theorem c_Level_hasStairs (l : Launch) (D : va_G) (ad : Nat → Nat) (cA : Nat → ClassId) (tz : Nat → Nat) (n : Nat) (x1 : Int32) (σ : St) (r : Int32) (σr : St) (hf : f_Level_hasStairs n x1 σ = some (r, σr)) : Ki l D cA tz (wl ad cA) y_Level_hasStairs (.code y_Level_hasStairs b_Level_hasStairs 2 (some .boolean) :: TB) ({ frames := 1, cells := 0, slots := 0, locals := 20 }) [.ref (ad 5), .int x1] σ r σr := by
  refine x_openz (own := R_Level) rfl (by decide) (fun p e s m args below meth c A Q X hml hZ hA H locs ls h hl rt => ?_)
  have hx := X.1
  have hb := X.2.1
  have hl : lv_has ls 2 [(0, .ref (ad 5)), (1, .int x1)] := hl
  unfold f_Level_hasStairs at hf
  refine lv_iload_n hx hb d_Level_hasStairs_0 rfl (lv_at hl 1 rfl) ?_
  obtain ⟨r1, σ2, h3, hf⟩ := bd_s hf
  refine x_Si (As := [.int x1]) (rest := []) X hml hl.1 hZ hA h (c_Level_isCell l D ad cA tz n x1 σ r1 σ2 h3) k_Level_isCell m_m_Level_34 kd_Level_isCell ⟨rfl, rfl, Nat.le_of_ble_eq_true rfl, Nat.le_of_ble_eq_true rfl⟩ rfl rfl (Nat.le_of_ble_eq_true rfl) d_Level_hasStairs_1 (fun H locs h => ?_)
  refine lv_if_eq (tgt := 21) hx hb d_Level_hasStairs_4 (by decide) (fun c4 => ?_) (fun c4 => ?_)
  · have hf := it c4 hf
    refine lv_iconst (v := 0) hx hb d_Level_hasStairs_21 (by decide) ?_
    exact rt _ _ H locs 22 ls rfl hf h d_Level_hasStairs_22
  · have hf := ie c4 hf
    refine lv_aload_n hx hb d_Level_hasStairs_7 rfl (lv_at hl 0 rfl) ?_
    refine G_level_ground X h m_f_Level_9 d_Level_hasStairs_8 ?_
    refine lv_iload_n hx hb d_Level_hasStairs_11 rfl (lv_at hl 1 rfl) ?_
    obtain ⟨g5, hf⟩ := gd_s hf
    refine R_ground X h (inb_s g5) d_Level_hasStairs_12 ?_
    refine lv_iconst (v := 2) hx hb d_Level_hasStairs_13 (by decide) ?_
    refine lv_icmp_ne (tgt := 21) hx hb d_Level_hasStairs_14 (by decide) (fun c6 => ?_) (fun c6 => ?_)
    · have hf := ie c6 hf
      refine lv_iconst (v := 0) hx hb d_Level_hasStairs_21 (by decide) ?_
      exact rt _ _ H locs 22 ls rfl hf h d_Level_hasStairs_22
    · have hf := it c6 hf
      refine lv_iconst (v := 1) hx hb d_Level_hasStairs_17 (by decide) ?_
      refine lv_goto (tgt := 22) hx hb d_Level_hasStairs_18 (by decide) ?_
      exact rt _ _ H locs 22 ls rfl hf h d_Level_hasStairs_22
theorem d_Arrays_fill_0 : decode b_Arrays_fill 0 = .ok (.iconst 0, 1) := by decide +kernel
theorem d_Arrays_fill_1 : decode b_Arrays_fill 1 = .ok (.istore_n 2, 1) := by decide +kernel
theorem d_Arrays_fill_2 : decode b_Arrays_fill 2 = .ok (.aload_n 0, 1) := by decide +kernel
theorem d_Arrays_fill_3 : decode b_Arrays_fill 3 = .ok (.arraylength, 1) := by decide +kernel
theorem d_Arrays_fill_4 : decode b_Arrays_fill 4 = .ok (.istore_n 3, 1) := by decide +kernel
theorem d_Arrays_fill_5 : decode b_Arrays_fill 5 = .ok (.iload_n 2, 1) := by decide +kernel
theorem d_Arrays_fill_6 : decode b_Arrays_fill 6 = .ok (.iload_n 3, 1) := by decide +kernel
theorem d_Arrays_fill_7 : decode b_Arrays_fill 7 = .ok (.if_icmp .ge 13, 3) := by decide +kernel
theorem d_Arrays_fill_10 : decode b_Arrays_fill 10 = .ok (.aload_n 0, 1) := by decide +kernel
theorem d_Arrays_fill_11 : decode b_Arrays_fill 11 = .ok (.iload_n 2, 1) := by decide +kernel
theorem d_Arrays_fill_12 : decode b_Arrays_fill 12 = .ok (.iload_n 1, 1) := by decide +kernel
theorem d_Arrays_fill_13 : decode b_Arrays_fill 13 = .ok (.iastore, 1) := by decide +kernel
theorem d_Arrays_fill_14 : decode b_Arrays_fill 14 = .ok (.iinc 2 1, 3) := by decide +kernel
theorem d_Arrays_fill_17 : decode b_Arrays_fill 17 = .ok (.goto (-12), 3) := by decide +kernel
theorem d_Arrays_fill_20 : decode b_Arrays_fill 20 = .ok (.return_, 1) := by decide +kernel
def f_Arrays_fill_ground_5 (n : Nat) : Nat → Int32 → Int32 → Int32 → St → Option (Unit × St)
  | 0, _, _, _, _ => none
  | j + 1, y1, y2, y3, σ => if y3 ≤ y2 then (some ((), σ)) else (gd (inb y2 120) (bnd (sA σ 1 y2.toNatClampNeg y1) (fun σ3 => bnd (y2 + 1) (fun v4 => f_Arrays_fill_ground_5 n j y1 v4 y3 σ3))))
theorem f_Arrays_fill_ground_5_s (n : Nat) (j : Nat) (y1 : Int32) (y2 : Int32) (y3 : Int32) (σ : St) : f_Arrays_fill_ground_5 n (j + 1) y1 y2 y3 σ = (if y3 ≤ y2 then (some ((), σ)) else (gd (inb y2 120) (bnd (sA σ 1 y2.toNatClampNeg y1) (fun σ3 => bnd (y2 + 1) (fun v4 => f_Arrays_fill_ground_5 n j y1 v4 y3 σ3))))) := rfl
def f_Arrays_fill_ground (n : Nat) (x1 : Int32) (σ : St) : Option (Unit × St) := f_Arrays_fill_ground_5 n n x1 0 120 σ
set_option maxHeartbeats 4000000 in
set_option maxRecDepth 100000 in
theorem c_Arrays_fill_ground (l : Launch) (D : va_G) (ad : Nat → Nat) (cA : Nat → ClassId) (tz : Nat → Nat) (n : Nat) (x1 : Int32) (σ : St) (r : Unit) (σr : St) (hf : f_Arrays_fill_ground n x1 σ = some (r, σr)) : Kv l D cA tz (wl ad cA) y_Arrays_fill (.code y_Arrays_fill b_Arrays_fill 4 none :: TB) ({ frames := 0, cells := 0, slots := 0, locals := 0 }) [.ref (ad 10), .int x1] σ σr := by
  refine x_openv (own := R_Arrays) rfl (by decide) (fun p e s m args below meth c A Q X hml hZ hA H locs ls h hl rt => ?_)
  have hx := X.1
  have hb := X.2.1
  have hl : lv_has ls 4 [(0, .ref (ad 10)), (1, .int x1)] := hl
  have L5 : ∀ j : Nat, ∀ (y1 : Int32) (y2 : Int32) (y3 : Int32) (σ : St), f_Arrays_fill_ground_5 n j y1 y2 y3 σ = some (r, σr) → ∀ (H : Heap) (locs : List Loc) (ls : Array Slot), WD D A s (wl ad cA σ) H locs → lv_has ls 4 [(0, .ref (ad 10)), (1, .int y1), (2, .int y2), (3, .int y3)] → W p l e ({ frames := 0, cells := 0, slots := 0, locals := 0 }) s m args below meth c H locs 0 0 Q (F0 m 5 ls []) := by
    intro j
    induction j with
    | zero => intro y1 y2 y3 σ hf; exact absurd hf (fun z => by cases z)
    | succ j ih =>
      intro y1 y2 y3 σ hf H locs ls h hl
      have hf := us (f_Arrays_fill_ground_5_s n j y1 y2 y3 σ) hf
      refine lv_iload_n hx hb d_Arrays_fill_5 rfl (lv_at hl 2 rfl) ?_
      refine lv_iload_n hx hb d_Arrays_fill_6 rfl (lv_at hl 3 rfl) ?_
      refine lv_icmp_ge (tgt := 20) hx hb d_Arrays_fill_7 (by decide) (fun c1 => ?_) (fun c1 => ?_)
      · have hf := it c1 hf
        exact rt _ H locs 20 ls hf h d_Arrays_fill_20
      · have hf := ie c1 hf
        refine lv_aload_n hx hb d_Arrays_fill_10 rfl (lv_at hl 0 rfl) ?_
        refine lv_iload_n hx hb d_Arrays_fill_11 rfl (lv_at hl 2 rfl) ?_
        refine lv_iload_n hx hb d_Arrays_fill_12 rfl (lv_at hl 1 rfl) ?_
        obtain ⟨g2, hf⟩ := gd_s hf
        refine S_ground X h (inb_s g2) d_Arrays_fill_13 (fun H locs σ3 eσ3 h => ?_)
        have hf := nm_b hf eσ3
        obtain ⟨v4, ev4⟩ : ∃ y : Int32, y = y2 + 1 := ⟨_, rfl⟩
        have hf := nm_b hf ev4
        refine lv_iinc (v := v4) (lv' := [(2, .int v4), (0, .ref (ad 10)), (1, .int y1), (3, .int y3)]) hx hb d_Arrays_fill_14 hl (k := 2) rfl (by rw [ev4]; rfl) (by decide) rfl (fun ls hl => ?_)
        refine lv_goto (tgt := 5) hx hb d_Arrays_fill_17 (by decide) ?_
        exact ih y1 v4 y3 σ3 hf H locs ls h (lv_sub hl [1, 2, 0, 3] rfl)
  unfold f_Arrays_fill_ground at hf
  refine lv_iconst (v := 0) hx hb d_Arrays_fill_0 (by decide) ?_
  refine lv_istore_n (lv' := [(2, .int 0), (0, .ref (ad 10)), (1, .int x1)]) hx hb d_Arrays_fill_1 rfl hl (by decide) rfl (fun ls hl => ?_)
  refine lv_aload_n hx hb d_Arrays_fill_2 rfl (lv_at hl 1 rfl) ?_
  refine N_ground X h d_Arrays_fill_3 ?_
  refine lv_istore_n (lv' := [(3, .int 120), (2, .int 0), (0, .ref (ad 10)), (1, .int x1)]) hx hb d_Arrays_fill_4 rfl hl (by decide) rfl (fun ls hl => ?_)
  exact L5 n x1 0 120 σ hf H locs ls h (lv_sub hl [2, 3, 1, 0] rfl)
def f_Arrays_fill_things_5 (n : Nat) : Nat → Int32 → Int32 → Int32 → St → Option (Unit × St)
  | 0, _, _, _, _ => none
  | j + 1, y1, y2, y3, σ => if y3 ≤ y2 then (some ((), σ)) else (gd (inb y2 120) (bnd (sA σ 2 y2.toNatClampNeg y1) (fun σ3 => bnd (y2 + 1) (fun v4 => f_Arrays_fill_things_5 n j y1 v4 y3 σ3))))
theorem f_Arrays_fill_things_5_s (n : Nat) (j : Nat) (y1 : Int32) (y2 : Int32) (y3 : Int32) (σ : St) : f_Arrays_fill_things_5 n (j + 1) y1 y2 y3 σ = (if y3 ≤ y2 then (some ((), σ)) else (gd (inb y2 120) (bnd (sA σ 2 y2.toNatClampNeg y1) (fun σ3 => bnd (y2 + 1) (fun v4 => f_Arrays_fill_things_5 n j y1 v4 y3 σ3))))) := rfl
def f_Arrays_fill_things (n : Nat) (x1 : Int32) (σ : St) : Option (Unit × St) := f_Arrays_fill_things_5 n n x1 0 120 σ
set_option maxHeartbeats 4000000 in
set_option maxRecDepth 100000 in
theorem c_Arrays_fill_things (l : Launch) (D : va_G) (ad : Nat → Nat) (cA : Nat → ClassId) (tz : Nat → Nat) (n : Nat) (x1 : Int32) (σ : St) (r : Unit) (σr : St) (hf : f_Arrays_fill_things n x1 σ = some (r, σr)) : Kv l D cA tz (wl ad cA) y_Arrays_fill (.code y_Arrays_fill b_Arrays_fill 4 none :: TB) ({ frames := 0, cells := 0, slots := 0, locals := 0 }) [.ref (ad 11), .int x1] σ σr := by
  refine x_openv (own := R_Arrays) rfl (by decide) (fun p e s m args below meth c A Q X hml hZ hA H locs ls h hl rt => ?_)
  have hx := X.1
  have hb := X.2.1
  have hl : lv_has ls 4 [(0, .ref (ad 11)), (1, .int x1)] := hl
  have L5 : ∀ j : Nat, ∀ (y1 : Int32) (y2 : Int32) (y3 : Int32) (σ : St), f_Arrays_fill_things_5 n j y1 y2 y3 σ = some (r, σr) → ∀ (H : Heap) (locs : List Loc) (ls : Array Slot), WD D A s (wl ad cA σ) H locs → lv_has ls 4 [(0, .ref (ad 11)), (1, .int y1), (2, .int y2), (3, .int y3)] → W p l e ({ frames := 0, cells := 0, slots := 0, locals := 0 }) s m args below meth c H locs 0 0 Q (F0 m 5 ls []) := by
    intro j
    induction j with
    | zero => intro y1 y2 y3 σ hf; exact absurd hf (fun z => by cases z)
    | succ j ih =>
      intro y1 y2 y3 σ hf H locs ls h hl
      have hf := us (f_Arrays_fill_things_5_s n j y1 y2 y3 σ) hf
      refine lv_iload_n hx hb d_Arrays_fill_5 rfl (lv_at hl 2 rfl) ?_
      refine lv_iload_n hx hb d_Arrays_fill_6 rfl (lv_at hl 3 rfl) ?_
      refine lv_icmp_ge (tgt := 20) hx hb d_Arrays_fill_7 (by decide) (fun c1 => ?_) (fun c1 => ?_)
      · have hf := it c1 hf
        exact rt _ H locs 20 ls hf h d_Arrays_fill_20
      · have hf := ie c1 hf
        refine lv_aload_n hx hb d_Arrays_fill_10 rfl (lv_at hl 0 rfl) ?_
        refine lv_iload_n hx hb d_Arrays_fill_11 rfl (lv_at hl 2 rfl) ?_
        refine lv_iload_n hx hb d_Arrays_fill_12 rfl (lv_at hl 1 rfl) ?_
        obtain ⟨g2, hf⟩ := gd_s hf
        refine S_things X h (inb_s g2) d_Arrays_fill_13 (fun H locs σ3 eσ3 h => ?_)
        have hf := nm_b hf eσ3
        obtain ⟨v4, ev4⟩ : ∃ y : Int32, y = y2 + 1 := ⟨_, rfl⟩
        have hf := nm_b hf ev4
        refine lv_iinc (v := v4) (lv' := [(2, .int v4), (0, .ref (ad 11)), (1, .int y1), (3, .int y3)]) hx hb d_Arrays_fill_14 hl (k := 2) rfl (by rw [ev4]; rfl) (by decide) rfl (fun ls hl => ?_)
        refine lv_goto (tgt := 5) hx hb d_Arrays_fill_17 (by decide) ?_
        exact ih y1 v4 y3 σ3 hf H locs ls h (lv_sub hl [1, 2, 0, 3] rfl)
  unfold f_Arrays_fill_things at hf
  refine lv_iconst (v := 0) hx hb d_Arrays_fill_0 (by decide) ?_
  refine lv_istore_n (lv' := [(2, .int 0), (0, .ref (ad 11)), (1, .int x1)]) hx hb d_Arrays_fill_1 rfl hl (by decide) rfl (fun ls hl => ?_)
  refine lv_aload_n hx hb d_Arrays_fill_2 rfl (lv_at hl 1 rfl) ?_
  refine N_things X h d_Arrays_fill_3 ?_
  refine lv_istore_n (lv' := [(3, .int 120), (2, .int 0), (0, .ref (ad 11)), (1, .int x1)]) hx hb d_Arrays_fill_4 rfl hl (by decide) rfl (fun ls hl => ?_)
  exact L5 n x1 0 120 σ hf H locs ls h (lv_sub hl [2, 3, 1, 0] rfl)
def f_Arrays_fill_known_5 (n : Nat) : Nat → Int32 → Int32 → Int32 → St → Option (Unit × St)
  | 0, _, _, _, _ => none
  | j + 1, y1, y2, y3, σ => if y3 ≤ y2 then (some ((), σ)) else (gd (inb y2 120) (bnd (sA σ 3 y2.toNatClampNeg y1) (fun σ3 => bnd (y2 + 1) (fun v4 => f_Arrays_fill_known_5 n j y1 v4 y3 σ3))))
theorem f_Arrays_fill_known_5_s (n : Nat) (j : Nat) (y1 : Int32) (y2 : Int32) (y3 : Int32) (σ : St) : f_Arrays_fill_known_5 n (j + 1) y1 y2 y3 σ = (if y3 ≤ y2 then (some ((), σ)) else (gd (inb y2 120) (bnd (sA σ 3 y2.toNatClampNeg y1) (fun σ3 => bnd (y2 + 1) (fun v4 => f_Arrays_fill_known_5 n j y1 v4 y3 σ3))))) := rfl
def f_Arrays_fill_known (n : Nat) (x1 : Int32) (σ : St) : Option (Unit × St) := f_Arrays_fill_known_5 n n x1 0 120 σ
set_option maxHeartbeats 4000000 in
set_option maxRecDepth 100000 in
theorem c_Arrays_fill_known (l : Launch) (D : va_G) (ad : Nat → Nat) (cA : Nat → ClassId) (tz : Nat → Nat) (n : Nat) (x1 : Int32) (σ : St) (r : Unit) (σr : St) (hf : f_Arrays_fill_known n x1 σ = some (r, σr)) : Kv l D cA tz (wl ad cA) y_Arrays_fill (.code y_Arrays_fill b_Arrays_fill 4 none :: TB) ({ frames := 0, cells := 0, slots := 0, locals := 0 }) [.ref (ad 12), .int x1] σ σr := by
  refine x_openv (own := R_Arrays) rfl (by decide) (fun p e s m args below meth c A Q X hml hZ hA H locs ls h hl rt => ?_)
  have hx := X.1
  have hb := X.2.1
  have hl : lv_has ls 4 [(0, .ref (ad 12)), (1, .int x1)] := hl
  have L5 : ∀ j : Nat, ∀ (y1 : Int32) (y2 : Int32) (y3 : Int32) (σ : St), f_Arrays_fill_known_5 n j y1 y2 y3 σ = some (r, σr) → ∀ (H : Heap) (locs : List Loc) (ls : Array Slot), WD D A s (wl ad cA σ) H locs → lv_has ls 4 [(0, .ref (ad 12)), (1, .int y1), (2, .int y2), (3, .int y3)] → W p l e ({ frames := 0, cells := 0, slots := 0, locals := 0 }) s m args below meth c H locs 0 0 Q (F0 m 5 ls []) := by
    intro j
    induction j with
    | zero => intro y1 y2 y3 σ hf; exact absurd hf (fun z => by cases z)
    | succ j ih =>
      intro y1 y2 y3 σ hf H locs ls h hl
      have hf := us (f_Arrays_fill_known_5_s n j y1 y2 y3 σ) hf
      refine lv_iload_n hx hb d_Arrays_fill_5 rfl (lv_at hl 2 rfl) ?_
      refine lv_iload_n hx hb d_Arrays_fill_6 rfl (lv_at hl 3 rfl) ?_
      refine lv_icmp_ge (tgt := 20) hx hb d_Arrays_fill_7 (by decide) (fun c1 => ?_) (fun c1 => ?_)
      · have hf := it c1 hf
        exact rt _ H locs 20 ls hf h d_Arrays_fill_20
      · have hf := ie c1 hf
        refine lv_aload_n hx hb d_Arrays_fill_10 rfl (lv_at hl 0 rfl) ?_
        refine lv_iload_n hx hb d_Arrays_fill_11 rfl (lv_at hl 2 rfl) ?_
        refine lv_iload_n hx hb d_Arrays_fill_12 rfl (lv_at hl 1 rfl) ?_
        obtain ⟨g2, hf⟩ := gd_s hf
        refine S_known X h (inb_s g2) d_Arrays_fill_13 (fun H locs σ3 eσ3 h => ?_)
        have hf := nm_b hf eσ3
        obtain ⟨v4, ev4⟩ : ∃ y : Int32, y = y2 + 1 := ⟨_, rfl⟩
        have hf := nm_b hf ev4
        refine lv_iinc (v := v4) (lv' := [(2, .int v4), (0, .ref (ad 12)), (1, .int y1), (3, .int y3)]) hx hb d_Arrays_fill_14 hl (k := 2) rfl (by rw [ev4]; rfl) (by decide) rfl (fun ls hl => ?_)
        refine lv_goto (tgt := 5) hx hb d_Arrays_fill_17 (by decide) ?_
        exact ih y1 v4 y3 σ3 hf H locs ls h (lv_sub hl [1, 2, 0, 3] rfl)
  unfold f_Arrays_fill_known at hf
  refine lv_iconst (v := 0) hx hb d_Arrays_fill_0 (by decide) ?_
  refine lv_istore_n (lv' := [(2, .int 0), (0, .ref (ad 12)), (1, .int x1)]) hx hb d_Arrays_fill_1 rfl hl (by decide) rfl (fun ls hl => ?_)
  refine lv_aload_n hx hb d_Arrays_fill_2 rfl (lv_at hl 1 rfl) ?_
  refine N_known X h d_Arrays_fill_3 ?_
  refine lv_istore_n (lv' := [(3, .int 120), (2, .int 0), (0, .ref (ad 12)), (1, .int x1)]) hx hb d_Arrays_fill_4 rfl hl (by decide) rfl (fun ls hl => ?_)
  exact L5 n x1 0 120 σ hf H locs ls h (lv_sub hl [2, 3, 1, 0] rfl)
theorem d_Level_clear_0 : decode b_Level_clear 0 = .ok (.aload_n 0, 1) := by decide +kernel
theorem d_Level_clear_1 : decode b_Level_clear 1 = .ok (.getfield 9, 3) := by decide +kernel
theorem d_Level_clear_4 : decode b_Level_clear 4 = .ok (.iconst 0, 1) := by decide +kernel
theorem d_Level_clear_5 : decode b_Level_clear 5 = .ok (.invokestatic 25, 3) := by decide +kernel
theorem d_Level_clear_8 : decode b_Level_clear 8 = .ok (.aload_n 0, 1) := by decide +kernel
theorem d_Level_clear_9 : decode b_Level_clear 9 = .ok (.getfield 15, 3) := by decide +kernel
theorem d_Level_clear_12 : decode b_Level_clear 12 = .ok (.iconst 0, 1) := by decide +kernel
theorem d_Level_clear_13 : decode b_Level_clear 13 = .ok (.invokestatic 25, 3) := by decide +kernel
theorem d_Level_clear_16 : decode b_Level_clear 16 = .ok (.aload_n 0, 1) := by decide +kernel
theorem d_Level_clear_17 : decode b_Level_clear 17 = .ok (.getfield 18, 3) := by decide +kernel
theorem d_Level_clear_20 : decode b_Level_clear 20 = .ok (.iconst 0, 1) := by decide +kernel
theorem d_Level_clear_21 : decode b_Level_clear 21 = .ok (.invokestatic 25, 3) := by decide +kernel
theorem d_Level_clear_24 : decode b_Level_clear 24 = .ok (.return_, 1) := by decide +kernel
def f_Level_clear (n : Nat) (σ : St) : Option (Unit × St) := bd (f_Arrays_fill_ground n 0 σ) (fun _ σ2 => bd (f_Arrays_fill_things n 0 σ2) (fun _ σ5 => bd (f_Arrays_fill_known n 0 σ5) (fun _ σ8 => some ((), σ8))))
set_option maxHeartbeats 4000000 in
set_option maxRecDepth 100000 in
theorem c_Level_clear (l : Launch) (D : va_G) (ad : Nat → Nat) (cA : Nat → ClassId) (tz : Nat → Nat) (n : Nat) (σ : St) (r : Unit) (σr : St) (hf : f_Level_clear n σ = some (r, σr)) : Kv l D cA tz (wl ad cA) y_Level_clear (.code y_Level_clear b_Level_clear 1 none :: TB) ({ frames := 1, cells := 0, slots := 0, locals := 23 }) [.ref (ad 5)] σ σr := by
  refine x_openv (own := R_Level) rfl (by decide) (fun p e s m args below meth c A Q X hml hZ hA H locs ls h hl rt => ?_)
  have hx := X.1
  have hb := X.2.1
  have hl : lv_has ls 1 [(0, .ref (ad 5))] := hl
  unfold f_Level_clear at hf
  refine lv_aload_n hx hb d_Level_clear_0 rfl (lv_at hl 0 rfl) ?_
  refine G_level_ground X h m_f_Level_9 d_Level_clear_1 ?_
  refine lv_iconst (v := 0) hx hb d_Level_clear_4 (by decide) ?_
  obtain ⟨r1, σ2, h3, hf⟩ := bd_s hf
  refine x_Sv (As := [.ref (ad 10), .int 0]) (rest := []) X hml hl.1 hZ hA h (c_Arrays_fill_ground l D ad cA tz n 0 σ r1 σ2 h3) k_Arrays_fill m_m_Level_25 kd_Arrays_fill ⟨rfl, rfl, Nat.le_of_ble_eq_true rfl, Nat.le_of_ble_eq_true rfl⟩ rfl rfl (Nat.le_of_ble_eq_true rfl) d_Level_clear_5 (fun H locs h => ?_)
  refine lv_aload_n hx hb d_Level_clear_8 rfl (lv_at hl 0 rfl) ?_
  refine G_level_things X h m_f_Level_15 d_Level_clear_9 ?_
  refine lv_iconst (v := 0) hx hb d_Level_clear_12 (by decide) ?_
  obtain ⟨r4, σ5, h6, hf⟩ := bd_s hf
  refine x_Sv (As := [.ref (ad 11), .int 0]) (rest := []) X hml hl.1 hZ hA h (c_Arrays_fill_things l D ad cA tz n 0 σ2 r4 σ5 h6) k_Arrays_fill m_m_Level_25 kd_Arrays_fill ⟨rfl, rfl, Nat.le_of_ble_eq_true rfl, Nat.le_of_ble_eq_true rfl⟩ rfl rfl (Nat.le_of_ble_eq_true rfl) d_Level_clear_13 (fun H locs h => ?_)
  refine lv_aload_n hx hb d_Level_clear_16 rfl (lv_at hl 0 rfl) ?_
  refine G_level_known X h m_f_Level_18 d_Level_clear_17 ?_
  refine lv_iconst (v := 0) hx hb d_Level_clear_20 (by decide) ?_
  obtain ⟨r7, σ8, h9, hf⟩ := bd_s hf
  refine x_Sv (As := [.ref (ad 12), .int 0]) (rest := []) X hml hl.1 hZ hA h (c_Arrays_fill_known l D ad cA tz n 0 σ5 r7 σ8 h9) k_Arrays_fill m_m_Level_25 kd_Arrays_fill ⟨rfl, rfl, Nat.le_of_ble_eq_true rfl, Nat.le_of_ble_eq_true rfl⟩ rfl rfl (Nat.le_of_ble_eq_true rfl) d_Level_clear_21 (fun H locs h => ?_)
  exact rt _ H locs 24 ls hf h d_Level_clear_24
theorem d_Monsters_clear_0 : decode b_Monsters_clear 0 = .ok (.aload_n 0, 1) := by decide +kernel
theorem d_Monsters_clear_1 : decode b_Monsters_clear 1 = .ok (.iconst 0, 1) := by decide +kernel
theorem d_Monsters_clear_2 : decode b_Monsters_clear 2 = .ok (.putfield 27, 3) := by decide +kernel
theorem d_Monsters_clear_5 : decode b_Monsters_clear 5 = .ok (.return_, 1) := by decide +kernel
def f_Monsters_clear (n : Nat) (σ : St) : Option (Unit × St) := bnd (sI σ 7 0) (fun σ1 => some ((), σ1))
set_option maxHeartbeats 4000000 in
set_option maxRecDepth 100000 in
theorem c_Monsters_clear (l : Launch) (D : va_G) (ad : Nat → Nat) (cA : Nat → ClassId) (tz : Nat → Nat) (n : Nat) (σ : St) (r : Unit) (σr : St) (hf : f_Monsters_clear n σ = some (r, σr)) : Kv l D cA tz (wl ad cA) y_Monsters_clear (.code y_Monsters_clear b_Monsters_clear 1 none :: TB) ({ frames := 0, cells := 0, slots := 0, locals := 0 }) [.ref (ad 6)] σ σr := by
  refine x_openv (own := R_Monsters) rfl (by decide) (fun p e s m args below meth c A Q X hml hZ hA H locs ls h hl rt => ?_)
  have hx := X.1
  have hb := X.2.1
  have hl : lv_has ls 1 [(0, .ref (ad 6))] := hl
  unfold f_Monsters_clear at hf
  refine lv_aload_n hx hb d_Monsters_clear_0 rfl (lv_at hl 0 rfl) ?_
  refine lv_iconst (v := 0) hx hb d_Monsters_clear_1 (by decide) ?_
  refine P_monsters_made X h m_f_Monsters_27 d_Monsters_clear_2 (fun H locs σ1 eσ1 h => ?_)
  have hf := nm_b hf eσ1
  exact rt _ H locs 5 ls hf h d_Monsters_clear_5
theorem d_Maker_centreColumn_0 : decode b_Maker_centreColumn 0 = .ok (.aload_n 0, 1) := by decide +kernel
theorem d_Maker_centreColumn_1 : decode b_Maker_centreColumn 1 = .ok (.getfield 18, 3) := by decide +kernel
theorem d_Maker_centreColumn_4 : decode b_Maker_centreColumn 4 = .ok (.iload_n 1, 1) := by decide +kernel
theorem d_Maker_centreColumn_5 : decode b_Maker_centreColumn 5 = .ok (.iaload, 1) := by decide +kernel
theorem d_Maker_centreColumn_6 : decode b_Maker_centreColumn 6 = .ok (.aload_n 0, 1) := by decide +kernel
theorem d_Maker_centreColumn_7 : decode b_Maker_centreColumn 7 = .ok (.getfield 25, 3) := by decide +kernel
theorem d_Maker_centreColumn_10 : decode b_Maker_centreColumn 10 = .ok (.iload_n 1, 1) := by decide +kernel
theorem d_Maker_centreColumn_11 : decode b_Maker_centreColumn 11 = .ok (.iaload, 1) := by decide +kernel
theorem d_Maker_centreColumn_12 : decode b_Maker_centreColumn 12 = .ok (.iconst 2, 1) := by decide +kernel
theorem d_Maker_centreColumn_13 : decode b_Maker_centreColumn 13 = .ok (.idiv, 1) := by decide +kernel
theorem d_Maker_centreColumn_14 : decode b_Maker_centreColumn 14 = .ok (.iadd, 1) := by decide +kernel
theorem d_Maker_centreColumn_15 : decode b_Maker_centreColumn 15 = .ok (.ireturn, 1) := by decide +kernel
def f_Maker_centreColumn (n : Nat) (x1 : Int32) (σ : St) : Option (Int32 × St) := gd (inb x1 4) (gd (inb x1 4) (some ((σ.2.2 9 x1.toNatClampNeg) + ((σ.2.2 11 x1.toNatClampNeg) / 2), σ)))
set_option maxHeartbeats 4000000 in
set_option maxRecDepth 100000 in
theorem c_Maker_centreColumn (l : Launch) (D : va_G) (ad : Nat → Nat) (cA : Nat → ClassId) (tz : Nat → Nat) (n : Nat) (x1 : Int32) (σ : St) (r : Int32) (σr : St) (hf : f_Maker_centreColumn n x1 σ = some (r, σr)) : Ki l D cA tz (wl ad cA) y_Maker_centreColumn (.code y_Maker_centreColumn b_Maker_centreColumn 2 (some .int) :: TB) ({ frames := 0, cells := 0, slots := 0, locals := 0 }) [.ref (ad 3), .int x1] σ r σr := by
  refine x_openi (own := R_Maker) rfl (by decide) (fun p e s m args below meth c A Q X hml hZ hA H locs ls h hl rt => ?_)
  have hx := X.1
  have hb := X.2.1
  have hl : lv_has ls 2 [(0, .ref (ad 3)), (1, .int x1)] := hl
  unfold f_Maker_centreColumn at hf
  refine lv_aload_n hx hb d_Maker_centreColumn_0 rfl (lv_at hl 0 rfl) ?_
  refine G_maker_left X h m_f_Maker_18 d_Maker_centreColumn_1 ?_
  refine lv_iload_n hx hb d_Maker_centreColumn_4 rfl (lv_at hl 1 rfl) ?_
  obtain ⟨g1, hf⟩ := gd_s hf
  refine R_left X h (inb_s g1) d_Maker_centreColumn_5 ?_
  refine lv_aload_n hx hb d_Maker_centreColumn_6 rfl (lv_at hl 0 rfl) ?_
  refine G_maker_width X h m_f_Maker_25 d_Maker_centreColumn_7 ?_
  refine lv_iload_n hx hb d_Maker_centreColumn_10 rfl (lv_at hl 1 rfl) ?_
  obtain ⟨g2, hf⟩ := gd_s hf
  refine R_width X h (inb_s g2) d_Maker_centreColumn_11 ?_
  refine lv_iconst (v := 2) hx hb d_Maker_centreColumn_12 (by decide) ?_
  refine lv_idiv hx hb d_Maker_centreColumn_13 (by decide) ?_
  refine lv_iadd hx hb d_Maker_centreColumn_14 ?_
  exact rt _ _ H locs 15 ls hf h d_Maker_centreColumn_15
theorem d_Maker_centreRow_0 : decode b_Maker_centreRow 0 = .ok (.aload_n 0, 1) := by decide +kernel
theorem d_Maker_centreRow_1 : decode b_Maker_centreRow 1 = .ok (.getfield 22, 3) := by decide +kernel
theorem d_Maker_centreRow_4 : decode b_Maker_centreRow 4 = .ok (.iload_n 1, 1) := by decide +kernel
theorem d_Maker_centreRow_5 : decode b_Maker_centreRow 5 = .ok (.iaload, 1) := by decide +kernel
theorem d_Maker_centreRow_6 : decode b_Maker_centreRow 6 = .ok (.aload_n 0, 1) := by decide +kernel
theorem d_Maker_centreRow_7 : decode b_Maker_centreRow 7 = .ok (.getfield 28, 3) := by decide +kernel
theorem d_Maker_centreRow_10 : decode b_Maker_centreRow 10 = .ok (.iload_n 1, 1) := by decide +kernel
theorem d_Maker_centreRow_11 : decode b_Maker_centreRow 11 = .ok (.iaload, 1) := by decide +kernel
theorem d_Maker_centreRow_12 : decode b_Maker_centreRow 12 = .ok (.iconst 2, 1) := by decide +kernel
theorem d_Maker_centreRow_13 : decode b_Maker_centreRow 13 = .ok (.idiv, 1) := by decide +kernel
theorem d_Maker_centreRow_14 : decode b_Maker_centreRow 14 = .ok (.iadd, 1) := by decide +kernel
theorem d_Maker_centreRow_15 : decode b_Maker_centreRow 15 = .ok (.ireturn, 1) := by decide +kernel
def f_Maker_centreRow (n : Nat) (x1 : Int32) (σ : St) : Option (Int32 × St) := gd (inb x1 4) (gd (inb x1 4) (some ((σ.2.2 10 x1.toNatClampNeg) + ((σ.2.2 12 x1.toNatClampNeg) / 2), σ)))
set_option maxHeartbeats 4000000 in
set_option maxRecDepth 100000 in
theorem c_Maker_centreRow (l : Launch) (D : va_G) (ad : Nat → Nat) (cA : Nat → ClassId) (tz : Nat → Nat) (n : Nat) (x1 : Int32) (σ : St) (r : Int32) (σr : St) (hf : f_Maker_centreRow n x1 σ = some (r, σr)) : Ki l D cA tz (wl ad cA) y_Maker_centreRow (.code y_Maker_centreRow b_Maker_centreRow 2 (some .int) :: TB) ({ frames := 0, cells := 0, slots := 0, locals := 0 }) [.ref (ad 3), .int x1] σ r σr := by
  refine x_openi (own := R_Maker) rfl (by decide) (fun p e s m args below meth c A Q X hml hZ hA H locs ls h hl rt => ?_)
  have hx := X.1
  have hb := X.2.1
  have hl : lv_has ls 2 [(0, .ref (ad 3)), (1, .int x1)] := hl
  unfold f_Maker_centreRow at hf
  refine lv_aload_n hx hb d_Maker_centreRow_0 rfl (lv_at hl 0 rfl) ?_
  refine G_maker_top X h m_f_Maker_22 d_Maker_centreRow_1 ?_
  refine lv_iload_n hx hb d_Maker_centreRow_4 rfl (lv_at hl 1 rfl) ?_
  obtain ⟨g1, hf⟩ := gd_s hf
  refine R_top X h (inb_s g1) d_Maker_centreRow_5 ?_
  refine lv_aload_n hx hb d_Maker_centreRow_6 rfl (lv_at hl 0 rfl) ?_
  refine G_maker_height X h m_f_Maker_28 d_Maker_centreRow_7 ?_
  refine lv_iload_n hx hb d_Maker_centreRow_10 rfl (lv_at hl 1 rfl) ?_
  obtain ⟨g2, hf⟩ := gd_s hf
  refine R_height X h (inb_s g2) d_Maker_centreRow_11 ?_
  refine lv_iconst (v := 2) hx hb d_Maker_centreRow_12 (by decide) ?_
  refine lv_idiv hx hb d_Maker_centreRow_13 (by decide) ?_
  refine lv_iadd hx hb d_Maker_centreRow_14 ?_
  exact rt _ _ H locs 15 ls hf h d_Maker_centreRow_15
theorem d_Draws_draw_0 : decode b_Draws_draw 0 = .ok (.aload_n 0, 1) := by decide +kernel
theorem d_Draws_draw_1 : decode b_Draws_draw 1 = .ok (.aload_n 0, 1) := by decide +kernel
theorem d_Draws_draw_2 : decode b_Draws_draw 2 = .ok (.getfield 7, 3) := by decide +kernel
theorem d_Draws_draw_5 : decode b_Draws_draw 5 = .ok (.ldc2_w 13, 3) := by decide +kernel
theorem d_Draws_draw_8 : decode b_Draws_draw 8 = .ok (.lmul, 1) := by decide +kernel
theorem d_Draws_draw_9 : decode b_Draws_draw 9 = .ok (.ldc2_w 15, 3) := by decide +kernel
theorem d_Draws_draw_12 : decode b_Draws_draw 12 = .ok (.ladd, 1) := by decide +kernel
theorem d_Draws_draw_13 : decode b_Draws_draw 13 = .ok (.putfield 7, 3) := by decide +kernel
theorem d_Draws_draw_16 : decode b_Draws_draw 16 = .ok (.iload_n 1, 1) := by decide +kernel
theorem d_Draws_draw_17 : decode b_Draws_draw 17 = .ok (.ifCond .le 17, 3) := by decide +kernel
theorem d_Draws_draw_20 : decode b_Draws_draw 20 = .ok (.aload_n 0, 1) := by decide +kernel
theorem d_Draws_draw_21 : decode b_Draws_draw 21 = .ok (.getfield 7, 3) := by decide +kernel
theorem d_Draws_draw_24 : decode b_Draws_draw 24 = .ok (.bipush 33, 2) := by decide +kernel
theorem d_Draws_draw_26 : decode b_Draws_draw 26 = .ok (.lushr, 1) := by decide +kernel
theorem d_Draws_draw_27 : decode b_Draws_draw 27 = .ok (.iload_n 1, 1) := by decide +kernel
theorem d_Draws_draw_28 : decode b_Draws_draw 28 = .ok (.i2l, 1) := by decide +kernel
theorem d_Draws_draw_29 : decode b_Draws_draw 29 = .ok (.lrem, 1) := by decide +kernel
theorem d_Draws_draw_30 : decode b_Draws_draw 30 = .ok (.l2i, 1) := by decide +kernel
theorem d_Draws_draw_31 : decode b_Draws_draw 31 = .ok (.goto 4, 3) := by decide +kernel
theorem d_Draws_draw_34 : decode b_Draws_draw 34 = .ok (.iconst 0, 1) := by decide +kernel
theorem d_Draws_draw_35 : decode b_Draws_draw 35 = .ok (.ireturn, 1) := by decide +kernel
def f_Draws_draw_making (n : Nat) (x1 : Int32) (σ : St) : Option (Int32 × St) := bnd (sL σ 1 (((σ.2.1 1) * 6364136223846793005) + 1442695040888963407)) (fun σ1 => if x1 ≤ 0 then (some (0, σ1)) else (gd (nzl (Int32.toInt64 x1)) (some (Int64.toInt32 ((ush (σ1.2.1 1) 33) - (ush (σ1.2.1 1) 33) / (Int32.toInt64 x1) * (Int32.toInt64 x1)), σ1))))
set_option maxHeartbeats 4000000 in
set_option maxRecDepth 100000 in
theorem c_Draws_draw_making (l : Launch) (D : va_G) (ad : Nat → Nat) (cA : Nat → ClassId) (tz : Nat → Nat) (n : Nat) (x1 : Int32) (σ : St) (r : Int32) (σr : St) (hf : f_Draws_draw_making n x1 σ = some (r, σr)) : Ki l D cA tz (wl ad cA) y_Draws_draw (.code y_Draws_draw b_Draws_draw 2 (some .int) :: TB) ({ frames := 0, cells := 0, slots := 0, locals := 0 }) [.ref (ad 4), .int x1] σ r σr := by
  refine x_openi (own := R_Draws) rfl (by decide) (fun p e s m args below meth c A Q X hml hZ hA H locs ls h hl rt => ?_)
  have hx := X.1
  have hb := X.2.1
  have hl : lv_has ls 2 [(0, .ref (ad 4)), (1, .int x1)] := hl
  unfold f_Draws_draw_making at hf
  refine lv_aload_n hx hb d_Draws_draw_0 rfl (lv_at hl 0 rfl) ?_
  refine lv_aload_n hx hb d_Draws_draw_1 rfl (lv_at hl 0 rfl) ?_
  refine G_making_state X h m_f_Draws_7 d_Draws_draw_2 ?_
  refine lv_ldc2 (v := 6364136223846793005) hx hb X.2.2.1 (X.2.2.2.1 _ m_kl_Draws_13) d_Draws_draw_5 ?_
  refine lv_lmul hx hb d_Draws_draw_8 ?_
  refine lv_ldc2 (v := 1442695040888963407) hx hb X.2.2.1 (X.2.2.2.1 _ m_kl_Draws_15) d_Draws_draw_9 ?_
  refine lv_ladd hx hb d_Draws_draw_12 ?_
  refine P_making_state X h m_f_Draws_7 d_Draws_draw_13 (fun H locs σ1 eσ1 h => ?_)
  have hf := nm_b hf eσ1
  refine lv_iload_n hx hb d_Draws_draw_16 rfl (lv_at hl 1 rfl) ?_
  refine lv_if_le (tgt := 34) hx hb d_Draws_draw_17 (by decide) (fun c2 => ?_) (fun c2 => ?_)
  · have hf := it c2 hf
    refine lv_iconst (v := 0) hx hb d_Draws_draw_34 (by decide) ?_
    exact rt _ _ H locs 35 ls hf h d_Draws_draw_35
  · have hf := ie c2 hf
    refine lv_aload_n hx hb d_Draws_draw_20 rfl (lv_at hl 0 rfl) ?_
    refine G_making_state X h m_f_Draws_7 d_Draws_draw_21 ?_
    refine lv_bipush (v := 33) hx hb d_Draws_draw_24 (by decide) ?_
    refine lv_lushr (v := ush (σ1.2.1 1) 33) hx hb d_Draws_draw_26 rfl ?_
    refine lv_iload_n hx hb d_Draws_draw_27 rfl (lv_at hl 1 rfl) ?_
    refine lv_i2l hx hb d_Draws_draw_28 rfl ?_
    obtain ⟨g3, hf⟩ := gd_s hf
    refine lv_lrem hx hb d_Draws_draw_29 (nzl_s g3) ?_
    refine lv_l2i hx hb d_Draws_draw_30 rfl ?_
    refine lv_goto (tgt := 35) hx hb d_Draws_draw_31 (by decide) ?_
    exact rt _ _ H locs 35 ls hf h d_Draws_draw_35
theorem d_Level_setGround_0 : decode b_Level_setGround 0 = .ok (.iload_n 1, 1) := by decide +kernel
theorem d_Level_setGround_1 : decode b_Level_setGround 1 = .ok (.ifCond .lt 16, 3) := by decide +kernel
theorem d_Level_setGround_4 : decode b_Level_setGround 4 = .ok (.iload_n 1, 1) := by decide +kernel
theorem d_Level_setGround_5 : decode b_Level_setGround 5 = .ok (.bipush 120, 2) := by decide +kernel
theorem d_Level_setGround_7 : decode b_Level_setGround 7 = .ok (.if_icmp .ge 10, 3) := by decide +kernel
theorem d_Level_setGround_10 : decode b_Level_setGround 10 = .ok (.aload_n 0, 1) := by decide +kernel
theorem d_Level_setGround_11 : decode b_Level_setGround 11 = .ok (.getfield 9, 3) := by decide +kernel
theorem d_Level_setGround_14 : decode b_Level_setGround 14 = .ok (.iload_n 1, 1) := by decide +kernel
theorem d_Level_setGround_15 : decode b_Level_setGround 15 = .ok (.iload_n 2, 1) := by decide +kernel
theorem d_Level_setGround_16 : decode b_Level_setGround 16 = .ok (.iastore, 1) := by decide +kernel
theorem d_Level_setGround_17 : decode b_Level_setGround 17 = .ok (.return_, 1) := by decide +kernel
def f_Level_setGround (n : Nat) (x1 : Int32) (x2 : Int32) (σ : St) : Option (Unit × St) := if x1 < 0 then (some ((), σ)) else (if 120 ≤ x1 then (some ((), σ)) else (gd (inb x1 120) (bnd (sA σ 1 x1.toNatClampNeg x2) (fun σ4 => some ((), σ4)))))
set_option maxHeartbeats 4000000 in
set_option maxRecDepth 100000 in
theorem c_Level_setGround (l : Launch) (D : va_G) (ad : Nat → Nat) (cA : Nat → ClassId) (tz : Nat → Nat) (n : Nat) (x1 : Int32) (x2 : Int32) (σ : St) (r : Unit) (σr : St) (hf : f_Level_setGround n x1 x2 σ = some (r, σr)) : Kv l D cA tz (wl ad cA) y_Level_setGround (.code y_Level_setGround b_Level_setGround 3 none :: TB) ({ frames := 0, cells := 0, slots := 0, locals := 0 }) [.ref (ad 5), .int x1, .int x2] σ σr := by
  refine x_openv (own := R_Level) rfl (by decide) (fun p e s m args below meth c A Q X hml hZ hA H locs ls h hl rt => ?_)
  have hx := X.1
  have hb := X.2.1
  have hl : lv_has ls 3 [(0, .ref (ad 5)), (1, .int x1), (2, .int x2)] := hl
  unfold f_Level_setGround at hf
  refine lv_iload_n hx hb d_Level_setGround_0 rfl (lv_at hl 1 rfl) ?_
  refine lv_if_lt (tgt := 17) hx hb d_Level_setGround_1 (by decide) (fun c1 => ?_) (fun c1 => ?_)
  · have hf := it c1 hf
    exact rt _ H locs 17 ls hf h d_Level_setGround_17
  · have hf := ie c1 hf
    refine lv_iload_n hx hb d_Level_setGround_4 rfl (lv_at hl 1 rfl) ?_
    refine lv_bipush (v := 120) hx hb d_Level_setGround_5 (by decide) ?_
    refine lv_icmp_ge (tgt := 17) hx hb d_Level_setGround_7 (by decide) (fun c2 => ?_) (fun c2 => ?_)
    · have hf := it c2 hf
      exact rt _ H locs 17 ls hf h d_Level_setGround_17
    · have hf := ie c2 hf
      refine lv_aload_n hx hb d_Level_setGround_10 rfl (lv_at hl 0 rfl) ?_
      refine G_level_ground X h m_f_Level_9 d_Level_setGround_11 ?_
      refine lv_iload_n hx hb d_Level_setGround_14 rfl (lv_at hl 1 rfl) ?_
      refine lv_iload_n hx hb d_Level_setGround_15 rfl (lv_at hl 2 rfl) ?_
      obtain ⟨g3, hf⟩ := gd_s hf
      refine S_ground X h (inb_s g3) d_Level_setGround_16 (fun H locs σ4 eσ4 h => ?_)
      have hf := nm_b hf eσ4
      exact rt _ H locs 17 ls hf h d_Level_setGround_17
theorem d_Maker_digRow_0 : decode b_Maker_digRow 0 = .ok (.iload_n 2, 1) := by decide +kernel
theorem d_Maker_digRow_1 : decode b_Maker_digRow 1 = .ok (.iload_n 3, 1) := by decide +kernel
theorem d_Maker_digRow_2 : decode b_Maker_digRow 2 = .ok (.invokestatic 87, 3) := by decide +kernel
theorem d_Maker_digRow_5 : decode b_Maker_digRow 5 = .ok (.istore 5, 2) := by decide +kernel
theorem d_Maker_digRow_7 : decode b_Maker_digRow 7 = .ok (.iload 5, 2) := by decide +kernel
theorem d_Maker_digRow_9 : decode b_Maker_digRow 9 = .ok (.iload_n 2, 1) := by decide +kernel
theorem d_Maker_digRow_10 : decode b_Maker_digRow 10 = .ok (.iload_n 3, 1) := by decide +kernel
theorem d_Maker_digRow_11 : decode b_Maker_digRow 11 = .ok (.invokestatic 93, 3) := by decide +kernel
theorem d_Maker_digRow_14 : decode b_Maker_digRow 14 = .ok (.if_icmp .gt 22, 3) := by decide +kernel
theorem d_Maker_digRow_17 : decode b_Maker_digRow 17 = .ok (.aload 4, 2) := by decide +kernel
theorem d_Maker_digRow_19 : decode b_Maker_digRow 19 = .ok (.iload_n 1, 1) := by decide +kernel
theorem d_Maker_digRow_20 : decode b_Maker_digRow 20 = .ok (.bipush 12, 2) := by decide +kernel
theorem d_Maker_digRow_22 : decode b_Maker_digRow 22 = .ok (.imul, 1) := by decide +kernel
theorem d_Maker_digRow_23 : decode b_Maker_digRow 23 = .ok (.iload 5, 2) := by decide +kernel
theorem d_Maker_digRow_25 : decode b_Maker_digRow 25 = .ok (.iadd, 1) := by decide +kernel
theorem d_Maker_digRow_26 : decode b_Maker_digRow 26 = .ok (.iconst 1, 1) := by decide +kernel
theorem d_Maker_digRow_27 : decode b_Maker_digRow 27 = .ok (.invokevirtual 57, 3) := by decide +kernel
theorem d_Maker_digRow_30 : decode b_Maker_digRow 30 = .ok (.iinc 5 1, 3) := by decide +kernel
theorem d_Maker_digRow_33 : decode b_Maker_digRow 33 = .ok (.goto (-26), 3) := by decide +kernel
theorem d_Maker_digRow_36 : decode b_Maker_digRow 36 = .ok (.return_, 1) := by decide +kernel
def f_Maker_digRow_7 (n : Nat) : Nat → Int32 → Int32 → Int32 → Int32 → St → Option (Unit × St)
  | 0, _, _, _, _, _ => none
  | j + 1, y1, y2, y3, y5, σ => bnd (if y2 < y3 then y3 else y2) (fun v2 => if v2 < y5 then (some ((), σ)) else (bd (f_Level_setGround n ((y1 * 12) + y5) 1 σ) (fun _ σ5 => bnd (y5 + 1) (fun v7 => f_Maker_digRow_7 n j y1 y2 y3 v7 σ5))))
theorem f_Maker_digRow_7_s (n : Nat) (j : Nat) (y1 : Int32) (y2 : Int32) (y3 : Int32) (y5 : Int32) (σ : St) : f_Maker_digRow_7 n (j + 1) y1 y2 y3 y5 σ = (bnd (if y2 < y3 then y3 else y2) (fun v2 => if v2 < y5 then (some ((), σ)) else (bd (f_Level_setGround n ((y1 * 12) + y5) 1 σ) (fun _ σ5 => bnd (y5 + 1) (fun v7 => f_Maker_digRow_7 n j y1 y2 y3 v7 σ5))))) := rfl
def f_Maker_digRow (n : Nat) (x1 : Int32) (x2 : Int32) (x3 : Int32) (σ : St) : Option (Unit × St) := bnd (if x3 < x2 then x3 else x2) (fun v1 => f_Maker_digRow_7 n n x1 x2 x3 v1 σ)
set_option maxHeartbeats 4000000 in
set_option maxRecDepth 100000 in
theorem c_Maker_digRow (l : Launch) (D : va_G) (ad : Nat → Nat) (cA : Nat → ClassId) (tz : Nat → Nat) (n : Nat) (x1 : Int32) (x2 : Int32) (x3 : Int32) (σ : St) (r : Unit) (σr : St) (hf : f_Maker_digRow n x1 x2 x3 σ = some (r, σr)) : Kv l D cA tz (wl ad cA) y_Maker_digRow (.code y_Maker_digRow b_Maker_digRow 6 none :: TB) ({ frames := 1, cells := 0, slots := 0, locals := 23 }) [.ref (ad 3), .int x1, .int x2, .int x3, .ref (ad 5)] σ σr := by
  refine x_openv (own := R_Maker) rfl (by decide) (fun p e s m args below meth c A Q X hml hZ hA H locs ls h hl rt => ?_)
  have hx := X.1
  have hb := X.2.1
  have hl : lv_has ls 6 [(0, .ref (ad 3)), (1, .int x1), (2, .int x2), (3, .int x3), (4, .ref (ad 5))] := hl
  have L7 : ∀ j : Nat, ∀ (y1 : Int32) (y2 : Int32) (y3 : Int32) (y5 : Int32) (σ : St), f_Maker_digRow_7 n j y1 y2 y3 y5 σ = some (r, σr) → ∀ (H : Heap) (locs : List Loc) (ls : Array Slot), WD D A s (wl ad cA σ) H locs → lv_has ls 6 [(1, .int y1), (2, .int y2), (3, .int y3), (4, .ref (ad 5)), (5, .int y5)] → W p l e ({ frames := 1, cells := 0, slots := 0, locals := 23 }) s m args below meth c H locs 0 0 Q (F0 m 7 ls []) := by
    intro j
    induction j with
    | zero => intro y1 y2 y3 y5 σ hf; exact absurd hf (fun z => by cases z)
    | succ j ih =>
      intro y1 y2 y3 y5 σ hf H locs ls h hl
      have hf := us (f_Maker_digRow_7_s n j y1 y2 y3 y5 σ) hf
      refine lv_iload hx hb d_Maker_digRow_7 (lv_at hl 4 rfl) ?_
      refine lv_iload_n hx hb d_Maker_digRow_9 rfl (lv_at hl 1 rfl) ?_
      refine lv_iload_n hx hb d_Maker_digRow_10 rfl (lv_at hl 2 rfl) ?_
      refine va_mmax hx hb (by rw [hml]; exact hl.1.symm) X.2.2.1 (X.2.2.2.1 _ m_m_Maker_93) (X.2.2.2.1 _ k_Math_max.1) (X.2.2.2.1 _ k_Math_max.2.1) (X.2.2.2.1 _ k_Math_max.2.2) (Nat.le_of_ble_eq_true rfl) (Nat.le_of_ble_eq_true rfl) (Nat.zero_le _) (Nat.zero_le _) d_Maker_digRow_11 ?_
      refine lv_topi (fun v2 ev2 => ?_)
      have hf := nm_b hf ev2
      refine lv_icmp_gt (tgt := 36) hx hb d_Maker_digRow_14 (by decide) (fun c3 => ?_) (fun c3 => ?_)
      · have hf := it c3 hf
        exact rt _ H locs 36 ls hf h d_Maker_digRow_36
      · have hf := ie c3 hf
        refine lv_aload hx hb d_Maker_digRow_17 (lv_at hl 3 rfl) ?_
        refine lv_iload_n hx hb d_Maker_digRow_19 rfl (lv_at hl 0 rfl) ?_
        refine lv_bipush (v := 12) hx hb d_Maker_digRow_20 (by decide) ?_
        refine lv_imul hx hb d_Maker_digRow_22 ?_
        refine lv_iload hx hb d_Maker_digRow_23 (lv_at hl 4 rfl) ?_
        refine lv_iadd hx hb d_Maker_digRow_25 ?_
        refine lv_iconst (v := 1) hx hb d_Maker_digRow_26 (by decide) ?_
        obtain ⟨r4, σ5, h6, hf⟩ := bd_s hf
        refine x_Vv (As := [.int ((y1 * 12) + y5), .int 1]) (rest := []) X hml hl.1 hZ hA h (c_Level_setGround l D ad cA tz n ((y1 * 12) + y5) 1 σ r4 σ5 h6) k_Level_setGround m_m_Maker_57 kd_Level_setGround ⟨rfl, rfl, Nat.le_of_ble_eq_true rfl, Nat.le_of_ble_eq_true rfl⟩ 5 rfl rfl rfl rfl rfl (Nat.le_of_ble_eq_true rfl) d_Maker_digRow_27 (fun H locs h => ?_)
        obtain ⟨v7, ev7⟩ : ∃ y : Int32, y = y5 + 1 := ⟨_, rfl⟩
        have hf := nm_b hf ev7
        refine lv_iinc (v := v7) (lv' := [(5, .int v7), (1, .int y1), (2, .int y2), (3, .int y3), (4, .ref (ad 5))]) hx hb d_Maker_digRow_30 hl (k := 4) rfl (by rw [ev7]; rfl) (by decide) rfl (fun ls hl => ?_)
        refine lv_goto (tgt := 7) hx hb d_Maker_digRow_33 (by decide) ?_
        exact ih y1 y2 y3 v7 σ5 hf H locs ls h (lv_sub hl [1, 2, 3, 4, 0] rfl)
  unfold f_Maker_digRow at hf
  refine lv_iload_n hx hb d_Maker_digRow_0 rfl (lv_at hl 2 rfl) ?_
  refine lv_iload_n hx hb d_Maker_digRow_1 rfl (lv_at hl 3 rfl) ?_
  refine va_mmin hx hb (by rw [hml]; exact hl.1.symm) X.2.2.1 (X.2.2.2.1 _ m_m_Maker_87) (X.2.2.2.1 _ k_Math_min.1) (X.2.2.2.1 _ k_Math_min.2.1) (X.2.2.2.1 _ k_Math_min.2.2) (Nat.le_of_ble_eq_true rfl) (Nat.le_of_ble_eq_true rfl) (Nat.zero_le _) (Nat.zero_le _) d_Maker_digRow_2 ?_
  refine lv_topi (fun v1 ev1 => ?_)
  have hf := nm_b hf ev1
  refine lv_istore (lv' := [(5, .int v1), (0, .ref (ad 3)), (1, .int x1), (2, .int x2), (3, .int x3), (4, .ref (ad 5))]) hx hb d_Maker_digRow_5 hl (by decide) rfl (fun ls hl => ?_)
  exact L7 n x1 x2 x3 v1 σ hf H locs ls h (lv_sub hl [2, 3, 4, 5, 0] rfl)
theorem d_Maker_digColumn_0 : decode b_Maker_digColumn 0 = .ok (.iload_n 2, 1) := by decide +kernel
theorem d_Maker_digColumn_1 : decode b_Maker_digColumn 1 = .ok (.iload_n 3, 1) := by decide +kernel
theorem d_Maker_digColumn_2 : decode b_Maker_digColumn 2 = .ok (.invokestatic 87, 3) := by decide +kernel
theorem d_Maker_digColumn_5 : decode b_Maker_digColumn 5 = .ok (.istore 5, 2) := by decide +kernel
theorem d_Maker_digColumn_7 : decode b_Maker_digColumn 7 = .ok (.iload 5, 2) := by decide +kernel
theorem d_Maker_digColumn_9 : decode b_Maker_digColumn 9 = .ok (.iload_n 2, 1) := by decide +kernel
theorem d_Maker_digColumn_10 : decode b_Maker_digColumn 10 = .ok (.iload_n 3, 1) := by decide +kernel
theorem d_Maker_digColumn_11 : decode b_Maker_digColumn 11 = .ok (.invokestatic 93, 3) := by decide +kernel
theorem d_Maker_digColumn_14 : decode b_Maker_digColumn 14 = .ok (.if_icmp .gt 22, 3) := by decide +kernel
theorem d_Maker_digColumn_17 : decode b_Maker_digColumn 17 = .ok (.aload 4, 2) := by decide +kernel
theorem d_Maker_digColumn_19 : decode b_Maker_digColumn 19 = .ok (.iload 5, 2) := by decide +kernel
theorem d_Maker_digColumn_21 : decode b_Maker_digColumn 21 = .ok (.bipush 12, 2) := by decide +kernel
theorem d_Maker_digColumn_23 : decode b_Maker_digColumn 23 = .ok (.imul, 1) := by decide +kernel
theorem d_Maker_digColumn_24 : decode b_Maker_digColumn 24 = .ok (.iload_n 1, 1) := by decide +kernel
theorem d_Maker_digColumn_25 : decode b_Maker_digColumn 25 = .ok (.iadd, 1) := by decide +kernel
theorem d_Maker_digColumn_26 : decode b_Maker_digColumn 26 = .ok (.iconst 1, 1) := by decide +kernel
theorem d_Maker_digColumn_27 : decode b_Maker_digColumn 27 = .ok (.invokevirtual 57, 3) := by decide +kernel
theorem d_Maker_digColumn_30 : decode b_Maker_digColumn 30 = .ok (.iinc 5 1, 3) := by decide +kernel
theorem d_Maker_digColumn_33 : decode b_Maker_digColumn 33 = .ok (.goto (-26), 3) := by decide +kernel
theorem d_Maker_digColumn_36 : decode b_Maker_digColumn 36 = .ok (.return_, 1) := by decide +kernel
def f_Maker_digColumn_7 (n : Nat) : Nat → Int32 → Int32 → Int32 → Int32 → St → Option (Unit × St)
  | 0, _, _, _, _, _ => none
  | j + 1, y1, y2, y3, y5, σ => bnd (if y2 < y3 then y3 else y2) (fun v2 => if v2 < y5 then (some ((), σ)) else (bd (f_Level_setGround n ((y5 * 12) + y1) 1 σ) (fun _ σ5 => bnd (y5 + 1) (fun v7 => f_Maker_digColumn_7 n j y1 y2 y3 v7 σ5))))
theorem f_Maker_digColumn_7_s (n : Nat) (j : Nat) (y1 : Int32) (y2 : Int32) (y3 : Int32) (y5 : Int32) (σ : St) : f_Maker_digColumn_7 n (j + 1) y1 y2 y3 y5 σ = (bnd (if y2 < y3 then y3 else y2) (fun v2 => if v2 < y5 then (some ((), σ)) else (bd (f_Level_setGround n ((y5 * 12) + y1) 1 σ) (fun _ σ5 => bnd (y5 + 1) (fun v7 => f_Maker_digColumn_7 n j y1 y2 y3 v7 σ5))))) := rfl
def f_Maker_digColumn (n : Nat) (x1 : Int32) (x2 : Int32) (x3 : Int32) (σ : St) : Option (Unit × St) := bnd (if x3 < x2 then x3 else x2) (fun v1 => f_Maker_digColumn_7 n n x1 x2 x3 v1 σ)
set_option maxHeartbeats 4000000 in
set_option maxRecDepth 100000 in
theorem c_Maker_digColumn (l : Launch) (D : va_G) (ad : Nat → Nat) (cA : Nat → ClassId) (tz : Nat → Nat) (n : Nat) (x1 : Int32) (x2 : Int32) (x3 : Int32) (σ : St) (r : Unit) (σr : St) (hf : f_Maker_digColumn n x1 x2 x3 σ = some (r, σr)) : Kv l D cA tz (wl ad cA) y_Maker_digColumn (.code y_Maker_digColumn b_Maker_digColumn 6 none :: TB) ({ frames := 1, cells := 0, slots := 0, locals := 23 }) [.ref (ad 3), .int x1, .int x2, .int x3, .ref (ad 5)] σ σr := by
  refine x_openv (own := R_Maker) rfl (by decide) (fun p e s m args below meth c A Q X hml hZ hA H locs ls h hl rt => ?_)
  have hx := X.1
  have hb := X.2.1
  have hl : lv_has ls 6 [(0, .ref (ad 3)), (1, .int x1), (2, .int x2), (3, .int x3), (4, .ref (ad 5))] := hl
  have L7 : ∀ j : Nat, ∀ (y1 : Int32) (y2 : Int32) (y3 : Int32) (y5 : Int32) (σ : St), f_Maker_digColumn_7 n j y1 y2 y3 y5 σ = some (r, σr) → ∀ (H : Heap) (locs : List Loc) (ls : Array Slot), WD D A s (wl ad cA σ) H locs → lv_has ls 6 [(1, .int y1), (2, .int y2), (3, .int y3), (4, .ref (ad 5)), (5, .int y5)] → W p l e ({ frames := 1, cells := 0, slots := 0, locals := 23 }) s m args below meth c H locs 0 0 Q (F0 m 7 ls []) := by
    intro j
    induction j with
    | zero => intro y1 y2 y3 y5 σ hf; exact absurd hf (fun z => by cases z)
    | succ j ih =>
      intro y1 y2 y3 y5 σ hf H locs ls h hl
      have hf := us (f_Maker_digColumn_7_s n j y1 y2 y3 y5 σ) hf
      refine lv_iload hx hb d_Maker_digColumn_7 (lv_at hl 4 rfl) ?_
      refine lv_iload_n hx hb d_Maker_digColumn_9 rfl (lv_at hl 1 rfl) ?_
      refine lv_iload_n hx hb d_Maker_digColumn_10 rfl (lv_at hl 2 rfl) ?_
      refine va_mmax hx hb (by rw [hml]; exact hl.1.symm) X.2.2.1 (X.2.2.2.1 _ m_m_Maker_93) (X.2.2.2.1 _ k_Math_max.1) (X.2.2.2.1 _ k_Math_max.2.1) (X.2.2.2.1 _ k_Math_max.2.2) (Nat.le_of_ble_eq_true rfl) (Nat.le_of_ble_eq_true rfl) (Nat.zero_le _) (Nat.zero_le _) d_Maker_digColumn_11 ?_
      refine lv_topi (fun v2 ev2 => ?_)
      have hf := nm_b hf ev2
      refine lv_icmp_gt (tgt := 36) hx hb d_Maker_digColumn_14 (by decide) (fun c3 => ?_) (fun c3 => ?_)
      · have hf := it c3 hf
        exact rt _ H locs 36 ls hf h d_Maker_digColumn_36
      · have hf := ie c3 hf
        refine lv_aload hx hb d_Maker_digColumn_17 (lv_at hl 3 rfl) ?_
        refine lv_iload hx hb d_Maker_digColumn_19 (lv_at hl 4 rfl) ?_
        refine lv_bipush (v := 12) hx hb d_Maker_digColumn_21 (by decide) ?_
        refine lv_imul hx hb d_Maker_digColumn_23 ?_
        refine lv_iload_n hx hb d_Maker_digColumn_24 rfl (lv_at hl 0 rfl) ?_
        refine lv_iadd hx hb d_Maker_digColumn_25 ?_
        refine lv_iconst (v := 1) hx hb d_Maker_digColumn_26 (by decide) ?_
        obtain ⟨r4, σ5, h6, hf⟩ := bd_s hf
        refine x_Vv (As := [.int ((y5 * 12) + y1), .int 1]) (rest := []) X hml hl.1 hZ hA h (c_Level_setGround l D ad cA tz n ((y5 * 12) + y1) 1 σ r4 σ5 h6) k_Level_setGround m_m_Maker_57 kd_Level_setGround ⟨rfl, rfl, Nat.le_of_ble_eq_true rfl, Nat.le_of_ble_eq_true rfl⟩ 5 rfl rfl rfl rfl rfl (Nat.le_of_ble_eq_true rfl) d_Maker_digColumn_27 (fun H locs h => ?_)
        obtain ⟨v7, ev7⟩ : ∃ y : Int32, y = y5 + 1 := ⟨_, rfl⟩
        have hf := nm_b hf ev7
        refine lv_iinc (v := v7) (lv' := [(5, .int v7), (1, .int y1), (2, .int y2), (3, .int y3), (4, .ref (ad 5))]) hx hb d_Maker_digColumn_30 hl (k := 4) rfl (by rw [ev7]; rfl) (by decide) rfl (fun ls hl => ?_)
        refine lv_goto (tgt := 7) hx hb d_Maker_digColumn_33 (by decide) ?_
        exact ih y1 y2 y3 v7 σ5 hf H locs ls h (lv_sub hl [1, 2, 3, 4, 0] rfl)
  unfold f_Maker_digColumn at hf
  refine lv_iload_n hx hb d_Maker_digColumn_0 rfl (lv_at hl 2 rfl) ?_
  refine lv_iload_n hx hb d_Maker_digColumn_1 rfl (lv_at hl 3 rfl) ?_
  refine va_mmin hx hb (by rw [hml]; exact hl.1.symm) X.2.2.1 (X.2.2.2.1 _ m_m_Maker_87) (X.2.2.2.1 _ k_Math_min.1) (X.2.2.2.1 _ k_Math_min.2.1) (X.2.2.2.1 _ k_Math_min.2.2) (Nat.le_of_ble_eq_true rfl) (Nat.le_of_ble_eq_true rfl) (Nat.zero_le _) (Nat.zero_le _) d_Maker_digColumn_2 ?_
  refine lv_topi (fun v1 ev1 => ?_)
  have hf := nm_b hf ev1
  refine lv_istore (lv' := [(5, .int v1), (0, .ref (ad 3)), (1, .int x1), (2, .int x2), (3, .int x3), (4, .ref (ad 5))]) hx hb d_Maker_digColumn_5 hl (by decide) rfl (fun ls hl => ?_)
  exact L7 n x1 x2 x3 v1 σ hf H locs ls h (lv_sub hl [2, 3, 4, 5, 0] rfl)
end
