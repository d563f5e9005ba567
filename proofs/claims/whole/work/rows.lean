section
-- ===== PART A: goes FIRST, ahead of the names: the tables' words, and 'selects' of the private methods out of them =====
/-- a private method of a class that the tables say can be made, by its rows of tables_1 -/
def lw_okq (q : MethodName × Nat) : Prop := (q.1.cls ≠ "java/lang/invoke/MethodHandle" ∧ q.1.cls ≠ "java/lang/invoke/VarHandle") ∧ Cond.instantiable q.1.cls q.2 ∈ tables_1 ∧ Cond.privateMethod q.1 ∈ tables_1 ∧ Cond.instanceMethod q.1 ∈ tables_1
theorem lw_p0 : lw_okq (⟨"GameConsole$Mmc3", "mapRom", "()V"⟩, 11) := ⟨⟨by decide +kernel, by decide +kernel⟩, List.mem_of_getElem? (i := 27) (by decide +kernel), List.mem_of_getElem? (i := 36) (by decide +kernel), List.mem_of_getElem? (i := 37) (by decide +kernel)⟩
theorem lw_p1 : lw_okq (⟨"GameConsole$Mmc3", "mapChr", "()V"⟩, 11) := ⟨⟨by decide +kernel, by decide +kernel⟩, List.mem_of_getElem? (i := 27) (by decide +kernel), List.mem_of_getElem? (i := 46) (by decide +kernel), List.mem_of_getElem? (i := 47) (by decide +kernel)⟩
theorem lw_p2 : lw_okq (⟨"GameConsole$Mmc1", "mapRom", "()V"⟩, 13) := ⟨⟨by decide +kernel, by decide +kernel⟩, List.mem_of_getElem? (i := 102) (by decide +kernel), List.mem_of_getElem? (i := 108) (by decide +kernel), List.mem_of_getElem? (i := 109) (by decide +kernel)⟩
theorem lw_p3 : lw_okq (⟨"GameConsole$Mmc1", "mapChr", "()V"⟩, 13) := ⟨⟨by decide +kernel, by decide +kernel⟩, List.mem_of_getElem? (i := 102) (by decide +kernel), List.mem_of_getElem? (i := 115) (by decide +kernel), List.mem_of_getElem? (i := 116) (by decide +kernel)⟩
theorem lw_p4 : lw_okq (⟨"GameConsole$SoundUnit", "enable", "(I)V"⟩, 7) := ⟨⟨by decide +kernel, by decide +kernel⟩, List.mem_of_getElem? (i := 218) (by decide +kernel), List.mem_of_getElem? (i := 374) (by decide +kernel), List.mem_of_getElem? (i := 375) (by decide +kernel)⟩
theorem lw_p5 : lw_okq (⟨"GameConsole", "irqLines", "()I"⟩, 7) := ⟨⟨by decide +kernel, by decide +kernel⟩, List.mem_of_getElem? (i := 19) (by decide +kernel), List.mem_of_getElem? (i := 401) (by decide +kernel), List.mem_of_getElem? (i := 402) (by decide +kernel)⟩
theorem lw_p6 : lw_okq (⟨"GameConsole$Core", "enter", "(III)V"⟩, 8) := ⟨⟨by decide +kernel, by decide +kernel⟩, List.mem_of_getElem? (i := 294) (by decide +kernel), List.mem_of_getElem? (i := 410) (by decide +kernel), List.mem_of_getElem? (i := 411) (by decide +kernel)⟩
theorem lw_p7 : lw_okq (⟨"GameConsole$Core", "pushWord", "(I)V"⟩, 8) := ⟨⟨by decide +kernel, by decide +kernel⟩, List.mem_of_getElem? (i := 294) (by decide +kernel), List.mem_of_getElem? (i := 414) (by decide +kernel), List.mem_of_getElem? (i := 415) (by decide +kernel)⟩
theorem lw_p8 : lw_okq (⟨"GameConsole$Core", "push", "(I)V"⟩, 8) := ⟨⟨by decide +kernel, by decide +kernel⟩, List.mem_of_getElem? (i := 294) (by decide +kernel), List.mem_of_getElem? (i := 418) (by decide +kernel), List.mem_of_getElem? (i := 419) (by decide +kernel)⟩
theorem lw_p9 : lw_okq (⟨"GameConsole$Core", "fetch", "()I"⟩, 8) := ⟨⟨by decide +kernel, by decide +kernel⟩, List.mem_of_getElem? (i := 294) (by decide +kernel), List.mem_of_getElem? (i := 427) (by decide +kernel), List.mem_of_getElem? (i := 428) (by decide +kernel)⟩
theorem lw_p10 : lw_okq (⟨"GameConsole$PictureUnit", "nameTablePlace", "(I)I"⟩, 16) := ⟨⟨by decide +kernel, by decide +kernel⟩, List.mem_of_getElem? (i := 150) (by decide +kernel), List.mem_of_getElem? (i := 449) (by decide +kernel), List.mem_of_getElem? (i := 450) (by decide +kernel)⟩
theorem lw_p11 : lw_okq (⟨"GameConsole$PictureUnit", "growV", "()V"⟩, 16) := ⟨⟨by decide +kernel, by decide +kernel⟩, List.mem_of_getElem? (i := 150) (by decide +kernel), List.mem_of_getElem? (i := 456) (by decide +kernel), List.mem_of_getElem? (i := 457) (by decide +kernel)⟩
theorem lw_p12 : lw_okq (⟨"GameConsole$Bus", "loadInput", "(I)I"⟩, 7) := ⟨⟨by decide +kernel, by decide +kernel⟩, List.mem_of_getElem? (i := 266) (by decide +kernel), List.mem_of_getElem? (i := 460) (by decide +kernel), List.mem_of_getElem? (i := 461) (by decide +kernel)⟩
theorem lw_p13 : lw_okq (⟨"GameConsole$Core", "fetchOperand", "(I)I"⟩, 8) := ⟨⟨by decide +kernel, by decide +kernel⟩, List.mem_of_getElem? (i := 294) (by decide +kernel), List.mem_of_getElem? (i := 478) (by decide +kernel), List.mem_of_getElem? (i := 479) (by decide +kernel)⟩
theorem lw_p14 : lw_okq (⟨"GameConsole$Core", "addressOf", "(II)I"⟩, 8) := ⟨⟨by decide +kernel, by decide +kernel⟩, List.mem_of_getElem? (i := 294) (by decide +kernel), List.mem_of_getElem? (i := 482) (by decide +kernel), List.mem_of_getElem? (i := 483) (by decide +kernel)⟩
theorem lw_p15 : lw_okq (⟨"GameConsole$Core", "wordWithinPage", "(I)I"⟩, 8) := ⟨⟨by decide +kernel, by decide +kernel⟩, List.mem_of_getElem? (i := 294) (by decide +kernel), List.mem_of_getElem? (i := 486) (by decide +kernel), List.mem_of_getElem? (i := 487) (by decide +kernel)⟩
def lw_privs_1 : List (MethodName × Nat) := [(⟨"GameConsole$Mmc3", "mapRom", "()V"⟩, 11), (⟨"GameConsole$Mmc3", "mapChr", "()V"⟩, 11), (⟨"GameConsole$Mmc1", "mapRom", "()V"⟩, 13), (⟨"GameConsole$Mmc1", "mapChr", "()V"⟩, 13), (⟨"GameConsole$SoundUnit", "enable", "(I)V"⟩, 7), (⟨"GameConsole", "irqLines", "()I"⟩, 7), (⟨"GameConsole$Core", "enter", "(III)V"⟩, 8), (⟨"GameConsole$Core", "pushWord", "(I)V"⟩, 8), (⟨"GameConsole$Core", "push", "(I)V"⟩, 8), (⟨"GameConsole$Core", "fetch", "()I"⟩, 8), (⟨"GameConsole$PictureUnit", "nameTablePlace", "(I)I"⟩, 16), (⟨"GameConsole$PictureUnit", "growV", "()V"⟩, 16), (⟨"GameConsole$Bus", "loadInput", "(I)I"⟩, 7), (⟨"GameConsole$Core", "fetchOperand", "(I)I"⟩, 8), (⟨"GameConsole$Core", "addressOf", "(II)I"⟩, 8), (⟨"GameConsole$Core", "wordWithinPage", "(I)I"⟩, 8)]
theorem lw_r1 : ∀ q ∈ lw_privs_1, lw_okq q := List.forall_mem_cons.mpr ⟨lw_p0, List.forall_mem_cons.mpr ⟨lw_p1, List.forall_mem_cons.mpr ⟨lw_p2, List.forall_mem_cons.mpr ⟨lw_p3, List.forall_mem_cons.mpr ⟨lw_p4, List.forall_mem_cons.mpr ⟨lw_p5, List.forall_mem_cons.mpr ⟨lw_p6, List.forall_mem_cons.mpr ⟨lw_p7, List.forall_mem_cons.mpr ⟨lw_p8, List.forall_mem_cons.mpr ⟨lw_p9, List.forall_mem_cons.mpr ⟨lw_p10, List.forall_mem_cons.mpr ⟨lw_p11, List.forall_mem_cons.mpr ⟨lw_p12, List.forall_mem_cons.mpr ⟨lw_p13, List.forall_mem_cons.mpr ⟨lw_p14, List.forall_mem_cons.mpr ⟨lw_p15, fun _ h => absurd h List.not_mem_nil⟩⟩⟩⟩⟩⟩⟩⟩⟩⟩⟩⟩⟩⟩⟩⟩
theorem lw_p16 : lw_okq (⟨"GameConsole$Core", "indexed", "(II)I"⟩, 8) := ⟨⟨by decide +kernel, by decide +kernel⟩, List.mem_of_getElem? (i := 294) (by decide +kernel), List.mem_of_getElem? (i := 491) (by decide +kernel), List.mem_of_getElem? (i := 492) (by decide +kernel)⟩
theorem lw_p17 : lw_okq (⟨"GameConsole$Core", "perform", "(III)I"⟩, 8) := ⟨⟨by decide +kernel, by decide +kernel⟩, List.mem_of_getElem? (i := 294) (by decide +kernel), List.mem_of_getElem? (i := 498) (by decide +kernel), List.mem_of_getElem? (i := 499) (by decide +kernel)⟩
theorem lw_p18 : lw_okq (⟨"GameConsole$Core", "combine", "(II)V"⟩, 8) := ⟨⟨by decide +kernel, by decide +kernel⟩, List.mem_of_getElem? (i := 294) (by decide +kernel), List.mem_of_getElem? (i := 502) (by decide +kernel), List.mem_of_getElem? (i := 503) (by decide +kernel)⟩
theorem lw_p19 : lw_okq (⟨"GameConsole$Core", "judged", "(I)I"⟩, 8) := ⟨⟨by decide +kernel, by decide +kernel⟩, List.mem_of_getElem? (i := 294) (by decide +kernel), List.mem_of_getElem? (i := 506) (by decide +kernel), List.mem_of_getElem? (i := 507) (by decide +kernel)⟩
theorem lw_p20 : lw_okq (⟨"GameConsole$Core", "setFlag", "(IZ)V"⟩, 8) := ⟨⟨by decide +kernel, by decide +kernel⟩, List.mem_of_getElem? (i := 294) (by decide +kernel), List.mem_of_getElem? (i := 510) (by decide +kernel), List.mem_of_getElem? (i := 511) (by decide +kernel)⟩
theorem lw_p21 : lw_okq (⟨"GameConsole$Core", "add", "(I)V"⟩, 8) := ⟨⟨by decide +kernel, by decide +kernel⟩, List.mem_of_getElem? (i := 294) (by decide +kernel), List.mem_of_getElem? (i := 514) (by decide +kernel), List.mem_of_getElem? (i := 515) (by decide +kernel)⟩
theorem lw_p22 : lw_okq (⟨"GameConsole$Core", "compare", "(II)V"⟩, 8) := ⟨⟨by decide +kernel, by decide +kernel⟩, List.mem_of_getElem? (i := 294) (by decide +kernel), List.mem_of_getElem? (i := 518) (by decide +kernel), List.mem_of_getElem? (i := 519) (by decide +kernel)⟩
theorem lw_p23 : lw_okq (⟨"GameConsole$Core", "testBits", "(I)V"⟩, 8) := ⟨⟨by decide +kernel, by decide +kernel⟩, List.mem_of_getElem? (i := 294) (by decide +kernel), List.mem_of_getElem? (i := 522) (by decide +kernel), List.mem_of_getElem? (i := 523) (by decide +kernel)⟩
theorem lw_p24 : lw_okq (⟨"GameConsole$Core", "stored", "(I)I"⟩, 8) := ⟨⟨by decide +kernel, by decide +kernel⟩, List.mem_of_getElem? (i := 294) (by decide +kernel), List.mem_of_getElem? (i := 526) (by decide +kernel), List.mem_of_getElem? (i := 527) (by decide +kernel)⟩
theorem lw_p25 : lw_okq (⟨"GameConsole$PictureUnit", "storeControl", "(I)V"⟩, 16) := ⟨⟨by decide +kernel, by decide +kernel⟩, List.mem_of_getElem? (i := 150) (by decide +kernel), List.mem_of_getElem? (i := 538) (by decide +kernel), List.mem_of_getElem? (i := 539) (by decide +kernel)⟩
theorem lw_p26 : lw_okq (⟨"GameConsole$PictureUnit", "storeScroll", "(I)V"⟩, 16) := ⟨⟨by decide +kernel, by decide +kernel⟩, List.mem_of_getElem? (i := 150) (by decide +kernel), List.mem_of_getElem? (i := 542) (by decide +kernel), List.mem_of_getElem? (i := 543) (by decide +kernel)⟩
theorem lw_p27 : lw_okq (⟨"GameConsole$PictureUnit", "storeAddress", "(I)V"⟩, 16) := ⟨⟨by decide +kernel, by decide +kernel⟩, List.mem_of_getElem? (i := 150) (by decide +kernel), List.mem_of_getElem? (i := 546) (by decide +kernel), List.mem_of_getElem? (i := 547) (by decide +kernel)⟩
theorem lw_p28 : lw_okq (⟨"GameConsole$PictureUnit", "storeByte", "(II)V"⟩, 16) := ⟨⟨by decide +kernel, by decide +kernel⟩, List.mem_of_getElem? (i := 150) (by decide +kernel), List.mem_of_getElem? (i := 550) (by decide +kernel), List.mem_of_getElem? (i := 551) (by decide +kernel)⟩
theorem lw_p29 : lw_okq (⟨"GameConsole$SoundUnit", "restartFrame", "(I)V"⟩, 7) := ⟨⟨by decide +kernel, by decide +kernel⟩, List.mem_of_getElem? (i := 218) (by decide +kernel), List.mem_of_getElem? (i := 562) (by decide +kernel), List.mem_of_getElem? (i := 563) (by decide +kernel)⟩
theorem lw_p30 : lw_okq (⟨"GameConsole$SoundUnit", "countLengths", "()V"⟩, 7) := ⟨⟨by decide +kernel, by decide +kernel⟩, List.mem_of_getElem? (i := 218) (by decide +kernel), List.mem_of_getElem? (i := 566) (by decide +kernel), List.mem_of_getElem? (i := 567) (by decide +kernel)⟩
theorem lw_p31 : lw_okq (⟨"GameConsole$SoundUnit", "storeChannel", "(III)V"⟩, 7) := ⟨⟨by decide +kernel, by decide +kernel⟩, List.mem_of_getElem? (i := 218) (by decide +kernel), List.mem_of_getElem? (i := 570) (by decide +kernel), List.mem_of_getElem? (i := 571) (by decide +kernel)⟩
def lw_privs_2 : List (MethodName × Nat) := [(⟨"GameConsole$Core", "indexed", "(II)I"⟩, 8), (⟨"GameConsole$Core", "perform", "(III)I"⟩, 8), (⟨"GameConsole$Core", "combine", "(II)V"⟩, 8), (⟨"GameConsole$Core", "judged", "(I)I"⟩, 8), (⟨"GameConsole$Core", "setFlag", "(IZ)V"⟩, 8), (⟨"GameConsole$Core", "add", "(I)V"⟩, 8), (⟨"GameConsole$Core", "compare", "(II)V"⟩, 8), (⟨"GameConsole$Core", "testBits", "(I)V"⟩, 8), (⟨"GameConsole$Core", "stored", "(I)I"⟩, 8), (⟨"GameConsole$PictureUnit", "storeControl", "(I)V"⟩, 16), (⟨"GameConsole$PictureUnit", "storeScroll", "(I)V"⟩, 16), (⟨"GameConsole$PictureUnit", "storeAddress", "(I)V"⟩, 16), (⟨"GameConsole$PictureUnit", "storeByte", "(II)V"⟩, 16), (⟨"GameConsole$SoundUnit", "restartFrame", "(I)V"⟩, 7), (⟨"GameConsole$SoundUnit", "countLengths", "()V"⟩, 7), (⟨"GameConsole$SoundUnit", "storeChannel", "(III)V"⟩, 7)]
theorem lw_r2 : ∀ q ∈ lw_privs_2, lw_okq q := List.forall_mem_cons.mpr ⟨lw_p16, List.forall_mem_cons.mpr ⟨lw_p17, List.forall_mem_cons.mpr ⟨lw_p18, List.forall_mem_cons.mpr ⟨lw_p19, List.forall_mem_cons.mpr ⟨lw_p20, List.forall_mem_cons.mpr ⟨lw_p21, List.forall_mem_cons.mpr ⟨lw_p22, List.forall_mem_cons.mpr ⟨lw_p23, List.forall_mem_cons.mpr ⟨lw_p24, List.forall_mem_cons.mpr ⟨lw_p25, List.forall_mem_cons.mpr ⟨lw_p26, List.forall_mem_cons.mpr ⟨lw_p27, List.forall_mem_cons.mpr ⟨lw_p28, List.forall_mem_cons.mpr ⟨lw_p29, List.forall_mem_cons.mpr ⟨lw_p30, List.forall_mem_cons.mpr ⟨lw_p31, fun _ h => absurd h List.not_mem_nil⟩⟩⟩⟩⟩⟩⟩⟩⟩⟩⟩⟩⟩⟩⟩⟩
theorem lw_p32 : lw_okq (⟨"GameConsole$Mmc1", "setRegister", "(II)V"⟩, 13) := ⟨⟨by decide +kernel, by decide +kernel⟩, List.mem_of_getElem? (i := 102) (by decide +kernel), List.mem_of_getElem? (i := 583) (by decide +kernel), List.mem_of_getElem? (i := 584) (by decide +kernel)⟩
theorem lw_p33 : lw_okq (⟨"GameConsole$Core", "change", "(III)V"⟩, 8) := ⟨⟨by decide +kernel, by decide +kernel⟩, List.mem_of_getElem? (i := 294) (by decide +kernel), List.mem_of_getElem? (i := 590) (by decide +kernel), List.mem_of_getElem? (i := 591) (by decide +kernel)⟩
theorem lw_p34 : lw_okq (⟨"GameConsole$Core", "changed", "(II)I"⟩, 8) := ⟨⟨by decide +kernel, by decide +kernel⟩, List.mem_of_getElem? (i := 294) (by decide +kernel), List.mem_of_getElem? (i := 594) (by decide +kernel), List.mem_of_getElem? (i := 595) (by decide +kernel)⟩
theorem lw_p35 : lw_okq (⟨"GameConsole$Core", "shiftedUp", "(II)I"⟩, 8) := ⟨⟨by decide +kernel, by decide +kernel⟩, List.mem_of_getElem? (i := 294) (by decide +kernel), List.mem_of_getElem? (i := 598) (by decide +kernel), List.mem_of_getElem? (i := 599) (by decide +kernel)⟩
theorem lw_p36 : lw_okq (⟨"GameConsole$Core", "shiftedDown", "(II)I"⟩, 8) := ⟨⟨by decide +kernel, by decide +kernel⟩, List.mem_of_getElem? (i := 294) (by decide +kernel), List.mem_of_getElem? (i := 602) (by decide +kernel), List.mem_of_getElem? (i := 603) (by decide +kernel)⟩
theorem lw_p37 : lw_okq (⟨"GameConsole$Core", "branch", "(II)I"⟩, 8) := ⟨⟨by decide +kernel, by decide +kernel⟩, List.mem_of_getElem? (i := 294) (by decide +kernel), List.mem_of_getElem? (i := 606) (by decide +kernel), List.mem_of_getElem? (i := 607) (by decide +kernel)⟩
theorem lw_p38 : lw_okq (⟨"GameConsole$Core", "branchTaken", "(I)Z"⟩, 8) := ⟨⟨by decide +kernel, by decide +kernel⟩, List.mem_of_getElem? (i := 294) (by decide +kernel), List.mem_of_getElem? (i := 610) (by decide +kernel), List.mem_of_getElem? (i := 611) (by decide +kernel)⟩
theorem lw_p39 : lw_okq (⟨"GameConsole$Core", "changeRegister", "(I)V"⟩, 8) := ⟨⟨by decide +kernel, by decide +kernel⟩, List.mem_of_getElem? (i := 294) (by decide +kernel), List.mem_of_getElem? (i := 614) (by decide +kernel), List.mem_of_getElem? (i := 615) (by decide +kernel)⟩
theorem lw_p40 : lw_okq (⟨"GameConsole$Core", "changeFlag", "(I)V"⟩, 8) := ⟨⟨by decide +kernel, by decide +kernel⟩, List.mem_of_getElem? (i := 294) (by decide +kernel), List.mem_of_getElem? (i := 618) (by decide +kernel), List.mem_of_getElem? (i := 619) (by decide +kernel)⟩
theorem lw_p41 : lw_okq (⟨"GameConsole$Core", "useStack", "(I)V"⟩, 8) := ⟨⟨by decide +kernel, by decide +kernel⟩, List.mem_of_getElem? (i := 294) (by decide +kernel), List.mem_of_getElem? (i := 622) (by decide +kernel), List.mem_of_getElem? (i := 623) (by decide +kernel)⟩
theorem lw_p42 : lw_okq (⟨"GameConsole$Core", "pull", "()I"⟩, 8) := ⟨⟨by decide +kernel, by decide +kernel⟩, List.mem_of_getElem? (i := 294) (by decide +kernel), List.mem_of_getElem? (i := 626) (by decide +kernel), List.mem_of_getElem? (i := 627) (by decide +kernel)⟩
theorem lw_p43 : lw_okq (⟨"GameConsole$Core", "pullFlags", "()V"⟩, 8) := ⟨⟨by decide +kernel, by decide +kernel⟩, List.mem_of_getElem? (i := 294) (by decide +kernel), List.mem_of_getElem? (i := 634) (by decide +kernel), List.mem_of_getElem? (i := 635) (by decide +kernel)⟩
theorem lw_p44 : lw_okq (⟨"GameConsole$Core", "jump", "(II)V"⟩, 8) := ⟨⟨by decide +kernel, by decide +kernel⟩, List.mem_of_getElem? (i := 294) (by decide +kernel), List.mem_of_getElem? (i := 638) (by decide +kernel), List.mem_of_getElem? (i := 639) (by decide +kernel)⟩
theorem lw_p45 : lw_okq (⟨"GameConsole$Core", "pullWord", "()I"⟩, 8) := ⟨⟨by decide +kernel, by decide +kernel⟩, List.mem_of_getElem? (i := 294) (by decide +kernel), List.mem_of_getElem? (i := 642) (by decide +kernel), List.mem_of_getElem? (i := 643) (by decide +kernel)⟩
theorem lw_p46 : lw_okq (⟨"GameConsole", "settle", "(I)I"⟩, 7) := ⟨⟨by decide +kernel, by decide +kernel⟩, List.mem_of_getElem? (i := 19) (by decide +kernel), List.mem_of_getElem? (i := 648) (by decide +kernel), List.mem_of_getElem? (i := 649) (by decide +kernel)⟩
theorem lw_p47 : lw_okq (⟨"GameConsole", "letTimePass", "(I)V"⟩, 7) := ⟨⟨by decide +kernel, by decide +kernel⟩, List.mem_of_getElem? (i := 19) (by decide +kernel), List.mem_of_getElem? (i := 657) (by decide +kernel), List.mem_of_getElem? (i := 658) (by decide +kernel)⟩
def lw_privs_3 : List (MethodName × Nat) := [(⟨"GameConsole$Mmc1", "setRegister", "(II)V"⟩, 13), (⟨"GameConsole$Core", "change", "(III)V"⟩, 8), (⟨"GameConsole$Core", "changed", "(II)I"⟩, 8), (⟨"GameConsole$Core", "shiftedUp", "(II)I"⟩, 8), (⟨"GameConsole$Core", "shiftedDown", "(II)I"⟩, 8), (⟨"GameConsole$Core", "branch", "(II)I"⟩, 8), (⟨"GameConsole$Core", "branchTaken", "(I)Z"⟩, 8), (⟨"GameConsole$Core", "changeRegister", "(I)V"⟩, 8), (⟨"GameConsole$Core", "changeFlag", "(I)V"⟩, 8), (⟨"GameConsole$Core", "useStack", "(I)V"⟩, 8), (⟨"GameConsole$Core", "pull", "()I"⟩, 8), (⟨"GameConsole$Core", "pullFlags", "()V"⟩, 8), (⟨"GameConsole$Core", "jump", "(II)V"⟩, 8), (⟨"GameConsole$Core", "pullWord", "()I"⟩, 8), (⟨"GameConsole", "settle", "(I)I"⟩, 7), (⟨"GameConsole", "letTimePass", "(I)V"⟩, 7)]
theorem lw_r3 : ∀ q ∈ lw_privs_3, lw_okq q := List.forall_mem_cons.mpr ⟨lw_p32, List.forall_mem_cons.mpr ⟨lw_p33, List.forall_mem_cons.mpr ⟨lw_p34, List.forall_mem_cons.mpr ⟨lw_p35, List.forall_mem_cons.mpr ⟨lw_p36, List.forall_mem_cons.mpr ⟨lw_p37, List.forall_mem_cons.mpr ⟨lw_p38, List.forall_mem_cons.mpr ⟨lw_p39, List.forall_mem_cons.mpr ⟨lw_p40, List.forall_mem_cons.mpr ⟨lw_p41, List.forall_mem_cons.mpr ⟨lw_p42, List.forall_mem_cons.mpr ⟨lw_p43, List.forall_mem_cons.mpr ⟨lw_p44, List.forall_mem_cons.mpr ⟨lw_p45, List.forall_mem_cons.mpr ⟨lw_p46, List.forall_mem_cons.mpr ⟨lw_p47, fun _ h => absurd h List.not_mem_nil⟩⟩⟩⟩⟩⟩⟩⟩⟩⟩⟩⟩⟩⟩⟩⟩
theorem lw_p48 : lw_okq (⟨"GameConsole$PictureUnit", "comeToDotOne", "()V"⟩, 16) := ⟨⟨by decide +kernel, by decide +kernel⟩, List.mem_of_getElem? (i := 150) (by decide +kernel), List.mem_of_getElem? (i := 669) (by decide +kernel), List.mem_of_getElem? (i := 670) (by decide +kernel)⟩
theorem lw_p49 : lw_okq (⟨"GameConsole$PictureUnit", "tellLine", "()V"⟩, 16) := ⟨⟨by decide +kernel, by decide +kernel⟩, List.mem_of_getElem? (i := 150) (by decide +kernel), List.mem_of_getElem? (i := 673) (by decide +kernel), List.mem_of_getElem? (i := 674) (by decide +kernel)⟩
theorem lw_p50 : lw_okq (⟨"GameConsole$SoundUnit", "nextMark", "()I"⟩, 7) := ⟨⟨by decide +kernel, by decide +kernel⟩, List.mem_of_getElem? (i := 218) (by decide +kernel), List.mem_of_getElem? (i := 690) (by decide +kernel), List.mem_of_getElem? (i := 691) (by decide +kernel)⟩
theorem lw_p51 : lw_okq (⟨"GameConsole$SoundUnit", "frameEnd", "()I"⟩, 7) := ⟨⟨by decide +kernel, by decide +kernel⟩, List.mem_of_getElem? (i := 218) (by decide +kernel), List.mem_of_getElem? (i := 694) (by decide +kernel), List.mem_of_getElem? (i := 695) (by decide +kernel)⟩
theorem lw_p52 : lw_okq (⟨"GameConsole$SoundUnit", "comeToMark", "()V"⟩, 7) := ⟨⟨by decide +kernel, by decide +kernel⟩, List.mem_of_getElem? (i := 218) (by decide +kernel), List.mem_of_getElem? (i := 700) (by decide +kernel), List.mem_of_getElem? (i := 701) (by decide +kernel)⟩
theorem lw_p53 : lw_okq (⟨"java/lang/Throwable", "fillInStackTrace", "(I)Ljava/lang/Throwable;"⟩, 6) := ⟨⟨by decide +kernel, by decide +kernel⟩, List.mem_of_getElem? (i := 775) (by decide +kernel), List.mem_of_getElem? (i := 773) (by decide +kernel), List.mem_of_getElem? (i := 774) (by decide +kernel)⟩
theorem lw_p54 : lw_okq (⟨"GameConsoleModel", "oneStep", "()I"⟩, 53) := ⟨⟨by decide +kernel, by decide +kernel⟩, List.mem_of_getElem? (i := 886) (by decide +kernel), List.mem_of_getElem? (i := 1069) (by decide +kernel), List.mem_of_getElem? (i := 1070) (by decide +kernel)⟩
theorem lw_p55 : lw_okq (⟨"GameConsoleModel", "perform", "()I"⟩, 53) := ⟨⟨by decide +kernel, by decide +kernel⟩, List.mem_of_getElem? (i := 886) (by decide +kernel), List.mem_of_getElem? (i := 1073) (by decide +kernel), List.mem_of_getElem? (i := 1074) (by decide +kernel)⟩
theorem lw_p56 : lw_okq (⟨"GameConsoleModel", "interrupt", "(II)V"⟩, 53) := ⟨⟨by decide +kernel, by decide +kernel⟩, List.mem_of_getElem? (i := 886) (by decide +kernel), List.mem_of_getElem? (i := 1078) (by decide +kernel), List.mem_of_getElem? (i := 1079) (by decide +kernel)⟩
theorem lw_p57 : lw_okq (⟨"GameConsoleModel", "pushWord", "(I)V"⟩, 53) := ⟨⟨by decide +kernel, by decide +kernel⟩, List.mem_of_getElem? (i := 886) (by decide +kernel), List.mem_of_getElem? (i := 1082) (by decide +kernel), List.mem_of_getElem? (i := 1083) (by decide +kernel)⟩
theorem lw_p58 : lw_okq (⟨"GameConsoleModel", "push", "(I)V"⟩, 53) := ⟨⟨by decide +kernel, by decide +kernel⟩, List.mem_of_getElem? (i := 886) (by decide +kernel), List.mem_of_getElem? (i := 1086) (by decide +kernel), List.mem_of_getElem? (i := 1087) (by decide +kernel)⟩
theorem lw_p59 : lw_okq (⟨"GameConsoleModel", "flag", "(IZ)V"⟩, 53) := ⟨⟨by decide +kernel, by decide +kernel⟩, List.mem_of_getElem? (i := 886) (by decide +kernel), List.mem_of_getElem? (i := 1090) (by decide +kernel), List.mem_of_getElem? (i := 1091) (by decide +kernel)⟩
theorem lw_p60 : lw_okq (⟨"GameConsoleModel", "word", "(I)I"⟩, 53) := ⟨⟨by decide +kernel, by decide +kernel⟩, List.mem_of_getElem? (i := 886) (by decide +kernel), List.mem_of_getElem? (i := 1094) (by decide +kernel), List.mem_of_getElem? (i := 1095) (by decide +kernel)⟩
theorem lw_p61 : lw_okq (⟨"GameConsoleModel", "get", "(I)I"⟩, 53) := ⟨⟨by decide +kernel, by decide +kernel⟩, List.mem_of_getElem? (i := 886) (by decide +kernel), List.mem_of_getElem? (i := 1098) (by decide +kernel), List.mem_of_getElem? (i := 1099) (by decide +kernel)⟩
theorem lw_p62 : lw_okq (⟨"GameConsoleModel", "readPicture", "(I)I"⟩, 53) := ⟨⟨by decide +kernel, by decide +kernel⟩, List.mem_of_getElem? (i := 886) (by decide +kernel), List.mem_of_getElem? (i := 1102) (by decide +kernel), List.mem_of_getElem? (i := 1103) (by decide +kernel)⟩
theorem lw_p63 : lw_okq (⟨"GameConsoleModel", "seen", "(I)I"⟩, 53) := ⟨⟨by decide +kernel, by decide +kernel⟩, List.mem_of_getElem? (i := 886) (by decide +kernel), List.mem_of_getElem? (i := 1106) (by decide +kernel), List.mem_of_getElem? (i := 1107) (by decide +kernel)⟩
def lw_privs_4 : List (MethodName × Nat) := [(⟨"GameConsole$PictureUnit", "comeToDotOne", "()V"⟩, 16), (⟨"GameConsole$PictureUnit", "tellLine", "()V"⟩, 16), (⟨"GameConsole$SoundUnit", "nextMark", "()I"⟩, 7), (⟨"GameConsole$SoundUnit", "frameEnd", "()I"⟩, 7), (⟨"GameConsole$SoundUnit", "comeToMark", "()V"⟩, 7), (⟨"java/lang/Throwable", "fillInStackTrace", "(I)Ljava/lang/Throwable;"⟩, 6), (⟨"GameConsoleModel", "oneStep", "()I"⟩, 53), (⟨"GameConsoleModel", "perform", "()I"⟩, 53), (⟨"GameConsoleModel", "interrupt", "(II)V"⟩, 53), (⟨"GameConsoleModel", "pushWord", "(I)V"⟩, 53), (⟨"GameConsoleModel", "push", "(I)V"⟩, 53), (⟨"GameConsoleModel", "flag", "(IZ)V"⟩, 53), (⟨"GameConsoleModel", "word", "(I)I"⟩, 53), (⟨"GameConsoleModel", "get", "(I)I"⟩, 53), (⟨"GameConsoleModel", "readPicture", "(I)I"⟩, 53), (⟨"GameConsoleModel", "seen", "(I)I"⟩, 53)]
theorem lw_r4 : ∀ q ∈ lw_privs_4, lw_okq q := List.forall_mem_cons.mpr ⟨lw_p48, List.forall_mem_cons.mpr ⟨lw_p49, List.forall_mem_cons.mpr ⟨lw_p50, List.forall_mem_cons.mpr ⟨lw_p51, List.forall_mem_cons.mpr ⟨lw_p52, List.forall_mem_cons.mpr ⟨lw_p53, List.forall_mem_cons.mpr ⟨lw_p54, List.forall_mem_cons.mpr ⟨lw_p55, List.forall_mem_cons.mpr ⟨lw_p56, List.forall_mem_cons.mpr ⟨lw_p57, List.forall_mem_cons.mpr ⟨lw_p58, List.forall_mem_cons.mpr ⟨lw_p59, List.forall_mem_cons.mpr ⟨lw_p60, List.forall_mem_cons.mpr ⟨lw_p61, List.forall_mem_cons.mpr ⟨lw_p62, List.forall_mem_cons.mpr ⟨lw_p63, fun _ h => absurd h List.not_mem_nil⟩⟩⟩⟩⟩⟩⟩⟩⟩⟩⟩⟩⟩⟩⟩⟩
theorem lw_p64 : lw_okq (⟨"GameConsoleModel", "chrBank", "(I)I"⟩, 53) := ⟨⟨by decide +kernel, by decide +kernel⟩, List.mem_of_getElem? (i := 886) (by decide +kernel), List.mem_of_getElem? (i := 1110) (by decide +kernel), List.mem_of_getElem? (i := 1111) (by decide +kernel)⟩
theorem lw_p65 : lw_okq (⟨"GameConsoleModel", "tablePlace", "(I)I"⟩, 53) := ⟨⟨by decide +kernel, by decide +kernel⟩, List.mem_of_getElem? (i := 886) (by decide +kernel), List.mem_of_getElem? (i := 1114) (by decide +kernel), List.mem_of_getElem? (i := 1115) (by decide +kernel)⟩
theorem lw_p66 : lw_okq (⟨"GameConsoleModel", "goOn", "()V"⟩, 53) := ⟨⟨by decide +kernel, by decide +kernel⟩, List.mem_of_getElem? (i := 886) (by decide +kernel), List.mem_of_getElem? (i := 1121) (by decide +kernel), List.mem_of_getElem? (i := 1122) (by decide +kernel)⟩
theorem lw_p67 : lw_okq (⟨"GameConsoleModel", "readSound", "(I)I"⟩, 53) := ⟨⟨by decide +kernel, by decide +kernel⟩, List.mem_of_getElem? (i := 886) (by decide +kernel), List.mem_of_getElem? (i := 1125) (by decide +kernel), List.mem_of_getElem? (i := 1126) (by decide +kernel)⟩
theorem lw_p68 : lw_okq (⟨"GameConsoleModel", "prgBank", "(I)I"⟩, 53) := ⟨⟨by decide +kernel, by decide +kernel⟩, List.mem_of_getElem? (i := 886) (by decide +kernel), List.mem_of_getElem? (i := 1130) (by decide +kernel), List.mem_of_getElem? (i := 1131) (by decide +kernel)⟩
theorem lw_p69 : lw_okq (⟨"GameConsoleModel", "fetch", "()I"⟩, 53) := ⟨⟨by decide +kernel, by decide +kernel⟩, List.mem_of_getElem? (i := 886) (by decide +kernel), List.mem_of_getElem? (i := 1136) (by decide +kernel), List.mem_of_getElem? (i := 1137) (by decide +kernel)⟩
theorem lw_p70 : lw_okq (⟨"GameConsoleModel", "modeOne", "(I)I"⟩, 53) := ⟨⟨by decide +kernel, by decide +kernel⟩, List.mem_of_getElem? (i := 886) (by decide +kernel), List.mem_of_getElem? (i := 1140) (by decide +kernel), List.mem_of_getElem? (i := 1141) (by decide +kernel)⟩
theorem lw_p71 : lw_okq (⟨"GameConsoleModel", "arithmetic", "(II)I"⟩, 53) := ⟨⟨by decide +kernel, by decide +kernel⟩, List.mem_of_getElem? (i := 886) (by decide +kernel), List.mem_of_getElem? (i := 1144) (by decide +kernel), List.mem_of_getElem? (i := 1145) (by decide +kernel)⟩
theorem lw_p72 : lw_okq (⟨"GameConsoleModel", "addressed", "(I)I"⟩, 53) := ⟨⟨by decide +kernel, by decide +kernel⟩, List.mem_of_getElem? (i := 886) (by decide +kernel), List.mem_of_getElem? (i := 1148) (by decide +kernel), List.mem_of_getElem? (i := 1149) (by decide +kernel)⟩
theorem lw_p73 : lw_okq (⟨"GameConsoleModel", "fetchWord", "()I"⟩, 53) := ⟨⟨by decide +kernel, by decide +kernel⟩, List.mem_of_getElem? (i := 886) (by decide +kernel), List.mem_of_getElem? (i := 1152) (by decide +kernel), List.mem_of_getElem? (i := 1153) (by decide +kernel)⟩
theorem lw_p74 : lw_okq (⟨"GameConsoleModel", "indexed", "(II)I"⟩, 53) := ⟨⟨by decide +kernel, by decide +kernel⟩, List.mem_of_getElem? (i := 886) (by decide +kernel), List.mem_of_getElem? (i := 1156) (by decide +kernel), List.mem_of_getElem? (i := 1157) (by decide +kernel)⟩
theorem lw_p75 : lw_okq (⟨"GameConsoleModel", "pointed", "(I)I"⟩, 53) := ⟨⟨by decide +kernel, by decide +kernel⟩, List.mem_of_getElem? (i := 886) (by decide +kernel), List.mem_of_getElem? (i := 1160) (by decide +kernel), List.mem_of_getElem? (i := 1161) (by decide +kernel)⟩
theorem lw_p76 : lw_okq (⟨"GameConsoleModel", "put", "(II)V"⟩, 53) := ⟨⟨by decide +kernel, by decide +kernel⟩, List.mem_of_getElem? (i := 886) (by decide +kernel), List.mem_of_getElem? (i := 1164) (by decide +kernel), List.mem_of_getElem? (i := 1165) (by decide +kernel)⟩
theorem lw_p77 : lw_okq (⟨"GameConsoleModel", "writePicture", "(II)V"⟩, 53) := ⟨⟨by decide +kernel, by decide +kernel⟩, List.mem_of_getElem? (i := 886) (by decide +kernel), List.mem_of_getElem? (i := 1168) (by decide +kernel), List.mem_of_getElem? (i := 1169) (by decide +kernel)⟩
theorem lw_p78 : lw_okq (⟨"GameConsoleModel", "keep", "(II)V"⟩, 53) := ⟨⟨by decide +kernel, by decide +kernel⟩, List.mem_of_getElem? (i := 886) (by decide +kernel), List.mem_of_getElem? (i := 1172) (by decide +kernel), List.mem_of_getElem? (i := 1173) (by decide +kernel)⟩
theorem lw_p79 : lw_okq (⟨"GameConsoleModel", "writeSound", "(II)V"⟩, 53) := ⟨⟨by decide +kernel, by decide +kernel⟩, List.mem_of_getElem? (i := 886) (by decide +kernel), List.mem_of_getElem? (i := 1176) (by decide +kernel), List.mem_of_getElem? (i := 1177) (by decide +kernel)⟩
def lw_privs_5 : List (MethodName × Nat) := [(⟨"GameConsoleModel", "chrBank", "(I)I"⟩, 53), (⟨"GameConsoleModel", "tablePlace", "(I)I"⟩, 53), (⟨"GameConsoleModel", "goOn", "()V"⟩, 53), (⟨"GameConsoleModel", "readSound", "(I)I"⟩, 53), (⟨"GameConsoleModel", "prgBank", "(I)I"⟩, 53), (⟨"GameConsoleModel", "fetch", "()I"⟩, 53), (⟨"GameConsoleModel", "modeOne", "(I)I"⟩, 53), (⟨"GameConsoleModel", "arithmetic", "(II)I"⟩, 53), (⟨"GameConsoleModel", "addressed", "(I)I"⟩, 53), (⟨"GameConsoleModel", "fetchWord", "()I"⟩, 53), (⟨"GameConsoleModel", "indexed", "(II)I"⟩, 53), (⟨"GameConsoleModel", "pointed", "(I)I"⟩, 53), (⟨"GameConsoleModel", "put", "(II)V"⟩, 53), (⟨"GameConsoleModel", "writePicture", "(II)V"⟩, 53), (⟨"GameConsoleModel", "keep", "(II)V"⟩, 53), (⟨"GameConsoleModel", "writeSound", "(II)V"⟩, 53)]
theorem lw_r5 : ∀ q ∈ lw_privs_5, lw_okq q := List.forall_mem_cons.mpr ⟨lw_p64, List.forall_mem_cons.mpr ⟨lw_p65, List.forall_mem_cons.mpr ⟨lw_p66, List.forall_mem_cons.mpr ⟨lw_p67, List.forall_mem_cons.mpr ⟨lw_p68, List.forall_mem_cons.mpr ⟨lw_p69, List.forall_mem_cons.mpr ⟨lw_p70, List.forall_mem_cons.mpr ⟨lw_p71, List.forall_mem_cons.mpr ⟨lw_p72, List.forall_mem_cons.mpr ⟨lw_p73, List.forall_mem_cons.mpr ⟨lw_p74, List.forall_mem_cons.mpr ⟨lw_p75, List.forall_mem_cons.mpr ⟨lw_p76, List.forall_mem_cons.mpr ⟨lw_p77, List.forall_mem_cons.mpr ⟨lw_p78, List.forall_mem_cons.mpr ⟨lw_p79, fun _ h => absurd h List.not_mem_nil⟩⟩⟩⟩⟩⟩⟩⟩⟩⟩⟩⟩⟩⟩⟩⟩
theorem lw_p80 : lw_okq (⟨"GameConsoleModel", "dma", "(I)V"⟩, 53) := ⟨⟨by decide +kernel, by decide +kernel⟩, List.mem_of_getElem? (i := 886) (by decide +kernel), List.mem_of_getElem? (i := 1183) (by decide +kernel), List.mem_of_getElem? (i := 1184) (by decide +kernel)⟩
theorem lw_p81 : lw_okq (⟨"GameConsoleModel", "count", "()V"⟩, 53) := ⟨⟨by decide +kernel, by decide +kernel⟩, List.mem_of_getElem? (i := 886) (by decide +kernel), List.mem_of_getElem? (i := 1187) (by decide +kernel), List.mem_of_getElem? (i := 1188) (by decide +kernel)⟩
theorem lw_p82 : lw_okq (⟨"GameConsoleModel", "writeThree", "(II)V"⟩, 53) := ⟨⟨by decide +kernel, by decide +kernel⟩, List.mem_of_getElem? (i := 886) (by decide +kernel), List.mem_of_getElem? (i := 1191) (by decide +kernel), List.mem_of_getElem? (i := 1192) (by decide +kernel)⟩
theorem lw_p83 : lw_okq (⟨"GameConsoleModel", "writeOne", "(II)V"⟩, 53) := ⟨⟨by decide +kernel, by decide +kernel⟩, List.mem_of_getElem? (i := 886) (by decide +kernel), List.mem_of_getElem? (i := 1195) (by decide +kernel), List.mem_of_getElem? (i := 1196) (by decide +kernel)⟩
theorem lw_p84 : lw_okq (⟨"GameConsoleModel", "shown", "(I)I"⟩, 53) := ⟨⟨by decide +kernel, by decide +kernel⟩, List.mem_of_getElem? (i := 886) (by decide +kernel), List.mem_of_getElem? (i := 1202) (by decide +kernel), List.mem_of_getElem? (i := 1203) (by decide +kernel)⟩
theorem lw_p85 : lw_okq (⟨"GameConsoleModel", "add", "(I)V"⟩, 53) := ⟨⟨by decide +kernel, by decide +kernel⟩, List.mem_of_getElem? (i := 886) (by decide +kernel), List.mem_of_getElem? (i := 1206) (by decide +kernel), List.mem_of_getElem? (i := 1207) (by decide +kernel)⟩
theorem lw_p86 : lw_okq (⟨"GameConsoleModel", "compare", "(II)V"⟩, 53) := ⟨⟨by decide +kernel, by decide +kernel⟩, List.mem_of_getElem? (i := 886) (by decide +kernel), List.mem_of_getElem? (i := 1210) (by decide +kernel), List.mem_of_getElem? (i := 1211) (by decide +kernel)⟩
theorem lw_p87 : lw_okq (⟨"GameConsoleModel", "doTwo", "(II)I"⟩, 53) := ⟨⟨by decide +kernel, by decide +kernel⟩, List.mem_of_getElem? (i := 886) (by decide +kernel), List.mem_of_getElem? (i := 1214) (by decide +kernel), List.mem_of_getElem? (i := 1215) (by decide +kernel)⟩
theorem lw_p88 : lw_okq (⟨"GameConsoleModel", "loadX", "(I)I"⟩, 53) := ⟨⟨by decide +kernel, by decide +kernel⟩, List.mem_of_getElem? (i := 886) (by decide +kernel), List.mem_of_getElem? (i := 1218) (by decide +kernel), List.mem_of_getElem? (i := 1219) (by decide +kernel)⟩
theorem lw_p89 : lw_okq (⟨"GameConsoleModel", "moved", "(I)I"⟩, 53) := ⟨⟨by decide +kernel, by decide +kernel⟩, List.mem_of_getElem? (i := 886) (by decide +kernel), List.mem_of_getElem? (i := 1222) (by decide +kernel), List.mem_of_getElem? (i := 1223) (by decide +kernel)⟩
theorem lw_p90 : lw_okq (⟨"GameConsoleModel", "stackPointer", "(I)I"⟩, 53) := ⟨⟨by decide +kernel, by decide +kernel⟩, List.mem_of_getElem? (i := 886) (by decide +kernel), List.mem_of_getElem? (i := 1226) (by decide +kernel), List.mem_of_getElem? (i := 1227) (by decide +kernel)⟩
theorem lw_p91 : lw_okq (⟨"GameConsoleModel", "change", "(II)I"⟩, 53) := ⟨⟨by decide +kernel, by decide +kernel⟩, List.mem_of_getElem? (i := 886) (by decide +kernel), List.mem_of_getElem? (i := 1230) (by decide +kernel), List.mem_of_getElem? (i := 1231) (by decide +kernel)⟩
theorem lw_p92 : lw_okq (⟨"GameConsoleModel", "changed", "(II)I"⟩, 53) := ⟨⟨by decide +kernel, by decide +kernel⟩, List.mem_of_getElem? (i := 886) (by decide +kernel), List.mem_of_getElem? (i := 1234) (by decide +kernel), List.mem_of_getElem? (i := 1235) (by decide +kernel)⟩
theorem lw_p93 : lw_okq (⟨"GameConsoleModel", "doZero", "(II)I"⟩, 53) := ⟨⟨by decide +kernel, by decide +kernel⟩, List.mem_of_getElem? (i := 886) (by decide +kernel), List.mem_of_getElem? (i := 1238) (by decide +kernel), List.mem_of_getElem? (i := 1239) (by decide +kernel)⟩
theorem lw_p94 : lw_okq (⟨"GameConsoleModel", "branch", "(I)I"⟩, 53) := ⟨⟨by decide +kernel, by decide +kernel⟩, List.mem_of_getElem? (i := 886) (by decide +kernel), List.mem_of_getElem? (i := 1242) (by decide +kernel), List.mem_of_getElem? (i := 1243) (by decide +kernel)⟩
theorem lw_p95 : lw_okq (⟨"GameConsoleModel", "stacked", "(I)I"⟩, 53) := ⟨⟨by decide +kernel, by decide +kernel⟩, List.mem_of_getElem? (i := 886) (by decide +kernel), List.mem_of_getElem? (i := 1246) (by decide +kernel), List.mem_of_getElem? (i := 1247) (by decide +kernel)⟩
def lw_privs_6 : List (MethodName × Nat) := [(⟨"GameConsoleModel", "dma", "(I)V"⟩, 53), (⟨"GameConsoleModel", "count", "()V"⟩, 53), (⟨"GameConsoleModel", "writeThree", "(II)V"⟩, 53), (⟨"GameConsoleModel", "writeOne", "(II)V"⟩, 53), (⟨"GameConsoleModel", "shown", "(I)I"⟩, 53), (⟨"GameConsoleModel", "add", "(I)V"⟩, 53), (⟨"GameConsoleModel", "compare", "(II)V"⟩, 53), (⟨"GameConsoleModel", "doTwo", "(II)I"⟩, 53), (⟨"GameConsoleModel", "loadX", "(I)I"⟩, 53), (⟨"GameConsoleModel", "moved", "(I)I"⟩, 53), (⟨"GameConsoleModel", "stackPointer", "(I)I"⟩, 53), (⟨"GameConsoleModel", "change", "(II)I"⟩, 53), (⟨"GameConsoleModel", "changed", "(II)I"⟩, 53), (⟨"GameConsoleModel", "doZero", "(II)I"⟩, 53), (⟨"GameConsoleModel", "branch", "(I)I"⟩, 53), (⟨"GameConsoleModel", "stacked", "(I)I"⟩, 53)]
theorem lw_r6 : ∀ q ∈ lw_privs_6, lw_okq q := List.forall_mem_cons.mpr ⟨lw_p80, List.forall_mem_cons.mpr ⟨lw_p81, List.forall_mem_cons.mpr ⟨lw_p82, List.forall_mem_cons.mpr ⟨lw_p83, List.forall_mem_cons.mpr ⟨lw_p84, List.forall_mem_cons.mpr ⟨lw_p85, List.forall_mem_cons.mpr ⟨lw_p86, List.forall_mem_cons.mpr ⟨lw_p87, List.forall_mem_cons.mpr ⟨lw_p88, List.forall_mem_cons.mpr ⟨lw_p89, List.forall_mem_cons.mpr ⟨lw_p90, List.forall_mem_cons.mpr ⟨lw_p91, List.forall_mem_cons.mpr ⟨lw_p92, List.forall_mem_cons.mpr ⟨lw_p93, List.forall_mem_cons.mpr ⟨lw_p94, List.forall_mem_cons.mpr ⟨lw_p95, fun _ h => absurd h List.not_mem_nil⟩⟩⟩⟩⟩⟩⟩⟩⟩⟩⟩⟩⟩⟩⟩⟩
theorem lw_p96 : lw_okq (⟨"GameConsoleModel", "pull", "()I"⟩, 53) := ⟨⟨by decide +kernel, by decide +kernel⟩, List.mem_of_getElem? (i := 886) (by decide +kernel), List.mem_of_getElem? (i := 1250) (by decide +kernel), List.mem_of_getElem? (i := 1251) (by decide +kernel)⟩
theorem lw_p97 : lw_okq (⟨"GameConsoleModel", "flagged", "(I)I"⟩, 53) := ⟨⟨by decide +kernel, by decide +kernel⟩, List.mem_of_getElem? (i := 886) (by decide +kernel), List.mem_of_getElem? (i := 1254) (by decide +kernel), List.mem_of_getElem? (i := 1255) (by decide +kernel)⟩
theorem lw_p98 : lw_okq (⟨"GameConsoleModel", "called", "(I)I"⟩, 53) := ⟨⟨by decide +kernel, by decide +kernel⟩, List.mem_of_getElem? (i := 886) (by decide +kernel), List.mem_of_getElem? (i := 1258) (by decide +kernel), List.mem_of_getElem? (i := 1259) (by decide +kernel)⟩
theorem lw_p99 : lw_okq (⟨"GameConsoleModel", "pullWord", "()I"⟩, 53) := ⟨⟨by decide +kernel, by decide +kernel⟩, List.mem_of_getElem? (i := 886) (by decide +kernel), List.mem_of_getElem? (i := 1262) (by decide +kernel), List.mem_of_getElem? (i := 1263) (by decide +kernel)⟩
theorem lw_p100 : lw_okq (⟨"GameConsoleModel", "jump", "(Z)I"⟩, 53) := ⟨⟨by decide +kernel, by decide +kernel⟩, List.mem_of_getElem? (i := 886) (by decide +kernel), List.mem_of_getElem? (i := 1266) (by decide +kernel), List.mem_of_getElem? (i := 1267) (by decide +kernel)⟩
theorem lw_p101 : lw_okq (⟨"GameConsoleModel", "listed", "(II)I"⟩, 53) := ⟨⟨by decide +kernel, by decide +kernel⟩, List.mem_of_getElem? (i := 886) (by decide +kernel), List.mem_of_getElem? (i := 1271) (by decide +kernel), List.mem_of_getElem? (i := 1272) (by decide +kernel)⟩
theorem lw_p102 : lw_okq (⟨"GameConsoleModel", "elapse", "(I)V"⟩, 53) := ⟨⟨by decide +kernel, by decide +kernel⟩, List.mem_of_getElem? (i := 886) (by decide +kernel), List.mem_of_getElem? (i := 1275) (by decide +kernel), List.mem_of_getElem? (i := 1276) (by decide +kernel)⟩
theorem lw_p103 : lw_okq (⟨"GameConsoleModel", "tick", "()V"⟩, 53) := ⟨⟨by decide +kernel, by decide +kernel⟩, List.mem_of_getElem? (i := 886) (by decide +kernel), List.mem_of_getElem? (i := 1279) (by decide +kernel), List.mem_of_getElem? (i := 1280) (by decide +kernel)⟩
theorem lw_p104 : lw_okq (⟨"GameConsoleModel", "tellLine", "()V"⟩, 53) := ⟨⟨by decide +kernel, by decide +kernel⟩, List.mem_of_getElem? (i := 886) (by decide +kernel), List.mem_of_getElem? (i := 1283) (by decide +kernel), List.mem_of_getElem? (i := 1284) (by decide +kernel)⟩
theorem lw_p105 : lw_okq (⟨"GameConsoleModel", "fail", "()I"⟩, 53) := ⟨⟨by decide +kernel, by decide +kernel⟩, List.mem_of_getElem? (i := 886) (by decide +kernel), List.mem_of_getElem? (i := 1318) (by decide +kernel), List.mem_of_getElem? (i := 1319) (by decide +kernel)⟩
def lw_privs_7 : List (MethodName × Nat) := [(⟨"GameConsoleModel", "pull", "()I"⟩, 53), (⟨"GameConsoleModel", "flagged", "(I)I"⟩, 53), (⟨"GameConsoleModel", "called", "(I)I"⟩, 53), (⟨"GameConsoleModel", "pullWord", "()I"⟩, 53), (⟨"GameConsoleModel", "jump", "(Z)I"⟩, 53), (⟨"GameConsoleModel", "listed", "(II)I"⟩, 53), (⟨"GameConsoleModel", "elapse", "(I)V"⟩, 53), (⟨"GameConsoleModel", "tick", "()V"⟩, 53), (⟨"GameConsoleModel", "tellLine", "()V"⟩, 53), (⟨"GameConsoleModel", "fail", "()I"⟩, 53)]
theorem lw_r7 : ∀ q ∈ lw_privs_7, lw_okq q := List.forall_mem_cons.mpr ⟨lw_p96, List.forall_mem_cons.mpr ⟨lw_p97, List.forall_mem_cons.mpr ⟨lw_p98, List.forall_mem_cons.mpr ⟨lw_p99, List.forall_mem_cons.mpr ⟨lw_p100, List.forall_mem_cons.mpr ⟨lw_p101, List.forall_mem_cons.mpr ⟨lw_p102, List.forall_mem_cons.mpr ⟨lw_p103, List.forall_mem_cons.mpr ⟨lw_p104, List.forall_mem_cons.mpr ⟨lw_p105, fun _ h => absurd h List.not_mem_nil⟩⟩⟩⟩⟩⟩⟩⟩⟩⟩
def lw_privs : List (MethodName × Nat) := lw_privs_1 ++ (lw_privs_2 ++ (lw_privs_3 ++ (lw_privs_4 ++ (lw_privs_5 ++ (lw_privs_6 ++ (lw_privs_7))))))
def lw_tbl : List Cond := k2_sels lw_privs ++ tables_1
theorem lw_privs_ok : ∀ q ∈ lw_privs, lw_okq q := by
  show ∀ q ∈ lw_privs_1 ++ (lw_privs_2 ++ (lw_privs_3 ++ (lw_privs_4 ++ (lw_privs_5 ++ (lw_privs_6 ++ (lw_privs_7)))))), lw_okq q
  exact List.forall_mem_append.mpr ⟨lw_r1, List.forall_mem_append.mpr ⟨lw_r2, List.forall_mem_append.mpr ⟨lw_r3, List.forall_mem_append.mpr ⟨lw_r4, List.forall_mem_append.mpr ⟨lw_r5, List.forall_mem_append.mpr ⟨lw_r6, lw_r7⟩⟩⟩⟩⟩⟩
end
section
/-! ===== BEGIN printed: names, fields, word lists, decode rows ===== -/
def RX0 : String := "GameConsole$Bus"
def TX0 : u_T := fun k => match k with
  | 0 => ("GameConsole$Bus", "ram", "[I", true)
  | 1 => ("GameConsole$Bus", "cartridgeRam", "[I", true)
  | 2 => ("GameConsole$Bus", "picture", "LGameConsole$PictureUnit;", true)
  | 3 => ("GameConsole$Bus", "sound", "LGameConsole$SoundUnit;", true)
  | 4 => ("GameConsole$Bus", "pads", "LGameConsole$Pads;", true)
  | 5 => ("GameConsole$Bus", "cartridge", "LGameConsole$Cartridge;", true)
  | _ => ("GameConsole$Bus", "pageAsked", "I", false)
def tyX0 : Nat → FieldType := fun k => match k with
  | 0 => .array .int
  | 1 => .array .int
  | 2 => .object "GameConsole$PictureUnit"
  | 3 => .object "GameConsole$SoundUnit"
  | 4 => .object "GameConsole$Pads"
  | 5 => .object "GameConsole$Cartridge"
  | _ => .int
abbrev wsX00 : List Cond := u_ws RX0 TX0 7
theorem nmX0 : ∀ a, a < 7 → ∀ b, b < 7 → a ≠ b → (TX0 a).2.1 ≠ (TX0 b).2.1 := by decide +kernel
theorem tyX0_ok : ∀ k, k < 7 → parseFieldDescriptor (TX0 k).2.2.1 = some (tyX0 k) := by decide +kernel
abbrev cX0_init : ByteArray := prog_2_method_1_code
def yX0_init : MethodName := ⟨RX0, "<init>", "(LGameConsole$PictureUnit;LGameConsole$SoundUnit;LGameConsole$Pads;LGameConsole$Cartridge;)V"⟩
abbrev cX0_load : ByteArray := prog_2_method_2_code
def yX0_load : MethodName := ⟨RX0, "load", "(I)I"⟩
abbrev cX0_loadInput : ByteArray := prog_2_method_3_code
def yX0_loadInput : MethodName := ⟨RX0, "loadInput", "(I)I"⟩
abbrev cX0_store : ByteArray := prog_2_method_4_code
def yX0_store : MethodName := ⟨RX0, "store", "(II)V"⟩
abbrev cX0_copyPageAsked : ByteArray := prog_2_method_5_code
def yX0_copyPageAsked : MethodName := ⟨RX0, "copyPageAsked", "(I)I"⟩
abbrev cX0_storeStack : ByteArray := prog_2_method_6_code
def yX0_storeStack : MethodName := ⟨RX0, "storeStack", "(II)V"⟩
abbrev cX0_loadStack : ByteArray := prog_2_method_7_code
def yX0_loadStack : MethodName := ⟨RX0, "loadStack", "(I)I"⟩
abbrev cX0_vector : ByteArray := prog_2_method_8_code
def yX0_vector : MethodName := ⟨RX0, "vector", "(I)I"⟩
def RX1 : String := "GameConsole$Cartridge"
def TX1 : u_T := fun k => match k with
  | _ => ("", "", "", false)
def tyX1 : Nat → FieldType := fun k => match k with
  | _ => .int
abbrev wsX10 : List Cond := u_ws RX1 TX1 0
theorem nmX1 : ∀ a, a < 0 → ∀ b, b < 0 → a ≠ b → (TX1 a).2.1 ≠ (TX1 b).2.1 := by decide +kernel
theorem tyX1_ok : ∀ k, k < 0 → parseFieldDescriptor (TX1 k).2.2.1 = some (tyX1 k) := by decide +kernel
abbrev cX1_init : ByteArray := prog_3_method_1_code
def yX1_init : MethodName := ⟨RX1, "<init>", "()V"⟩
abbrev cX1_romByte : ByteArray := prog_3_method_6_code
def yX1_romByte : MethodName := ⟨RX1, "romByte", "(I)I"⟩
abbrev cX1_chrByte : ByteArray := prog_3_method_7_code
def yX1_chrByte : MethodName := ⟨RX1, "chrByte", "(I)I"⟩
abbrev cX1_setRomBanks : ByteArray := prog_3_method_8_code
def yX1_setRomBanks : MethodName := ⟨RX1, "setRomBanks", "(IIII)V"⟩
abbrev cX1_setFourChrBanks : ByteArray := prog_3_method_9_code
def yX1_setFourChrBanks : MethodName := ⟨RX1, "setFourChrBanks", "(IIIII)V"⟩
def RX2 : String := "GameConsole$Core"
def TX2 : u_T := fun k => match k with
  | 0 => ("GameConsole$Core", "bus", "LGameConsole$Bus;", true)
  | 1 => ("GameConsole$Core", "a", "I", false)
  | 2 => ("GameConsole$Core", "x", "I", false)
  | 3 => ("GameConsole$Core", "y", "I", false)
  | 4 => ("GameConsole$Core", "s", "I", false)
  | 5 => ("GameConsole$Core", "p", "I", false)
  | 6 => ("GameConsole$Core", "pc", "I", false)
  | _ => ("GameConsole$Core", "crossed", "I", false)
def tyX2 : Nat → FieldType := fun k => match k with
  | 0 => .object "GameConsole$Bus"
  | 1 => .int
  | 2 => .int
  | 3 => .int
  | 4 => .int
  | 5 => .int
  | 6 => .int
  | _ => .int
abbrev wsX20 : List Cond := u_ws RX2 TX2 8
theorem nmX2 : ∀ a, a < 8 → ∀ b, b < 8 → a ≠ b → (TX2 a).2.1 ≠ (TX2 b).2.1 := by decide +kernel
theorem tyX2_ok : ∀ k, k < 8 → parseFieldDescriptor (TX2 k).2.2.1 = some (tyX2 k) := by decide +kernel
abbrev cX2_init : ByteArray := prog_4_method_1_code
def yX2_init : MethodName := ⟨RX2, "<init>", "(LGameConsole$Bus;)V"⟩
abbrev cX2_restart : ByteArray := prog_4_method_2_code
def yX2_restart : MethodName := ⟨RX2, "restart", "()V"⟩
abbrev cX2_takeStep : ByteArray := prog_4_method_3_code
def yX2_takeStep : MethodName := ⟨RX2, "takeStep", "(ZZ)I"⟩
abbrev cX2_fetch : ByteArray := prog_4_method_4_code
def yX2_fetch : MethodName := ⟨RX2, "fetch", "()I"⟩
abbrev cX2_fetchOperand : ByteArray := prog_4_method_5_code
def yX2_fetchOperand : MethodName := ⟨RX2, "fetchOperand", "(I)I"⟩
abbrev cX2_addressOf : ByteArray := prog_4_method_6_code
def yX2_addressOf : MethodName := ⟨RX2, "addressOf", "(II)I"⟩
abbrev cX2_wordWithinPage : ByteArray := prog_4_method_7_code
def yX2_wordWithinPage : MethodName := ⟨RX2, "wordWithinPage", "(I)I"⟩
abbrev cX2_indexed : ByteArray := prog_4_method_8_code
def yX2_indexed : MethodName := ⟨RX2, "indexed", "(II)I"⟩
abbrev cX2_otherPage : ByteArray := prog_4_method_9_code
def yX2_otherPage : MethodName := ⟨RX2, "otherPage", "(II)I"⟩
abbrev cX2_perform : ByteArray := prog_4_method_10_code
def yX2_perform : MethodName := ⟨RX2, "perform", "(III)I"⟩
abbrev cX2_combine : ByteArray := prog_4_method_11_code
def yX2_combine : MethodName := ⟨RX2, "combine", "(II)V"⟩
abbrev cX2_add : ByteArray := prog_4_method_12_code
def yX2_add : MethodName := ⟨RX2, "add", "(I)V"⟩
abbrev cX2_compare : ByteArray := prog_4_method_13_code
def yX2_compare : MethodName := ⟨RX2, "compare", "(II)V"⟩
abbrev cX2_testBits : ByteArray := prog_4_method_14_code
def yX2_testBits : MethodName := ⟨RX2, "testBits", "(I)V"⟩
abbrev cX2_stored : ByteArray := prog_4_method_15_code
def yX2_stored : MethodName := ⟨RX2, "stored", "(I)I"⟩
abbrev cX2_change : ByteArray := prog_4_method_16_code
def yX2_change : MethodName := ⟨RX2, "change", "(III)V"⟩
abbrev cX2_changed : ByteArray := prog_4_method_17_code
def yX2_changed : MethodName := ⟨RX2, "changed", "(II)I"⟩
abbrev cX2_shiftedUp : ByteArray := prog_4_method_18_code
def yX2_shiftedUp : MethodName := ⟨RX2, "shiftedUp", "(II)I"⟩
abbrev cX2_shiftedDown : ByteArray := prog_4_method_19_code
def yX2_shiftedDown : MethodName := ⟨RX2, "shiftedDown", "(II)I"⟩
abbrev cX2_branch : ByteArray := prog_4_method_20_code
def yX2_branch : MethodName := ⟨RX2, "branch", "(II)I"⟩
abbrev cX2_branchTaken : ByteArray := prog_4_method_21_code
def yX2_branchTaken : MethodName := ⟨RX2, "branchTaken", "(I)Z"⟩
abbrev cX2_changeRegister : ByteArray := prog_4_method_22_code
def yX2_changeRegister : MethodName := ⟨RX2, "changeRegister", "(I)V"⟩
abbrev cX2_changeFlag : ByteArray := prog_4_method_23_code
def yX2_changeFlag : MethodName := ⟨RX2, "changeFlag", "(I)V"⟩
abbrev cX2_useStack : ByteArray := prog_4_method_24_code
def yX2_useStack : MethodName := ⟨RX2, "useStack", "(I)V"⟩
abbrev cX2_jump : ByteArray := prog_4_method_25_code
def yX2_jump : MethodName := ⟨RX2, "jump", "(II)V"⟩
abbrev cX2_enter : ByteArray := prog_4_method_26_code
def yX2_enter : MethodName := ⟨RX2, "enter", "(III)V"⟩
abbrev cX2_push : ByteArray := prog_4_method_27_code
def yX2_push : MethodName := ⟨RX2, "push", "(I)V"⟩
abbrev cX2_pushWord : ByteArray := prog_4_method_28_code
def yX2_pushWord : MethodName := ⟨RX2, "pushWord", "(I)V"⟩
abbrev cX2_pull : ByteArray := prog_4_method_29_code
def yX2_pull : MethodName := ⟨RX2, "pull", "()I"⟩
abbrev cX2_pullWord : ByteArray := prog_4_method_30_code
def yX2_pullWord : MethodName := ⟨RX2, "pullWord", "()I"⟩
abbrev cX2_pullFlags : ByteArray := prog_4_method_31_code
def yX2_pullFlags : MethodName := ⟨RX2, "pullFlags", "()V"⟩
abbrev cX2_setFlag : ByteArray := prog_4_method_32_code
def yX2_setFlag : MethodName := ⟨RX2, "setFlag", "(IZ)V"⟩
abbrev cX2_judged : ByteArray := prog_4_method_33_code
def yX2_judged : MethodName := ⟨RX2, "judged", "(I)I"⟩
def RX3 : String := "GameConsole$Mmc1"
def TX3 : u_T := fun k => match k with
  | 0 => ("GameConsole$Cartridge", "rom", "[I", true)
  | 1 => ("GameConsole$Cartridge", "chr", "[I", true)
  | 2 => ("GameConsole$Cartridge", "romBanks", "[I", true)
  | 3 => ("GameConsole$Cartridge", "chrBanks", "[I", true)
  | 4 => ("GameConsole$Cartridge", "mirroring", "I", false)
  | 5 => ("GameConsole$Cartridge", "irqLine", "Z", false)
  | 6 => ("GameConsole$Mmc1", "shifted", "I", false)
  | 7 => ("GameConsole$Mmc1", "count", "I", false)
  | 8 => ("GameConsole$Mmc1", "prgMode", "I", false)
  | 9 => ("GameConsole$Mmc1", "prgBank", "I", false)
  | 10 => ("GameConsole$Mmc1", "chrMode", "I", false)
  | 11 => ("GameConsole$Mmc1", "firstChr", "I", false)
  | _ => ("GameConsole$Mmc1", "secondChr", "I", false)
def tyX3 : Nat → FieldType := fun k => match k with
  | 0 => .array .int
  | 1 => .array .int
  | 2 => .array .int
  | 3 => .array .int
  | 4 => .int
  | 5 => .boolean
  | 6 => .int
  | 7 => .int
  | 8 => .int
  | 9 => .int
  | 10 => .int
  | 11 => .int
  | _ => .int
abbrev wsX30 : List Cond := u_ws RX3 TX3 13
theorem nmX3 : ∀ a, a < 13 → ∀ b, b < 13 → a ≠ b → (TX3 a).2.1 ≠ (TX3 b).2.1 := by decide +kernel
theorem tyX3_ok : ∀ k, k < 13 → parseFieldDescriptor (TX3 k).2.2.1 = some (tyX3 k) := by decide +kernel
abbrev cX3_init : ByteArray := prog_5_method_1_code
def yX3_init : MethodName := ⟨RX3, "<init>", "()V"⟩
abbrev cX3_storeRegister : ByteArray := prog_5_method_2_code
def yX3_storeRegister : MethodName := ⟨RX3, "storeRegister", "(II)V"⟩
abbrev cX3_forgetShifted : ByteArray := prog_5_method_3_code
def yX3_forgetShifted : MethodName := ⟨RX3, "forgetShifted", "()V"⟩
abbrev cX3_noteLine : ByteArray := prog_5_method_4_code
def yX3_noteLine : MethodName := ⟨RX3, "noteLine", "()V"⟩
abbrev cX3_lineCounter : ByteArray := prog_5_method_5_code
def yX3_lineCounter : MethodName := ⟨RX3, "lineCounter", "()I"⟩
abbrev cX3_setRegister : ByteArray := prog_5_method_6_code
def yX3_setRegister : MethodName := ⟨RX3, "setRegister", "(II)V"⟩
abbrev cX3_mapRom : ByteArray := prog_5_method_7_code
def yX3_mapRom : MethodName := ⟨RX3, "mapRom", "()V"⟩
abbrev cX3_mapChr : ByteArray := prog_5_method_8_code
def yX3_mapChr : MethodName := ⟨RX3, "mapChr", "()V"⟩
def RX4 : String := "GameConsole$Mmc3"
def TX4 : u_T := fun k => match k with
  | 0 => ("GameConsole$Cartridge", "rom", "[I", true)
  | 1 => ("GameConsole$Cartridge", "chr", "[I", true)
  | 2 => ("GameConsole$Cartridge", "romBanks", "[I", true)
  | 3 => ("GameConsole$Cartridge", "chrBanks", "[I", true)
  | 4 => ("GameConsole$Cartridge", "mirroring", "I", false)
  | 5 => ("GameConsole$Cartridge", "irqLine", "Z", false)
  | 6 => ("GameConsole$Mmc3", "registers", "[I", true)
  | 7 => ("GameConsole$Mmc3", "select", "I", false)
  | 8 => ("GameConsole$Mmc3", "latch", "I", false)
  | 9 => ("GameConsole$Mmc3", "counter", "I", false)
  | _ => ("GameConsole$Mmc3", "interruptsOn", "Z", false)
def tyX4 : Nat → FieldType := fun k => match k with
  | 0 => .array .int
  | 1 => .array .int
  | 2 => .array .int
  | 3 => .array .int
  | 4 => .int
  | 5 => .boolean
  | 6 => .array .int
  | 7 => .int
  | 8 => .int
  | 9 => .int
  | _ => .boolean
abbrev wsX40 : List Cond := u_ws RX4 TX4 11
theorem nmX4 : ∀ a, a < 11 → ∀ b, b < 11 → a ≠ b → (TX4 a).2.1 ≠ (TX4 b).2.1 := by decide +kernel
theorem tyX4_ok : ∀ k, k < 11 → parseFieldDescriptor (TX4 k).2.2.1 = some (tyX4 k) := by decide +kernel
abbrev cX4_init : ByteArray := prog_6_method_1_code
def yX4_init : MethodName := ⟨RX4, "<init>", "()V"⟩
abbrev cX4_storeRegister : ByteArray := prog_6_method_2_code
def yX4_storeRegister : MethodName := ⟨RX4, "storeRegister", "(II)V"⟩
abbrev cX4_forgetShifted : ByteArray := prog_6_method_3_code
def yX4_forgetShifted : MethodName := ⟨RX4, "forgetShifted", "()V"⟩
abbrev cX4_noteLine : ByteArray := prog_6_method_4_code
def yX4_noteLine : MethodName := ⟨RX4, "noteLine", "()V"⟩
abbrev cX4_lineCounter : ByteArray := prog_6_method_5_code
def yX4_lineCounter : MethodName := ⟨RX4, "lineCounter", "()I"⟩
abbrev cX4_mapRom : ByteArray := prog_6_method_6_code
def yX4_mapRom : MethodName := ⟨RX4, "mapRom", "()V"⟩
abbrev cX4_mapChr : ByteArray := prog_6_method_7_code
def yX4_mapChr : MethodName := ⟨RX4, "mapChr", "()V"⟩
def RX5 : String := "GameConsole$Opcodes"
def TX5 : u_T := fun k => match k with
  | _ => ("", "", "", false)
def tyX5 : Nat → FieldType := fun k => match k with
  | _ => .int
abbrev wsX50 : List Cond := u_ws RX5 TX5 0
theorem nmX5 : ∀ a, a < 0 → ∀ b, b < 0 → a ≠ b → (TX5 a).2.1 ≠ (TX5 b).2.1 := by decide +kernel
theorem tyX5_ok : ∀ k, k < 0 → parseFieldDescriptor (TX5 k).2.2.1 = some (tyX5 k) := by decide +kernel
def RX6 : String := "GameConsole$Pads"
def TX6 : u_T := fun k => match k with
  | 0 => ("GameConsole$Pads", "buttons", "[I", true)
  | 1 => ("GameConsole$Pads", "taken", "[I", true)
  | _ => ("GameConsole$Pads", "strobe", "Z", false)
def tyX6 : Nat → FieldType := fun k => match k with
  | 0 => .array .int
  | 1 => .array .int
  | _ => .boolean
abbrev wsX60 : List Cond := u_ws RX6 TX6 3
theorem nmX6 : ∀ a, a < 3 → ∀ b, b < 3 → a ≠ b → (TX6 a).2.1 ≠ (TX6 b).2.1 := by decide +kernel
theorem tyX6_ok : ∀ k, k < 3 → parseFieldDescriptor (TX6 k).2.2.1 = some (tyX6 k) := by decide +kernel
abbrev cX6_init : ByteArray := prog_8_method_1_code
def yX6_init : MethodName := ⟨RX6, "<init>", "()V"⟩
abbrev cX6_setStrobe : ByteArray := prog_8_method_2_code
def yX6_setStrobe : MethodName := ⟨RX6, "setStrobe", "(Z)V"⟩
abbrev cX6_nextBit : ByteArray := prog_8_method_3_code
def yX6_nextBit : MethodName := ⟨RX6, "nextBit", "(I)I"⟩
def RX7 : String := "GameConsole$PictureUnit"
def TX7 : u_T := fun k => match k with
  | 0 => ("GameConsole$PictureUnit", "cartridge", "LGameConsole$Cartridge;", true)
  | 1 => ("GameConsole$PictureUnit", "oam", "[I", true)
  | 2 => ("GameConsole$PictureUnit", "nameTables", "[I", true)
  | 3 => ("GameConsole$PictureUnit", "palette", "[I", true)
  | 4 => ("GameConsole$PictureUnit", "ctrl", "I", false)
  | 5 => ("GameConsole$PictureUnit", "mask", "I", false)
  | 6 => ("GameConsole$PictureUnit", "vblank", "I", false)
  | 7 => ("GameConsole$PictureUnit", "oamAddress", "I", false)
  | 8 => ("GameConsole$PictureUnit", "v", "I", false)
  | 9 => ("GameConsole$PictureUnit", "t", "I", false)
  | 10 => ("GameConsole$PictureUnit", "x", "I", false)
  | 11 => ("GameConsole$PictureUnit", "w", "I", false)
  | 12 => ("GameConsole$PictureUnit", "buffer", "I", false)
  | 13 => ("GameConsole$PictureUnit", "line", "I", false)
  | 14 => ("GameConsole$PictureUnit", "dot", "I", false)
  | _ => ("GameConsole$PictureUnit", "nmiPending", "Z", false)
def tyX7 : Nat → FieldType := fun k => match k with
  | 0 => .object "GameConsole$Cartridge"
  | 1 => .array .int
  | 2 => .array .int
  | 3 => .array .int
  | 4 => .int
  | 5 => .int
  | 6 => .int
  | 7 => .int
  | 8 => .int
  | 9 => .int
  | 10 => .int
  | 11 => .int
  | 12 => .int
  | 13 => .int
  | 14 => .int
  | _ => .boolean
abbrev wsX70 : List Cond := u_ws RX7 TX7 16
theorem nmX7 : ∀ a, a < 16 → ∀ b, b < 16 → a ≠ b → (TX7 a).2.1 ≠ (TX7 b).2.1 := by decide +kernel
theorem tyX7_ok : ∀ k, k < 16 → parseFieldDescriptor (TX7 k).2.2.1 = some (tyX7 k) := by decide +kernel
abbrev cX7_init : ByteArray := prog_9_method_1_code
def yX7_init : MethodName := ⟨RX7, "<init>", "(LGameConsole$Cartridge;)V"⟩
abbrev cX7_restart : ByteArray := prog_9_method_2_code
def yX7_restart : MethodName := ⟨RX7, "restart", "()V"⟩
abbrev cX7_takeNmi : ByteArray := prog_9_method_3_code
def yX7_takeNmi : MethodName := ⟨RX7, "takeNmi", "()Z"⟩
abbrev cX7_load : ByteArray := prog_9_method_4_code
def yX7_load : MethodName := ⟨RX7, "load", "(I)I"⟩
abbrev cX7_store : ByteArray := prog_9_method_5_code
def yX7_store : MethodName := ⟨RX7, "store", "(II)V"⟩
abbrev cX7_storeControl : ByteArray := prog_9_method_6_code
def yX7_storeControl : MethodName := ⟨RX7, "storeControl", "(I)V"⟩
abbrev cX7_storeScroll : ByteArray := prog_9_method_7_code
def yX7_storeScroll : MethodName := ⟨RX7, "storeScroll", "(I)V"⟩
abbrev cX7_storeAddress : ByteArray := prog_9_method_8_code
def yX7_storeAddress : MethodName := ⟨RX7, "storeAddress", "(I)V"⟩
abbrev cX7_growV : ByteArray := prog_9_method_9_code
def yX7_growV : MethodName := ⟨RX7, "growV", "()V"⟩
abbrev cX7_byteAt : ByteArray := prog_9_method_10_code
def yX7_byteAt : MethodName := ⟨RX7, "byteAt", "(I)I"⟩
abbrev cX7_storeByte : ByteArray := prog_9_method_11_code
def yX7_storeByte : MethodName := ⟨RX7, "storeByte", "(II)V"⟩
abbrev cX7_nameTablePlace : ByteArray := prog_9_method_12_code
def yX7_nameTablePlace : MethodName := ⟨RX7, "nameTablePlace", "(I)I"⟩
abbrev cX7_palettePlace : ByteArray := prog_9_method_13_code
def yX7_palettePlace : MethodName := ⟨RX7, "palettePlace", "(I)I"⟩
abbrev cX7_advance : ByteArray := prog_9_method_14_code
def yX7_advance : MethodName := ⟨RX7, "advance", "(I)V"⟩
abbrev cX7_comeToDotOne : ByteArray := prog_9_method_15_code
def yX7_comeToDotOne : MethodName := ⟨RX7, "comeToDotOne", "()V"⟩
abbrev cX7_tellLine : ByteArray := prog_9_method_16_code
def yX7_tellLine : MethodName := ⟨RX7, "tellLine", "()V"⟩
def RX8 : String := "GameConsole$SoundUnit"
def TX8 : u_T := fun k => match k with
  | 0 => ("GameConsole$SoundUnit", "lengths", "[I", true)
  | 1 => ("GameConsole$SoundUnit", "halted", "I", false)
  | 2 => ("GameConsole$SoundUnit", "enabled", "I", false)
  | 3 => ("GameConsole$SoundUnit", "isLong", "Z", false)
  | 4 => ("GameConsole$SoundUnit", "quiet", "Z", false)
  | 5 => ("GameConsole$SoundUnit", "irqLine", "Z", false)
  | _ => ("GameConsole$SoundUnit", "frameCycles", "I", false)
def tyX8 : Nat → FieldType := fun k => match k with
  | 0 => .array .int
  | 1 => .int
  | 2 => .int
  | 3 => .boolean
  | 4 => .boolean
  | 5 => .boolean
  | _ => .int
abbrev wsX80 : List Cond := u_ws RX8 TX8 7
theorem nmX8 : ∀ a, a < 7 → ∀ b, b < 7 → a ≠ b → (TX8 a).2.1 ≠ (TX8 b).2.1 := by decide +kernel
theorem tyX8_ok : ∀ k, k < 7 → parseFieldDescriptor (TX8 k).2.2.1 = some (tyX8 k) := by decide +kernel
abbrev cX8_init : ByteArray := prog_10_method_1_code
def yX8_init : MethodName := ⟨RX8, "<init>", "()V"⟩
abbrev cX8_restart : ByteArray := prog_10_method_2_code
def yX8_restart : MethodName := ⟨RX8, "restart", "()V"⟩
abbrev cX8_loadStatus : ByteArray := prog_10_method_3_code
def yX8_loadStatus : MethodName := ⟨RX8, "loadStatus", "()I"⟩
abbrev cX8_store : ByteArray := prog_10_method_4_code
def yX8_store : MethodName := ⟨RX8, "store", "(II)V"⟩
abbrev cX8_storeChannel : ByteArray := prog_10_method_5_code
def yX8_storeChannel : MethodName := ⟨RX8, "storeChannel", "(III)V"⟩
abbrev cX8_enable : ByteArray := prog_10_method_6_code
def yX8_enable : MethodName := ⟨RX8, "enable", "(I)V"⟩
abbrev cX8_restartFrame : ByteArray := prog_10_method_7_code
def yX8_restartFrame : MethodName := ⟨RX8, "restartFrame", "(I)V"⟩
abbrev cX8_countLengths : ByteArray := prog_10_method_8_code
def yX8_countLengths : MethodName := ⟨RX8, "countLengths", "()V"⟩
abbrev cX8_advance : ByteArray := prog_10_method_9_code
def yX8_advance : MethodName := ⟨RX8, "advance", "(I)V"⟩
abbrev cX8_frameEnd : ByteArray := prog_10_method_10_code
def yX8_frameEnd : MethodName := ⟨RX8, "frameEnd", "()I"⟩
abbrev cX8_nextMark : ByteArray := prog_10_method_11_code
def yX8_nextMark : MethodName := ⟨RX8, "nextMark", "()I"⟩
abbrev cX8_comeToMark : ByteArray := prog_10_method_12_code
def yX8_comeToMark : MethodName := ⟨RX8, "comeToMark", "()V"⟩
def RX9 : String := "GameConsole"
def TX9 : u_T := fun k => match k with
  | 0 => ("GameConsole", "cartridge", "LGameConsole$Cartridge;", true)
  | 1 => ("GameConsole", "picture", "LGameConsole$PictureUnit;", true)
  | 2 => ("GameConsole", "sound", "LGameConsole$SoundUnit;", true)
  | 3 => ("GameConsole", "pads", "LGameConsole$Pads;", true)
  | 4 => ("GameConsole", "bus", "LGameConsole$Bus;", true)
  | 5 => ("GameConsole", "core", "LGameConsole$Core;", true)
  | _ => ("GameConsole", "elapsed", "I", false)
def tyX9 : Nat → FieldType := fun k => match k with
  | 0 => .object "GameConsole$Cartridge"
  | 1 => .object "GameConsole$PictureUnit"
  | 2 => .object "GameConsole$SoundUnit"
  | 3 => .object "GameConsole$Pads"
  | 4 => .object "GameConsole$Bus"
  | 5 => .object "GameConsole$Core"
  | _ => .int
abbrev wsX90 : List Cond := u_ws RX9 TX9 7
theorem nmX9 : ∀ a, a < 7 → ∀ b, b < 7 → a ≠ b → (TX9 a).2.1 ≠ (TX9 b).2.1 := by decide +kernel
theorem tyX9_ok : ∀ k, k < 7 → parseFieldDescriptor (TX9 k).2.2.1 = some (tyX9 k) := by decide +kernel
abbrev cX9_init : ByteArray := prog_1_method_1_code
def yX9_init : MethodName := ⟨RX9, "<init>", "(I)V"⟩
abbrev cX9_rom : ByteArray := prog_1_method_2_code
def yX9_rom : MethodName := ⟨RX9, "rom", "(II)V"⟩
abbrev cX9_chr : ByteArray := prog_1_method_3_code
def yX9_chr : MethodName := ⟨RX9, "chr", "(II)V"⟩
abbrev cX9_reset : ByteArray := prog_1_method_4_code
def yX9_reset : MethodName := ⟨RX9, "reset", "()V"⟩
abbrev cX9_step : ByteArray := prog_1_method_5_code
def yX9_step : MethodName := ⟨RX9, "step", "()I"⟩
abbrev cX9_run : ByteArray := prog_1_method_6_code
def yX9_run : MethodName := ⟨RX9, "run", "(I)I"⟩
abbrev cX9_pass : ByteArray := prog_1_method_7_code
def yX9_pass : MethodName := ⟨RX9, "pass", "(I)Z"⟩
abbrev cX9_read : ByteArray := prog_1_method_8_code
def yX9_read : MethodName := ⟨RX9, "read", "(I)I"⟩
abbrev cX9_write : ByteArray := prog_1_method_9_code
def yX9_write : MethodName := ⟨RX9, "write", "(II)V"⟩
abbrev cX9_pad : ByteArray := prog_1_method_10_code
def yX9_pad : MethodName := ⟨RX9, "pad", "(II)V"⟩
abbrev cX9_core : ByteArray := prog_1_method_11_code
def yX9_core : MethodName := ⟨RX9, "core", "(I)I"⟩
abbrev cX9_picture : ByteArray := prog_1_method_12_code
def yX9_picture : MethodName := ⟨RX9, "picture", "(I)I"⟩
abbrev cX9_memory : ByteArray := prog_1_method_13_code
def yX9_memory : MethodName := ⟨RX9, "memory", "(I)I"⟩
abbrev cX9_oam : ByteArray := prog_1_method_14_code
def yX9_oam : MethodName := ⟨RX9, "oam", "(I)I"⟩
abbrev cX9_cartridge : ByteArray := prog_1_method_15_code
def yX9_cartridge : MethodName := ⟨RX9, "cartridge", "(I)I"⟩
abbrev cX9_sound : ByteArray := prog_1_method_16_code
def yX9_sound : MethodName := ⟨RX9, "sound", "(I)I"⟩
abbrev cX9_irqLines : ByteArray := prog_1_method_17_code
def yX9_irqLines : MethodName := ⟨RX9, "irqLines", "()I"⟩
abbrev cX9_settle : ByteArray := prog_1_method_18_code
def yX9_settle : MethodName := ⟨RX9, "settle", "(I)I"⟩
abbrev cX9_letTimePass : ByteArray := prog_1_method_19_code
def yX9_letTimePass : MethodName := ⟨RX9, "letTimePass", "(I)V"⟩
def RX10 : String := "GameConsoleModel"
def TX10 : u_T := fun k => match k with
  | 0 => ("GameConsoleModel", "mmc3", "Z", true)
  | 1 => ("GameConsoleModel", "code", "I", false)
  | 2 => ("GameConsoleModel", "ram", "[I", true)
  | 3 => ("GameConsoleModel", "own", "[I", true)
  | 4 => ("GameConsoleModel", "prg", "[I", true)
  | 5 => ("GameConsoleModel", "patterns", "[I", true)
  | 6 => ("GameConsoleModel", "a", "I", false)
  | 7 => ("GameConsoleModel", "x", "I", false)
  | 8 => ("GameConsoleModel", "y", "I", false)
  | 9 => ("GameConsoleModel", "s", "I", false)
  | 10 => ("GameConsoleModel", "p", "I", false)
  | 11 => ("GameConsoleModel", "pc", "I", false)
  | 12 => ("GameConsoleModel", "gone", "J", false)
  | 13 => ("GameConsoleModel", "nmi", "Z", false)
  | 14 => ("GameConsoleModel", "spent", "I", false)
  | 15 => ("GameConsoleModel", "crossed", "Z", false)
  | 16 => ("GameConsoleModel", "ctrl", "I", false)
  | 17 => ("GameConsoleModel", "mask", "I", false)
  | 18 => ("GameConsoleModel", "vblank", "I", false)
  | 19 => ("GameConsoleModel", "oamAddress", "I", false)
  | 20 => ("GameConsoleModel", "vram", "I", false)
  | 21 => ("GameConsoleModel", "temporary", "I", false)
  | 22 => ("GameConsoleModel", "fine", "I", false)
  | 23 => ("GameConsoleModel", "second", "I", false)
  | 24 => ("GameConsoleModel", "buffer", "I", false)
  | 25 => ("GameConsoleModel", "line", "I", false)
  | 26 => ("GameConsoleModel", "dot", "I", false)
  | 27 => ("GameConsoleModel", "sprites", "[I", true)
  | 28 => ("GameConsoleModel", "tables", "[I", true)
  | 29 => ("GameConsoleModel", "palette", "[I", true)
  | 30 => ("GameConsoleModel", "mirroring", "I", false)
  | 31 => ("GameConsoleModel", "shifted", "I", false)
  | 32 => ("GameConsoleModel", "shift", "I", false)
  | 33 => ("GameConsoleModel", "control", "I", false)
  | 34 => ("GameConsoleModel", "first", "I", false)
  | 35 => ("GameConsoleModel", "other", "I", false)
  | 36 => ("GameConsoleModel", "bank", "I", false)
  | 37 => ("GameConsoleModel", "select", "I", false)
  | 38 => ("GameConsoleModel", "latch", "I", false)
  | 39 => ("GameConsoleModel", "counter", "I", false)
  | 40 => ("GameConsoleModel", "cartridgeLine", "I", false)
  | 41 => ("GameConsoleModel", "counts", "Z", false)
  | 42 => ("GameConsoleModel", "\x72", "[I", true)
  | 43 => ("GameConsoleModel", "lengths", "[I", true)
  | 44 => ("GameConsoleModel", "halts", "[Z", true)
  | 45 => ("GameConsoleModel", "enabled", "I", false)
  | 46 => ("GameConsoleModel", "frameLine", "I", false)
  | 47 => ("GameConsoleModel", "frame", "I", false)
  | 48 => ("GameConsoleModel", "isLong", "Z", false)
  | 49 => ("GameConsoleModel", "quiet", "Z", false)
  | 50 => ("GameConsoleModel", "buttons", "[I", true)
  | 51 => ("GameConsoleModel", "taken", "[I", true)
  | _ => ("GameConsoleModel", "strobe", "I", false)
def tyX10 : Nat → FieldType := fun k => match k with
  | 0 => .boolean
  | 1 => .int
  | 2 => .array .int
  | 3 => .array .int
  | 4 => .array .int
  | 5 => .array .int
  | 6 => .int
  | 7 => .int
  | 8 => .int
  | 9 => .int
  | 10 => .int
  | 11 => .int
  | 12 => .long
  | 13 => .boolean
  | 14 => .int
  | 15 => .boolean
  | 16 => .int
  | 17 => .int
  | 18 => .int
  | 19 => .int
  | 20 => .int
  | 21 => .int
  | 22 => .int
  | 23 => .int
  | 24 => .int
  | 25 => .int
  | 26 => .int
  | 27 => .array .int
  | 28 => .array .int
  | 29 => .array .int
  | 30 => .int
  | 31 => .int
  | 32 => .int
  | 33 => .int
  | 34 => .int
  | 35 => .int
  | 36 => .int
  | 37 => .int
  | 38 => .int
  | 39 => .int
  | 40 => .int
  | 41 => .boolean
  | 42 => .array .int
  | 43 => .array .int
  | 44 => .array .boolean
  | 45 => .int
  | 46 => .int
  | 47 => .int
  | 48 => .boolean
  | 49 => .boolean
  | 50 => .array .int
  | 51 => .array .int
  | _ => .int
abbrev wsX100 : List Cond := u_ws RX10 TX10 53
theorem nmX10 : ∀ a, a < 53 → ∀ b, b < 53 → a ≠ b → (TX10 a).2.1 ≠ (TX10 b).2.1 := by decide +kernel
theorem tyX10_ok : ∀ k, k < 53 → parseFieldDescriptor (TX10 k).2.2.1 = some (tyX10 k) := by decide +kernel
abbrev cX10_init : ByteArray := prog_12_method_1_code
def yX10_init : MethodName := ⟨RX10, "<init>", "(I)V"⟩
abbrev cX10_thrown : ByteArray := prog_12_method_2_code
def yX10_thrown : MethodName := ⟨RX10, "thrown", "()I"⟩
abbrev cX10_fail : ByteArray := prog_12_method_3_code
def yX10_fail : MethodName := ⟨RX10, "fail", "()I"⟩
abbrev cX10_rom : ByteArray := prog_12_method_4_code
def yX10_rom : MethodName := ⟨RX10, "rom", "(II)V"⟩
abbrev cX10_chr : ByteArray := prog_12_method_5_code
def yX10_chr : MethodName := ⟨RX10, "chr", "(II)V"⟩
abbrev cX10_prgBank : ByteArray := prog_12_method_6_code
def yX10_prgBank : MethodName := ⟨RX10, "prgBank", "(I)I"⟩
abbrev cX10_chrBank : ByteArray := prog_12_method_7_code
def yX10_chrBank : MethodName := ⟨RX10, "chrBank", "(I)I"⟩
abbrev cX10_writeOne : ByteArray := prog_12_method_8_code
def yX10_writeOne : MethodName := ⟨RX10, "writeOne", "(II)V"⟩
abbrev cX10_writeThree : ByteArray := prog_12_method_9_code
def yX10_writeThree : MethodName := ⟨RX10, "writeThree", "(II)V"⟩
abbrev cX10_tellLine : ByteArray := prog_12_method_10_code
def yX10_tellLine : MethodName := ⟨RX10, "tellLine", "()V"⟩
abbrev cX10_tablePlace : ByteArray := prog_12_method_11_code
def yX10_tablePlace : MethodName := ⟨RX10, "tablePlace", "(I)I"⟩
abbrev cX10_palettePlace : ByteArray := prog_12_method_12_code
def yX10_palettePlace : MethodName := ⟨RX10, "palettePlace", "(I)I"⟩
abbrev cX10_seen : ByteArray := prog_12_method_13_code
def yX10_seen : MethodName := ⟨RX10, "seen", "(I)I"⟩
abbrev cX10_keep : ByteArray := prog_12_method_14_code
def yX10_keep : MethodName := ⟨RX10, "keep", "(II)V"⟩
abbrev cX10_goOn : ByteArray := prog_12_method_15_code
def yX10_goOn : MethodName := ⟨RX10, "goOn", "()V"⟩
abbrev cX10_readPicture : ByteArray := prog_12_method_16_code
def yX10_readPicture : MethodName := ⟨RX10, "readPicture", "(I)I"⟩
abbrev cX10_writePicture : ByteArray := prog_12_method_17_code
def yX10_writePicture : MethodName := ⟨RX10, "writePicture", "(II)V"⟩
abbrev cX10_lengthOf : ByteArray := prog_12_method_18_code
def yX10_lengthOf : MethodName := ⟨RX10, "lengthOf", "(I)I"⟩
abbrev cX10_count : ByteArray := prog_12_method_19_code
def yX10_count : MethodName := ⟨RX10, "count", "()V"⟩
abbrev cX10_writeSound : ByteArray := prog_12_method_20_code
def yX10_writeSound : MethodName := ⟨RX10, "writeSound", "(II)V"⟩
abbrev cX10_readSound : ByteArray := prog_12_method_21_code
def yX10_readSound : MethodName := ⟨RX10, "readSound", "(I)I"⟩
abbrev cX10_dma : ByteArray := prog_12_method_22_code
def yX10_dma : MethodName := ⟨RX10, "dma", "(I)V"⟩
abbrev cX10_get : ByteArray := prog_12_method_23_code
def yX10_get : MethodName := ⟨RX10, "get", "(I)I"⟩
abbrev cX10_put : ByteArray := prog_12_method_24_code
def yX10_put : MethodName := ⟨RX10, "put", "(II)V"⟩
abbrev cX10_word : ByteArray := prog_12_method_25_code
def yX10_word : MethodName := ⟨RX10, "word", "(I)I"⟩
abbrev cX10_tick : ByteArray := prog_12_method_26_code
def yX10_tick : MethodName := ⟨RX10, "tick", "()V"⟩
abbrev cX10_elapse : ByteArray := prog_12_method_27_code
def yX10_elapse : MethodName := ⟨RX10, "elapse", "(I)V"⟩
abbrev cX10_fetch : ByteArray := prog_12_method_28_code
def yX10_fetch : MethodName := ⟨RX10, "fetch", "()I"⟩
abbrev cX10_fetchWord : ByteArray := prog_12_method_29_code
def yX10_fetchWord : MethodName := ⟨RX10, "fetchWord", "()I"⟩
abbrev cX10_push : ByteArray := prog_12_method_30_code
def yX10_push : MethodName := ⟨RX10, "push", "(I)V"⟩
abbrev cX10_pull : ByteArray := prog_12_method_31_code
def yX10_pull : MethodName := ⟨RX10, "pull", "()I"⟩
abbrev cX10_pushWord : ByteArray := prog_12_method_32_code
def yX10_pushWord : MethodName := ⟨RX10, "pushWord", "(I)V"⟩
abbrev cX10_pullWord : ByteArray := prog_12_method_33_code
def yX10_pullWord : MethodName := ⟨RX10, "pullWord", "()I"⟩
abbrev cX10_flag : ByteArray := prog_12_method_34_code
def yX10_flag : MethodName := ⟨RX10, "flag", "(IZ)V"⟩
abbrev cX10_shown : ByteArray := prog_12_method_35_code
def yX10_shown : MethodName := ⟨RX10, "shown", "(I)I"⟩
abbrev cX10_interrupt : ByteArray := prog_12_method_36_code
def yX10_interrupt : MethodName := ⟨RX10, "interrupt", "(II)V"⟩
abbrev cX10_addressed : ByteArray := prog_12_method_37_code
def yX10_addressed : MethodName := ⟨RX10, "addressed", "(I)I"⟩
abbrev cX10_pointed : ByteArray := prog_12_method_38_code
def yX10_pointed : MethodName := ⟨RX10, "pointed", "(I)I"⟩
abbrev cX10_indexed : ByteArray := prog_12_method_39_code
def yX10_indexed : MethodName := ⟨RX10, "indexed", "(II)I"⟩
abbrev cX10_cyclesOf : ByteArray := prog_12_method_40_code
def yX10_cyclesOf : MethodName := ⟨RX10, "cyclesOf", "(I)I"⟩
abbrev cX10_modeOne : ByteArray := prog_12_method_41_code
def yX10_modeOne : MethodName := ⟨RX10, "modeOne", "(I)I"⟩
abbrev cX10_compare : ByteArray := prog_12_method_42_code
def yX10_compare : MethodName := ⟨RX10, "compare", "(II)V"⟩
abbrev cX10_add : ByteArray := prog_12_method_43_code
def yX10_add : MethodName := ⟨RX10, "add", "(I)V"⟩
abbrev cX10_arithmetic : ByteArray := prog_12_method_44_code
def yX10_arithmetic : MethodName := ⟨RX10, "arithmetic", "(II)I"⟩
abbrev cX10_changed : ByteArray := prog_12_method_45_code
def yX10_changed : MethodName := ⟨RX10, "changed", "(II)I"⟩
abbrev cX10_change : ByteArray := prog_12_method_46_code
def yX10_change : MethodName := ⟨RX10, "change", "(II)I"⟩
abbrev cX10_doTwo : ByteArray := prog_12_method_47_code
def yX10_doTwo : MethodName := ⟨RX10, "doTwo", "(II)I"⟩
abbrev cX10_loadX : ByteArray := prog_12_method_48_code
def yX10_loadX : MethodName := ⟨RX10, "loadX", "(I)I"⟩
abbrev cX10_moved : ByteArray := prog_12_method_49_code
def yX10_moved : MethodName := ⟨RX10, "moved", "(I)I"⟩
abbrev cX10_stackPointer : ByteArray := prog_12_method_50_code
def yX10_stackPointer : MethodName := ⟨RX10, "stackPointer", "(I)I"⟩
abbrev cX10_branch : ByteArray := prog_12_method_51_code
def yX10_branch : MethodName := ⟨RX10, "branch", "(I)I"⟩
abbrev cX10_stacked : ByteArray := prog_12_method_52_code
def yX10_stacked : MethodName := ⟨RX10, "stacked", "(I)I"⟩
abbrev cX10_flagged : ByteArray := prog_12_method_53_code
def yX10_flagged : MethodName := ⟨RX10, "flagged", "(I)I"⟩
abbrev cX10_called : ByteArray := prog_12_method_54_code
def yX10_called : MethodName := ⟨RX10, "called", "(I)I"⟩
abbrev cX10_jump : ByteArray := prog_12_method_55_code
def yX10_jump : MethodName := ⟨RX10, "jump", "(Z)I"⟩
abbrev cX10_listed : ByteArray := prog_12_method_56_code
def yX10_listed : MethodName := ⟨RX10, "listed", "(II)I"⟩
abbrev cX10_doZero : ByteArray := prog_12_method_57_code
def yX10_doZero : MethodName := ⟨RX10, "doZero", "(II)I"⟩
abbrev cX10_perform : ByteArray := prog_12_method_58_code
def yX10_perform : MethodName := ⟨RX10, "perform", "()I"⟩
abbrev cX10_oneStep : ByteArray := prog_12_method_59_code
def yX10_oneStep : MethodName := ⟨RX10, "oneStep", "()I"⟩
abbrev cX10_step : ByteArray := prog_12_method_60_code
def yX10_step : MethodName := ⟨RX10, "step", "()I"⟩
abbrev cX10_run : ByteArray := prog_12_method_61_code
def yX10_run : MethodName := ⟨RX10, "run", "(I)I"⟩
abbrev cX10_reset : ByteArray := prog_12_method_62_code
def yX10_reset : MethodName := ⟨RX10, "reset", "()V"⟩
abbrev cX10_pass : ByteArray := prog_12_method_63_code
def yX10_pass : MethodName := ⟨RX10, "pass", "(I)Z"⟩
abbrev cX10_read : ByteArray := prog_12_method_64_code
def yX10_read : MethodName := ⟨RX10, "read", "(I)I"⟩
abbrev cX10_write : ByteArray := prog_12_method_65_code
def yX10_write : MethodName := ⟨RX10, "write", "(II)V"⟩
abbrev cX10_pad : ByteArray := prog_12_method_66_code
def yX10_pad : MethodName := ⟨RX10, "pad", "(II)V"⟩
abbrev cX10_core : ByteArray := prog_12_method_67_code
def yX10_core : MethodName := ⟨RX10, "core", "(I)I"⟩
abbrev cX10_picture : ByteArray := prog_12_method_68_code
def yX10_picture : MethodName := ⟨RX10, "picture", "(I)I"⟩
abbrev cX10_memory : ByteArray := prog_12_method_69_code
def yX10_memory : MethodName := ⟨RX10, "memory", "(I)I"⟩
abbrev cX10_oam : ByteArray := prog_12_method_70_code
def yX10_oam : MethodName := ⟨RX10, "oam", "(I)I"⟩
abbrev cX10_cartridge : ByteArray := prog_12_method_71_code
def yX10_cartridge : MethodName := ⟨RX10, "cartridge", "(I)I"⟩
abbrev cX10_sound : ByteArray := prog_12_method_72_code
def yX10_sound : MethodName := ⟨RX10, "sound", "(I)I"⟩
def RJ9 : String := "java/lang/Math"
def TJ9 : u_T := fun k => match k with
  | _ => ("", "", "", false)
def tyJ9 : Nat → FieldType := fun k => match k with
  | _ => .int
abbrev wsJ90 : List Cond := u_ws RJ9 TJ9 0
theorem nmJ9 : ∀ a, a < 0 → ∀ b, b < 0 → a ≠ b → (TJ9 a).2.1 ≠ (TJ9 b).2.1 := by decide +kernel
theorem tyJ9_ok : ∀ k, k < 0 → parseFieldDescriptor (TJ9 k).2.2.1 = some (tyJ9 k) := by decide +kernel
abbrev cJ9_min_7cf53 : ByteArray := prog_16_method_69_code
def yJ9_min_7cf53 : MethodName := ⟨RJ9, "min", "(II)I"⟩
def RJ0 : String := "java/lang/String"
def TJ0 : u_T := fun k => match k with
  | _ => ("", "", "", false)
def tyJ0 : Nat → FieldType := fun k => match k with
  | _ => .int
abbrev wsJ00 : List Cond := u_ws RJ0 TJ0 0
theorem nmJ0 : ∀ a, a < 0 → ∀ b, b < 0 → a ≠ b → (TJ0 a).2.1 ≠ (TJ0 b).2.1 := by decide +kernel
theorem tyJ0_ok : ∀ k, k < 0 → parseFieldDescriptor (TJ0 k).2.2.1 = some (tyJ0 k) := by decide +kernel
def RL : String := "GameConsoleLaw"
abbrev cL_cell : ByteArray := method_2_code
def yL_cell : MethodName := ⟨RL, "cell", "([II)I"⟩
abbrev cL_rom : ByteArray := method_3_code
def yL_rom : MethodName := ⟨RL, "rom", "(LGameConsole;II)I"⟩
abbrev cL_chr : ByteArray := method_4_code
def yL_chr : MethodName := ⟨RL, "chr", "(LGameConsole;II)I"⟩
abbrev cL_pad : ByteArray := method_5_code
def yL_pad : MethodName := ⟨RL, "pad", "(LGameConsole;II)I"⟩
abbrev cL_core : ByteArray := method_6_code
def yL_core : MethodName := ⟨RL, "core", "(LGameConsole;I[J)I"⟩
abbrev cL_picture : ByteArray := method_7_code
def yL_picture : MethodName := ⟨RL, "picture", "(LGameConsole;I[J)I"⟩
abbrev cL_oam : ByteArray := method_8_code
def yL_oam : MethodName := ⟨RL, "oam", "(LGameConsole;I[J)I"⟩
abbrev cL_cartridge : ByteArray := method_9_code
def yL_cartridge : MethodName := ⟨RL, "cartridge", "(LGameConsole;I[J)I"⟩
abbrev cL_sound : ByteArray := method_10_code
def yL_sound : MethodName := ⟨RL, "sound", "(LGameConsole;I[J)I"⟩
abbrev cL_law : ByteArray := code
def yL_law : MethodName := ⟨RL, "law", "([I)Z"⟩
abbrev vwCl : List vw_C := [(RX0, TX0, 7), (RX2, TX2, 8), (RX3, TX3, 13), (RX4, TX4, 11), (RX6, TX6, 3), (RX7, TX7, 16), (RX8, TX8, 7), (RX9, TX9, 7), (RX10, TX10, 53)]
def WT : List Cond := lw_tbl.filter goodWord
theorem wt_m {w : Cond} (h : w ∈ lw_tbl) (hg : goodWord w = true) : w ∈ WT := List.mem_filter.mpr ⟨h, hg⟩
theorem wt_g : ∀ w ∈ WT, w ∈ WT ∧ ((w.onTables && w.keeps) = true ∨ ∃ ty, w = .arrayClass ty) := fun w h => ⟨h, good_of_word (List.mem_filter.mp h).2⟩
theorem wu_X0 : ∀ w ∈ u_ws RX0 TX0 7, w ∈ WT := fun w h => wt_m ((by decide +kernel : ∀ w ∈ u_ws RX0 TX0 7, w ∈ lw_tbl) w h) ((by decide +kernel : ∀ w ∈ u_ws RX0 TX0 7, goodWord w = true) w h)
theorem wu_X2 : ∀ w ∈ u_ws RX2 TX2 8, w ∈ WT := fun w h => wt_m ((by decide +kernel : ∀ w ∈ u_ws RX2 TX2 8, w ∈ lw_tbl) w h) ((by decide +kernel : ∀ w ∈ u_ws RX2 TX2 8, goodWord w = true) w h)
theorem wu_X3 : ∀ w ∈ u_ws RX3 TX3 13, w ∈ WT := fun w h => wt_m ((by decide +kernel : ∀ w ∈ u_ws RX3 TX3 13, w ∈ lw_tbl) w h) ((by decide +kernel : ∀ w ∈ u_ws RX3 TX3 13, goodWord w = true) w h)
theorem wu_X4 : ∀ w ∈ u_ws RX4 TX4 11, w ∈ WT := fun w h => wt_m ((by decide +kernel : ∀ w ∈ u_ws RX4 TX4 11, w ∈ lw_tbl) w h) ((by decide +kernel : ∀ w ∈ u_ws RX4 TX4 11, goodWord w = true) w h)
theorem wu_X6 : ∀ w ∈ u_ws RX6 TX6 3, w ∈ WT := fun w h => wt_m ((by decide +kernel : ∀ w ∈ u_ws RX6 TX6 3, w ∈ lw_tbl) w h) ((by decide +kernel : ∀ w ∈ u_ws RX6 TX6 3, goodWord w = true) w h)
theorem wu_X7 : ∀ w ∈ u_ws RX7 TX7 16, w ∈ WT := fun w h => wt_m ((by decide +kernel : ∀ w ∈ u_ws RX7 TX7 16, w ∈ lw_tbl) w h) ((by decide +kernel : ∀ w ∈ u_ws RX7 TX7 16, goodWord w = true) w h)
theorem wu_X8 : ∀ w ∈ u_ws RX8 TX8 7, w ∈ WT := fun w h => wt_m ((by decide +kernel : ∀ w ∈ u_ws RX8 TX8 7, w ∈ lw_tbl) w h) ((by decide +kernel : ∀ w ∈ u_ws RX8 TX8 7, goodWord w = true) w h)
theorem wu_X9 : ∀ w ∈ u_ws RX9 TX9 7, w ∈ WT := fun w h => wt_m ((by decide +kernel : ∀ w ∈ u_ws RX9 TX9 7, w ∈ lw_tbl) w h) ((by decide +kernel : ∀ w ∈ u_ws RX9 TX9 7, goodWord w = true) w h)
theorem wu_X10 : ∀ w ∈ u_ws RX10 TX10 53, w ∈ WT := fun w h => wt_m ((by decide +kernel : ∀ w ∈ u_ws RX10 TX10 53, w ∈ lw_tbl) w h) ((by decide +kernel : ∀ w ∈ u_ws RX10 TX10 53, goodWord w = true) w h)
end
section
theorem dX0_init_0 : decode cX0_init 0 = .ok (.aload_n 0, 1) := by decide +kernel
theorem dX0_init_1 : decode cX0_init 1 = .ok (.invokespecial 1, 3) := by decide +kernel
theorem dX0_init_4 : decode cX0_init 4 = .ok (.aload_n 0, 1) := by decide +kernel
theorem dX0_init_5 : decode cX0_init 5 = .ok (.sipush 2048, 3) := by decide +kernel
theorem dX0_init_8 : decode cX0_init 8 = .ok (.newarray .int, 2) := by decide +kernel
theorem dX0_init_10 : decode cX0_init 10 = .ok (.putfield 7, 3) := by decide +kernel
theorem dX0_init_13 : decode cX0_init 13 = .ok (.aload_n 0, 1) := by decide +kernel
theorem dX0_init_14 : decode cX0_init 14 = .ok (.sipush 256, 3) := by decide +kernel
theorem dX0_init_17 : decode cX0_init 17 = .ok (.newarray .int, 2) := by decide +kernel
theorem dX0_init_19 : decode cX0_init 19 = .ok (.putfield 13, 3) := by decide +kernel
theorem dX0_init_22 : decode cX0_init 22 = .ok (.aload_n 0, 1) := by decide +kernel
theorem dX0_init_23 : decode cX0_init 23 = .ok (.iconst (-1), 1) := by decide +kernel
theorem dX0_init_24 : decode cX0_init 24 = .ok (.putfield 16, 3) := by decide +kernel
theorem dX0_init_27 : decode cX0_init 27 = .ok (.aload_n 0, 1) := by decide +kernel
theorem dX0_init_28 : decode cX0_init 28 = .ok (.aload_n 1, 1) := by decide +kernel
theorem dX0_init_29 : decode cX0_init 29 = .ok (.putfield 20, 3) := by decide +kernel
theorem dX0_init_32 : decode cX0_init 32 = .ok (.aload_n 0, 1) := by decide +kernel
theorem dX0_init_33 : decode cX0_init 33 = .ok (.aload_n 2, 1) := by decide +kernel
theorem dX0_init_34 : decode cX0_init 34 = .ok (.putfield 24, 3) := by decide +kernel
theorem dX0_init_37 : decode cX0_init 37 = .ok (.aload_n 0, 1) := by decide +kernel
theorem dX0_init_38 : decode cX0_init 38 = .ok (.aload_n 3, 1) := by decide +kernel
theorem dX0_init_39 : decode cX0_init 39 = .ok (.putfield 28, 3) := by decide +kernel
theorem dX0_init_42 : decode cX0_init 42 = .ok (.aload_n 0, 1) := by decide +kernel
theorem dX0_init_43 : decode cX0_init 43 = .ok (.aload 4, 2) := by decide +kernel
theorem dX0_init_45 : decode cX0_init 45 = .ok (.putfield 32, 3) := by decide +kernel
theorem dX0_init_48 : decode cX0_init 48 = .ok (.return_, 1) := by decide +kernel
theorem dX0_load_0 : decode cX0_load 0 = .ok (.iload_n 1, 1) := by decide +kernel
theorem dX0_load_1 : decode cX0_load 1 = .ok (.sipush 8192, 3) := by decide +kernel
theorem dX0_load_4 : decode cX0_load 4 = .ok (.if_icmp .ge 14, 3) := by decide +kernel
theorem dX0_load_7 : decode cX0_load 7 = .ok (.aload_n 0, 1) := by decide +kernel
theorem dX0_load_8 : decode cX0_load 8 = .ok (.getfield 7, 3) := by decide +kernel
theorem dX0_load_11 : decode cX0_load 11 = .ok (.iload_n 1, 1) := by decide +kernel
theorem dX0_load_12 : decode cX0_load 12 = .ok (.sipush 2047, 3) := by decide +kernel
theorem dX0_load_15 : decode cX0_load 15 = .ok (.iand, 1) := by decide +kernel
theorem dX0_load_16 : decode cX0_load 16 = .ok (.iaload, 1) := by decide +kernel
theorem dX0_load_17 : decode cX0_load 17 = .ok (.ireturn, 1) := by decide +kernel
theorem dX0_load_18 : decode cX0_load 18 = .ok (.iload_n 1, 1) := by decide +kernel
theorem dX0_load_19 : decode cX0_load 19 = .ok (.sipush 16384, 3) := by decide +kernel
theorem dX0_load_22 : decode cX0_load 22 = .ok (.if_icmp .ge 15, 3) := by decide +kernel
theorem dX0_load_25 : decode cX0_load 25 = .ok (.aload_n 0, 1) := by decide +kernel
theorem dX0_load_26 : decode cX0_load 26 = .ok (.getfield 20, 3) := by decide +kernel
theorem dX0_load_29 : decode cX0_load 29 = .ok (.iload_n 1, 1) := by decide +kernel
theorem dX0_load_30 : decode cX0_load 30 = .ok (.bipush 7, 2) := by decide +kernel
theorem dX0_load_32 : decode cX0_load 32 = .ok (.iand, 1) := by decide +kernel
theorem dX0_load_33 : decode cX0_load 33 = .ok (.invokevirtual 36, 3) := by decide +kernel
theorem dX0_load_36 : decode cX0_load 36 = .ok (.ireturn, 1) := by decide +kernel
theorem dX0_load_37 : decode cX0_load 37 = .ok (.iload_n 1, 1) := by decide +kernel
theorem dX0_load_38 : decode cX0_load 38 = .ok (.sipush 24576, 3) := by decide +kernel
theorem dX0_load_41 : decode cX0_load 41 = .ok (.if_icmp .ge 9, 3) := by decide +kernel
theorem dX0_load_44 : decode cX0_load 44 = .ok (.aload_n 0, 1) := by decide +kernel
theorem dX0_load_45 : decode cX0_load 45 = .ok (.iload_n 1, 1) := by decide +kernel
theorem dX0_load_46 : decode cX0_load 46 = .ok (.invokevirtual 42, 3) := by decide +kernel
theorem dX0_load_49 : decode cX0_load 49 = .ok (.ireturn, 1) := by decide +kernel
theorem dX0_load_50 : decode cX0_load 50 = .ok (.iload_n 1, 1) := by decide +kernel
theorem dX0_load_51 : decode cX0_load 51 = .ok (.ldc 45, 2) := by decide +kernel
theorem dX0_load_53 : decode cX0_load 53 = .ok (.if_icmp .ge 14, 3) := by decide +kernel
theorem dX0_load_56 : decode cX0_load 56 = .ok (.aload_n 0, 1) := by decide +kernel
theorem dX0_load_57 : decode cX0_load 57 = .ok (.getfield 13, 3) := by decide +kernel
theorem dX0_load_60 : decode cX0_load 60 = .ok (.iload_n 1, 1) := by decide +kernel
theorem dX0_load_61 : decode cX0_load 61 = .ok (.sipush 255, 3) := by decide +kernel
theorem dX0_load_64 : decode cX0_load 64 = .ok (.iand, 1) := by decide +kernel
theorem dX0_load_65 : decode cX0_load 65 = .ok (.iaload, 1) := by decide +kernel
theorem dX0_load_66 : decode cX0_load 66 = .ok (.ireturn, 1) := by decide +kernel
theorem dX0_load_67 : decode cX0_load 67 = .ok (.aload_n 0, 1) := by decide +kernel
theorem dX0_load_68 : decode cX0_load 68 = .ok (.getfield 32, 3) := by decide +kernel
theorem dX0_load_71 : decode cX0_load 71 = .ok (.iload_n 1, 1) := by decide +kernel
theorem dX0_load_72 : decode cX0_load 72 = .ok (.invokevirtual 46, 3) := by decide +kernel
theorem dX0_load_75 : decode cX0_load 75 = .ok (.ireturn, 1) := by decide +kernel
theorem dX0_loadInput_0 : decode cX0_loadInput 0 = .ok (.iload_n 1, 1) := by decide +kernel
theorem dX0_loadInput_1 : decode cX0_loadInput 1 = .ok (.tableswitch 53 16405 16407 #[27, 35, 44], 27) := by decide +kernel
theorem dX0_loadInput_28 : decode cX0_loadInput 28 = .ok (.aload_n 0, 1) := by decide +kernel
theorem dX0_loadInput_29 : decode cX0_loadInput 29 = .ok (.getfield 24, 3) := by decide +kernel
theorem dX0_loadInput_32 : decode cX0_loadInput 32 = .ok (.invokevirtual 51, 3) := by decide +kernel
theorem dX0_loadInput_35 : decode cX0_loadInput 35 = .ok (.ireturn, 1) := by decide +kernel
theorem dX0_loadInput_36 : decode cX0_loadInput 36 = .ok (.aload_n 0, 1) := by decide +kernel
theorem dX0_loadInput_37 : decode cX0_loadInput 37 = .ok (.getfield 28, 3) := by decide +kernel
theorem dX0_loadInput_40 : decode cX0_loadInput 40 = .ok (.iconst 0, 1) := by decide +kernel
theorem dX0_loadInput_41 : decode cX0_loadInput 41 = .ok (.invokevirtual 57, 3) := by decide +kernel
theorem dX0_loadInput_44 : decode cX0_loadInput 44 = .ok (.ireturn, 1) := by decide +kernel
theorem dX0_loadInput_45 : decode cX0_loadInput 45 = .ok (.aload_n 0, 1) := by decide +kernel
theorem dX0_loadInput_46 : decode cX0_loadInput 46 = .ok (.getfield 28, 3) := by decide +kernel
theorem dX0_loadInput_49 : decode cX0_loadInput 49 = .ok (.iconst 1, 1) := by decide +kernel
theorem dX0_loadInput_50 : decode cX0_loadInput 50 = .ok (.invokevirtual 57, 3) := by decide +kernel
theorem dX0_loadInput_53 : decode cX0_loadInput 53 = .ok (.ireturn, 1) := by decide +kernel
theorem dX0_loadInput_54 : decode cX0_loadInput 54 = .ok (.iconst 0, 1) := by decide +kernel
theorem dX0_loadInput_55 : decode cX0_loadInput 55 = .ok (.ireturn, 1) := by decide +kernel
theorem dX0_store_0 : decode cX0_store 0 = .ok (.iload_n 1, 1) := by decide +kernel
theorem dX0_store_1 : decode cX0_store 1 = .ok (.sipush 8192, 3) := by decide +kernel
theorem dX0_store_4 : decode cX0_store 4 = .ok (.if_icmp .ge 17, 3) := by decide +kernel
theorem dX0_store_7 : decode cX0_store 7 = .ok (.aload_n 0, 1) := by decide +kernel
theorem dX0_store_8 : decode cX0_store 8 = .ok (.getfield 7, 3) := by decide +kernel
theorem dX0_store_11 : decode cX0_store 11 = .ok (.iload_n 1, 1) := by decide +kernel
theorem dX0_store_12 : decode cX0_store 12 = .ok (.sipush 2047, 3) := by decide +kernel
theorem dX0_store_15 : decode cX0_store 15 = .ok (.iand, 1) := by decide +kernel
theorem dX0_store_16 : decode cX0_store 16 = .ok (.iload_n 2, 1) := by decide +kernel
theorem dX0_store_17 : decode cX0_store 17 = .ok (.iastore, 1) := by decide +kernel
theorem dX0_store_18 : decode cX0_store 18 = .ok (.goto 127, 3) := by decide +kernel
theorem dX0_store_21 : decode cX0_store 21 = .ok (.iload_n 1, 1) := by decide +kernel
theorem dX0_store_22 : decode cX0_store 22 = .ok (.sipush 16384, 3) := by decide +kernel
theorem dX0_store_25 : decode cX0_store 25 = .ok (.if_icmp .ge 18, 3) := by decide +kernel
theorem dX0_store_28 : decode cX0_store 28 = .ok (.aload_n 0, 1) := by decide +kernel
theorem dX0_store_29 : decode cX0_store 29 = .ok (.getfield 20, 3) := by decide +kernel
theorem dX0_store_32 : decode cX0_store 32 = .ok (.iload_n 1, 1) := by decide +kernel
theorem dX0_store_33 : decode cX0_store 33 = .ok (.bipush 7, 2) := by decide +kernel
theorem dX0_store_35 : decode cX0_store 35 = .ok (.iand, 1) := by decide +kernel
theorem dX0_store_36 : decode cX0_store 36 = .ok (.iload_n 2, 1) := by decide +kernel
theorem dX0_store_37 : decode cX0_store 37 = .ok (.invokevirtual 62, 3) := by decide +kernel
theorem dX0_store_40 : decode cX0_store 40 = .ok (.goto 105, 3) := by decide +kernel
theorem dX0_store_43 : decode cX0_store 43 = .ok (.iload_n 1, 1) := by decide +kernel
theorem dX0_store_44 : decode cX0_store 44 = .ok (.sipush 16404, 3) := by decide +kernel
theorem dX0_store_47 : decode cX0_store 47 = .ok (.if_icmp .ne 11, 3) := by decide +kernel
theorem dX0_store_50 : decode cX0_store 50 = .ok (.aload_n 0, 1) := by decide +kernel
theorem dX0_store_51 : decode cX0_store 51 = .ok (.iload_n 2, 1) := by decide +kernel
theorem dX0_store_52 : decode cX0_store 52 = .ok (.putfield 16, 3) := by decide +kernel
theorem dX0_store_55 : decode cX0_store 55 = .ok (.goto 90, 3) := by decide +kernel
theorem dX0_store_58 : decode cX0_store 58 = .ok (.iload_n 1, 1) := by decide +kernel
theorem dX0_store_59 : decode cX0_store 59 = .ok (.sipush 16406, 3) := by decide +kernel
theorem dX0_store_62 : decode cX0_store 62 = .ok (.if_icmp .ne 25, 3) := by decide +kernel
theorem dX0_store_65 : decode cX0_store 65 = .ok (.aload_n 0, 1) := by decide +kernel
theorem dX0_store_66 : decode cX0_store 66 = .ok (.getfield 28, 3) := by decide +kernel
theorem dX0_store_69 : decode cX0_store 69 = .ok (.iload_n 2, 1) := by decide +kernel
theorem dX0_store_70 : decode cX0_store 70 = .ok (.iconst 1, 1) := by decide +kernel
theorem dX0_store_71 : decode cX0_store 71 = .ok (.iand, 1) := by decide +kernel
theorem dX0_store_72 : decode cX0_store 72 = .ok (.iconst 1, 1) := by decide +kernel
theorem dX0_store_73 : decode cX0_store 73 = .ok (.if_icmp .ne 7, 3) := by decide +kernel
theorem dX0_store_76 : decode cX0_store 76 = .ok (.iconst 1, 1) := by decide +kernel
theorem dX0_store_77 : decode cX0_store 77 = .ok (.goto 4, 3) := by decide +kernel
theorem dX0_store_80 : decode cX0_store 80 = .ok (.iconst 0, 1) := by decide +kernel
theorem dX0_store_81 : decode cX0_store 81 = .ok (.invokevirtual 66, 3) := by decide +kernel
theorem dX0_store_84 : decode cX0_store 84 = .ok (.goto 61, 3) := by decide +kernel
theorem dX0_store_87 : decode cX0_store 87 = .ok (.iload_n 1, 1) := by decide +kernel
theorem dX0_store_88 : decode cX0_store 88 = .ok (.sipush 16408, 3) := by decide +kernel
theorem dX0_store_91 : decode cX0_store 91 = .ok (.if_icmp .ge 18, 3) := by decide +kernel
theorem dX0_store_94 : decode cX0_store 94 = .ok (.aload_n 0, 1) := by decide +kernel
theorem dX0_store_95 : decode cX0_store 95 = .ok (.getfield 24, 3) := by decide +kernel
theorem dX0_store_98 : decode cX0_store 98 = .ok (.iload_n 1, 1) := by decide +kernel
theorem dX0_store_99 : decode cX0_store 99 = .ok (.bipush 31, 2) := by decide +kernel
theorem dX0_store_101 : decode cX0_store 101 = .ok (.iand, 1) := by decide +kernel
theorem dX0_store_102 : decode cX0_store 102 = .ok (.iload_n 2, 1) := by decide +kernel
theorem dX0_store_103 : decode cX0_store 103 = .ok (.invokevirtual 70, 3) := by decide +kernel
theorem dX0_store_106 : decode cX0_store 106 = .ok (.goto 39, 3) := by decide +kernel
theorem dX0_store_109 : decode cX0_store 109 = .ok (.iload_n 1, 1) := by decide +kernel
theorem dX0_store_110 : decode cX0_store 110 = .ok (.ldc 45, 2) := by decide +kernel
theorem dX0_store_112 : decode cX0_store 112 = .ok (.if_icmp .lt 15, 3) := by decide +kernel
theorem dX0_store_115 : decode cX0_store 115 = .ok (.aload_n 0, 1) := by decide +kernel
theorem dX0_store_116 : decode cX0_store 116 = .ok (.getfield 32, 3) := by decide +kernel
theorem dX0_store_119 : decode cX0_store 119 = .ok (.iload_n 1, 1) := by decide +kernel
theorem dX0_store_120 : decode cX0_store 120 = .ok (.iload_n 2, 1) := by decide +kernel
theorem dX0_store_121 : decode cX0_store 121 = .ok (.invokevirtual 71, 3) := by decide +kernel
theorem dX0_store_124 : decode cX0_store 124 = .ok (.goto 21, 3) := by decide +kernel
theorem dX0_store_127 : decode cX0_store 127 = .ok (.iload_n 1, 1) := by decide +kernel
theorem dX0_store_128 : decode cX0_store 128 = .ok (.sipush 24576, 3) := by decide +kernel
theorem dX0_store_131 : decode cX0_store 131 = .ok (.if_icmp .lt 14, 3) := by decide +kernel
theorem dX0_store_134 : decode cX0_store 134 = .ok (.aload_n 0, 1) := by decide +kernel
theorem dX0_store_135 : decode cX0_store 135 = .ok (.getfield 13, 3) := by decide +kernel
theorem dX0_store_138 : decode cX0_store 138 = .ok (.iload_n 1, 1) := by decide +kernel
theorem dX0_store_139 : decode cX0_store 139 = .ok (.sipush 255, 3) := by decide +kernel
theorem dX0_store_142 : decode cX0_store 142 = .ok (.iand, 1) := by decide +kernel
theorem dX0_store_143 : decode cX0_store 143 = .ok (.iload_n 2, 1) := by decide +kernel
theorem dX0_store_144 : decode cX0_store 144 = .ok (.iastore, 1) := by decide +kernel
theorem dX0_store_145 : decode cX0_store 145 = .ok (.return_, 1) := by decide +kernel
theorem dX0_copyPageAsked_0 : decode cX0_copyPageAsked 0 = .ok (.aload_n 0, 1) := by decide +kernel
theorem dX0_copyPageAsked_1 : decode cX0_copyPageAsked 1 = .ok (.getfield 16, 3) := by decide +kernel
theorem dX0_copyPageAsked_4 : decode cX0_copyPageAsked 4 = .ok (.iconst (-1), 1) := by decide +kernel
theorem dX0_copyPageAsked_5 : decode cX0_copyPageAsked 5 = .ok (.if_icmp .ne 5, 3) := by decide +kernel
theorem dX0_copyPageAsked_8 : decode cX0_copyPageAsked 8 = .ok (.iconst 0, 1) := by decide +kernel
theorem dX0_copyPageAsked_9 : decode cX0_copyPageAsked 9 = .ok (.ireturn, 1) := by decide +kernel
theorem dX0_copyPageAsked_10 : decode cX0_copyPageAsked 10 = .ok (.aload_n 0, 1) := by decide +kernel
theorem dX0_copyPageAsked_11 : decode cX0_copyPageAsked 11 = .ok (.getfield 16, 3) := by decide +kernel
theorem dX0_copyPageAsked_14 : decode cX0_copyPageAsked 14 = .ok (.bipush 8, 2) := by decide +kernel
theorem dX0_copyPageAsked_16 : decode cX0_copyPageAsked 16 = .ok (.ishl, 1) := by decide +kernel
theorem dX0_copyPageAsked_17 : decode cX0_copyPageAsked 17 = .ok (.istore_n 2, 1) := by decide +kernel
theorem dX0_copyPageAsked_18 : decode cX0_copyPageAsked 18 = .ok (.aload_n 0, 1) := by decide +kernel
theorem dX0_copyPageAsked_19 : decode cX0_copyPageAsked 19 = .ok (.iconst (-1), 1) := by decide +kernel
theorem dX0_copyPageAsked_20 : decode cX0_copyPageAsked 20 = .ok (.putfield 16, 3) := by decide +kernel
theorem dX0_copyPageAsked_23 : decode cX0_copyPageAsked 23 = .ok (.iconst 0, 1) := by decide +kernel
theorem dX0_copyPageAsked_24 : decode cX0_copyPageAsked 24 = .ok (.istore_n 3, 1) := by decide +kernel
theorem dX0_copyPageAsked_25 : decode cX0_copyPageAsked 25 = .ok (.iload_n 3, 1) := by decide +kernel
theorem dX0_copyPageAsked_26 : decode cX0_copyPageAsked 26 = .ok (.sipush 256, 3) := by decide +kernel
theorem dX0_copyPageAsked_29 : decode cX0_copyPageAsked 29 = .ok (.if_icmp .ge 24, 3) := by decide +kernel
theorem dX0_copyPageAsked_32 : decode cX0_copyPageAsked 32 = .ok (.aload_n 0, 1) := by decide +kernel
theorem dX0_copyPageAsked_33 : decode cX0_copyPageAsked 33 = .ok (.getfield 20, 3) := by decide +kernel
theorem dX0_copyPageAsked_36 : decode cX0_copyPageAsked 36 = .ok (.iconst 4, 1) := by decide +kernel
theorem dX0_copyPageAsked_37 : decode cX0_copyPageAsked 37 = .ok (.aload_n 0, 1) := by decide +kernel
theorem dX0_copyPageAsked_38 : decode cX0_copyPageAsked 38 = .ok (.iload_n 2, 1) := by decide +kernel
theorem dX0_copyPageAsked_39 : decode cX0_copyPageAsked 39 = .ok (.iload_n 3, 1) := by decide +kernel
theorem dX0_copyPageAsked_40 : decode cX0_copyPageAsked 40 = .ok (.ior, 1) := by decide +kernel
theorem dX0_copyPageAsked_41 : decode cX0_copyPageAsked 41 = .ok (.invokevirtual 74, 3) := by decide +kernel
theorem dX0_copyPageAsked_44 : decode cX0_copyPageAsked 44 = .ok (.invokevirtual 62, 3) := by decide +kernel
theorem dX0_copyPageAsked_47 : decode cX0_copyPageAsked 47 = .ok (.iinc 3 1, 3) := by decide +kernel
theorem dX0_copyPageAsked_50 : decode cX0_copyPageAsked 50 = .ok (.goto (-25), 3) := by decide +kernel
theorem dX0_copyPageAsked_53 : decode cX0_copyPageAsked 53 = .ok (.sipush 513, 3) := by decide +kernel
theorem dX0_copyPageAsked_56 : decode cX0_copyPageAsked 56 = .ok (.iload_n 1, 1) := by decide +kernel
theorem dX0_copyPageAsked_57 : decode cX0_copyPageAsked 57 = .ok (.iadd, 1) := by decide +kernel
theorem dX0_copyPageAsked_58 : decode cX0_copyPageAsked 58 = .ok (.ireturn, 1) := by decide +kernel
theorem dX0_storeStack_0 : decode cX0_storeStack 0 = .ok (.aload_n 0, 1) := by decide +kernel
theorem dX0_storeStack_1 : decode cX0_storeStack 1 = .ok (.getfield 7, 3) := by decide +kernel
theorem dX0_storeStack_4 : decode cX0_storeStack 4 = .ok (.sipush 256, 3) := by decide +kernel
theorem dX0_storeStack_7 : decode cX0_storeStack 7 = .ok (.iload_n 1, 1) := by decide +kernel
theorem dX0_storeStack_8 : decode cX0_storeStack 8 = .ok (.sipush 255, 3) := by decide +kernel
theorem dX0_storeStack_11 : decode cX0_storeStack 11 = .ok (.iand, 1) := by decide +kernel
theorem dX0_storeStack_12 : decode cX0_storeStack 12 = .ok (.ior, 1) := by decide +kernel
theorem dX0_storeStack_13 : decode cX0_storeStack 13 = .ok (.iload_n 2, 1) := by decide +kernel
theorem dX0_storeStack_14 : decode cX0_storeStack 14 = .ok (.iastore, 1) := by decide +kernel
theorem dX0_storeStack_15 : decode cX0_storeStack 15 = .ok (.return_, 1) := by decide +kernel
theorem dX0_loadStack_0 : decode cX0_loadStack 0 = .ok (.aload_n 0, 1) := by decide +kernel
theorem dX0_loadStack_1 : decode cX0_loadStack 1 = .ok (.getfield 7, 3) := by decide +kernel
theorem dX0_loadStack_4 : decode cX0_loadStack 4 = .ok (.sipush 256, 3) := by decide +kernel
theorem dX0_loadStack_7 : decode cX0_loadStack 7 = .ok (.iload_n 1, 1) := by decide +kernel
theorem dX0_loadStack_8 : decode cX0_loadStack 8 = .ok (.sipush 255, 3) := by decide +kernel
theorem dX0_loadStack_11 : decode cX0_loadStack 11 = .ok (.iand, 1) := by decide +kernel
theorem dX0_loadStack_12 : decode cX0_loadStack 12 = .ok (.ior, 1) := by decide +kernel
theorem dX0_loadStack_13 : decode cX0_loadStack 13 = .ok (.iaload, 1) := by decide +kernel
theorem dX0_loadStack_14 : decode cX0_loadStack 14 = .ok (.ireturn, 1) := by decide +kernel
theorem dX0_vector_0 : decode cX0_vector 0 = .ok (.aload_n 0, 1) := by decide +kernel
theorem dX0_vector_1 : decode cX0_vector 1 = .ok (.getfield 32, 3) := by decide +kernel
theorem dX0_vector_4 : decode cX0_vector 4 = .ok (.iload_n 1, 1) := by decide +kernel
theorem dX0_vector_5 : decode cX0_vector 5 = .ok (.invokevirtual 46, 3) := by decide +kernel
theorem dX0_vector_8 : decode cX0_vector 8 = .ok (.aload_n 0, 1) := by decide +kernel
theorem dX0_vector_9 : decode cX0_vector 9 = .ok (.getfield 32, 3) := by decide +kernel
theorem dX0_vector_12 : decode cX0_vector 12 = .ok (.iload_n 1, 1) := by decide +kernel
theorem dX0_vector_13 : decode cX0_vector 13 = .ok (.iconst 1, 1) := by decide +kernel
theorem dX0_vector_14 : decode cX0_vector 14 = .ok (.iadd, 1) := by decide +kernel
theorem dX0_vector_15 : decode cX0_vector 15 = .ok (.invokevirtual 46, 3) := by decide +kernel
theorem dX0_vector_18 : decode cX0_vector 18 = .ok (.bipush 8, 2) := by decide +kernel
theorem dX0_vector_20 : decode cX0_vector 20 = .ok (.ishl, 1) := by decide +kernel
theorem dX0_vector_21 : decode cX0_vector 21 = .ok (.ior, 1) := by decide +kernel
theorem dX0_vector_22 : decode cX0_vector 22 = .ok (.ireturn, 1) := by decide +kernel
theorem dX1_init_0 : decode cX1_init 0 = .ok (.aload_n 0, 1) := by decide +kernel
theorem dX1_init_1 : decode cX1_init 1 = .ok (.invokespecial 3, 3) := by decide +kernel
theorem dX1_init_4 : decode cX1_init 4 = .ok (.aload_n 0, 1) := by decide +kernel
theorem dX1_init_5 : decode cX1_init 5 = .ok (.sipush 512, 3) := by decide +kernel
theorem dX1_init_8 : decode cX1_init 8 = .ok (.newarray .int, 2) := by decide +kernel
theorem dX1_init_10 : decode cX1_init 10 = .ok (.putfield 9, 3) := by decide +kernel
theorem dX1_init_13 : decode cX1_init 13 = .ok (.aload_n 0, 1) := by decide +kernel
theorem dX1_init_14 : decode cX1_init 14 = .ok (.sipush 128, 3) := by decide +kernel
theorem dX1_init_17 : decode cX1_init 17 = .ok (.newarray .int, 2) := by decide +kernel
theorem dX1_init_19 : decode cX1_init 19 = .ok (.putfield 15, 3) := by decide +kernel
theorem dX1_init_22 : decode cX1_init 22 = .ok (.aload_n 0, 1) := by decide +kernel
theorem dX1_init_23 : decode cX1_init 23 = .ok (.iconst 4, 1) := by decide +kernel
theorem dX1_init_24 : decode cX1_init 24 = .ok (.newarray .int, 2) := by decide +kernel
theorem dX1_init_26 : decode cX1_init 26 = .ok (.putfield 18, 3) := by decide +kernel
theorem dX1_init_29 : decode cX1_init 29 = .ok (.aload_n 0, 1) := by decide +kernel
theorem dX1_init_30 : decode cX1_init 30 = .ok (.bipush 8, 2) := by decide +kernel
theorem dX1_init_32 : decode cX1_init 32 = .ok (.newarray .int, 2) := by decide +kernel
theorem dX1_init_34 : decode cX1_init 34 = .ok (.putfield 21, 3) := by decide +kernel
theorem dX1_init_37 : decode cX1_init 37 = .ok (.return_, 1) := by decide +kernel
theorem dX1_romByte_0 : decode cX1_romByte 0 = .ok (.aload_n 0, 1) := by decide +kernel
theorem dX1_romByte_1 : decode cX1_romByte 1 = .ok (.getfield 9, 3) := by decide +kernel
theorem dX1_romByte_4 : decode cX1_romByte 4 = .ok (.aload_n 0, 1) := by decide +kernel
theorem dX1_romByte_5 : decode cX1_romByte 5 = .ok (.getfield 18, 3) := by decide +kernel
theorem dX1_romByte_8 : decode cX1_romByte 8 = .ok (.iload_n 1, 1) := by decide +kernel
theorem dX1_romByte_9 : decode cX1_romByte 9 = .ok (.bipush 13, 2) := by decide +kernel
theorem dX1_romByte_11 : decode cX1_romByte 11 = .ok (.ishr, 1) := by decide +kernel
theorem dX1_romByte_12 : decode cX1_romByte 12 = .ok (.iconst 3, 1) := by decide +kernel
theorem dX1_romByte_13 : decode cX1_romByte 13 = .ok (.iand, 1) := by decide +kernel
theorem dX1_romByte_14 : decode cX1_romByte 14 = .ok (.iaload, 1) := by decide +kernel
theorem dX1_romByte_15 : decode cX1_romByte 15 = .ok (.bipush 7, 2) := by decide +kernel
theorem dX1_romByte_17 : decode cX1_romByte 17 = .ok (.iand, 1) := by decide +kernel
theorem dX1_romByte_18 : decode cX1_romByte 18 = .ok (.bipush 6, 2) := by decide +kernel
theorem dX1_romByte_20 : decode cX1_romByte 20 = .ok (.ishl, 1) := by decide +kernel
theorem dX1_romByte_21 : decode cX1_romByte 21 = .ok (.iload_n 1, 1) := by decide +kernel
theorem dX1_romByte_22 : decode cX1_romByte 22 = .ok (.bipush 63, 2) := by decide +kernel
theorem dX1_romByte_24 : decode cX1_romByte 24 = .ok (.iand, 1) := by decide +kernel
theorem dX1_romByte_25 : decode cX1_romByte 25 = .ok (.ior, 1) := by decide +kernel
theorem dX1_romByte_26 : decode cX1_romByte 26 = .ok (.iaload, 1) := by decide +kernel
theorem dX1_romByte_27 : decode cX1_romByte 27 = .ok (.ireturn, 1) := by decide +kernel
theorem dX1_chrByte_0 : decode cX1_chrByte 0 = .ok (.aload_n 0, 1) := by decide +kernel
theorem dX1_chrByte_1 : decode cX1_chrByte 1 = .ok (.getfield 15, 3) := by decide +kernel
theorem dX1_chrByte_4 : decode cX1_chrByte 4 = .ok (.aload_n 0, 1) := by decide +kernel
theorem dX1_chrByte_5 : decode cX1_chrByte 5 = .ok (.getfield 21, 3) := by decide +kernel
theorem dX1_chrByte_8 : decode cX1_chrByte 8 = .ok (.iload_n 1, 1) := by decide +kernel
theorem dX1_chrByte_9 : decode cX1_chrByte 9 = .ok (.bipush 10, 2) := by decide +kernel
theorem dX1_chrByte_11 : decode cX1_chrByte 11 = .ok (.ishr, 1) := by decide +kernel
theorem dX1_chrByte_12 : decode cX1_chrByte 12 = .ok (.bipush 7, 2) := by decide +kernel
theorem dX1_chrByte_14 : decode cX1_chrByte 14 = .ok (.iand, 1) := by decide +kernel
theorem dX1_chrByte_15 : decode cX1_chrByte 15 = .ok (.iaload, 1) := by decide +kernel
theorem dX1_chrByte_16 : decode cX1_chrByte 16 = .ok (.bipush 7, 2) := by decide +kernel
theorem dX1_chrByte_18 : decode cX1_chrByte 18 = .ok (.iand, 1) := by decide +kernel
theorem dX1_chrByte_19 : decode cX1_chrByte 19 = .ok (.iconst 4, 1) := by decide +kernel
theorem dX1_chrByte_20 : decode cX1_chrByte 20 = .ok (.ishl, 1) := by decide +kernel
theorem dX1_chrByte_21 : decode cX1_chrByte 21 = .ok (.iload_n 1, 1) := by decide +kernel
theorem dX1_chrByte_22 : decode cX1_chrByte 22 = .ok (.bipush 15, 2) := by decide +kernel
theorem dX1_chrByte_24 : decode cX1_chrByte 24 = .ok (.iand, 1) := by decide +kernel
theorem dX1_chrByte_25 : decode cX1_chrByte 25 = .ok (.ior, 1) := by decide +kernel
theorem dX1_chrByte_26 : decode cX1_chrByte 26 = .ok (.iaload, 1) := by decide +kernel
theorem dX1_chrByte_27 : decode cX1_chrByte 27 = .ok (.ireturn, 1) := by decide +kernel
theorem dX1_setRomBanks_0 : decode cX1_setRomBanks 0 = .ok (.aload_n 0, 1) := by decide +kernel
theorem dX1_setRomBanks_1 : decode cX1_setRomBanks 1 = .ok (.getfield 18, 3) := by decide +kernel
theorem dX1_setRomBanks_4 : decode cX1_setRomBanks 4 = .ok (.iconst 0, 1) := by decide +kernel
theorem dX1_setRomBanks_5 : decode cX1_setRomBanks 5 = .ok (.iload_n 1, 1) := by decide +kernel
theorem dX1_setRomBanks_6 : decode cX1_setRomBanks 6 = .ok (.bipush 7, 2) := by decide +kernel
theorem dX1_setRomBanks_8 : decode cX1_setRomBanks 8 = .ok (.iand, 1) := by decide +kernel
theorem dX1_setRomBanks_9 : decode cX1_setRomBanks 9 = .ok (.iastore, 1) := by decide +kernel
theorem dX1_setRomBanks_10 : decode cX1_setRomBanks 10 = .ok (.aload_n 0, 1) := by decide +kernel
theorem dX1_setRomBanks_11 : decode cX1_setRomBanks 11 = .ok (.getfield 18, 3) := by decide +kernel
theorem dX1_setRomBanks_14 : decode cX1_setRomBanks 14 = .ok (.iconst 1, 1) := by decide +kernel
theorem dX1_setRomBanks_15 : decode cX1_setRomBanks 15 = .ok (.iload_n 2, 1) := by decide +kernel
theorem dX1_setRomBanks_16 : decode cX1_setRomBanks 16 = .ok (.bipush 7, 2) := by decide +kernel
theorem dX1_setRomBanks_18 : decode cX1_setRomBanks 18 = .ok (.iand, 1) := by decide +kernel
theorem dX1_setRomBanks_19 : decode cX1_setRomBanks 19 = .ok (.iastore, 1) := by decide +kernel
theorem dX1_setRomBanks_20 : decode cX1_setRomBanks 20 = .ok (.aload_n 0, 1) := by decide +kernel
theorem dX1_setRomBanks_21 : decode cX1_setRomBanks 21 = .ok (.getfield 18, 3) := by decide +kernel
theorem dX1_setRomBanks_24 : decode cX1_setRomBanks 24 = .ok (.iconst 2, 1) := by decide +kernel
theorem dX1_setRomBanks_25 : decode cX1_setRomBanks 25 = .ok (.iload_n 3, 1) := by decide +kernel
theorem dX1_setRomBanks_26 : decode cX1_setRomBanks 26 = .ok (.bipush 7, 2) := by decide +kernel
theorem dX1_setRomBanks_28 : decode cX1_setRomBanks 28 = .ok (.iand, 1) := by decide +kernel
theorem dX1_setRomBanks_29 : decode cX1_setRomBanks 29 = .ok (.iastore, 1) := by decide +kernel
theorem dX1_setRomBanks_30 : decode cX1_setRomBanks 30 = .ok (.aload_n 0, 1) := by decide +kernel
theorem dX1_setRomBanks_31 : decode cX1_setRomBanks 31 = .ok (.getfield 18, 3) := by decide +kernel
theorem dX1_setRomBanks_34 : decode cX1_setRomBanks 34 = .ok (.iconst 3, 1) := by decide +kernel
theorem dX1_setRomBanks_35 : decode cX1_setRomBanks 35 = .ok (.iload 4, 2) := by decide +kernel
theorem dX1_setRomBanks_37 : decode cX1_setRomBanks 37 = .ok (.bipush 7, 2) := by decide +kernel
theorem dX1_setRomBanks_39 : decode cX1_setRomBanks 39 = .ok (.iand, 1) := by decide +kernel
theorem dX1_setRomBanks_40 : decode cX1_setRomBanks 40 = .ok (.iastore, 1) := by decide +kernel
theorem dX1_setRomBanks_41 : decode cX1_setRomBanks 41 = .ok (.return_, 1) := by decide +kernel
theorem dX1_setFourChrBanks_0 : decode cX1_setFourChrBanks 0 = .ok (.aload_n 0, 1) := by decide +kernel
theorem dX1_setFourChrBanks_1 : decode cX1_setFourChrBanks 1 = .ok (.getfield 21, 3) := by decide +kernel
theorem dX1_setFourChrBanks_4 : decode cX1_setFourChrBanks 4 = .ok (.iload_n 1, 1) := by decide +kernel
theorem dX1_setFourChrBanks_5 : decode cX1_setFourChrBanks 5 = .ok (.iconst 4, 1) := by decide +kernel
theorem dX1_setFourChrBanks_6 : decode cX1_setFourChrBanks 6 = .ok (.iand, 1) := by decide +kernel
theorem dX1_setFourChrBanks_7 : decode cX1_setFourChrBanks 7 = .ok (.iload_n 2, 1) := by decide +kernel
theorem dX1_setFourChrBanks_8 : decode cX1_setFourChrBanks 8 = .ok (.bipush 7, 2) := by decide +kernel
theorem dX1_setFourChrBanks_10 : decode cX1_setFourChrBanks 10 = .ok (.iand, 1) := by decide +kernel
theorem dX1_setFourChrBanks_11 : decode cX1_setFourChrBanks 11 = .ok (.iastore, 1) := by decide +kernel
theorem dX1_setFourChrBanks_12 : decode cX1_setFourChrBanks 12 = .ok (.aload_n 0, 1) := by decide +kernel
theorem dX1_setFourChrBanks_13 : decode cX1_setFourChrBanks 13 = .ok (.getfield 21, 3) := by decide +kernel
theorem dX1_setFourChrBanks_16 : decode cX1_setFourChrBanks 16 = .ok (.iload_n 1, 1) := by decide +kernel
theorem dX1_setFourChrBanks_17 : decode cX1_setFourChrBanks 17 = .ok (.iconst 4, 1) := by decide +kernel
theorem dX1_setFourChrBanks_18 : decode cX1_setFourChrBanks 18 = .ok (.iand, 1) := by decide +kernel
theorem dX1_setFourChrBanks_19 : decode cX1_setFourChrBanks 19 = .ok (.iconst 1, 1) := by decide +kernel
theorem dX1_setFourChrBanks_20 : decode cX1_setFourChrBanks 20 = .ok (.ior, 1) := by decide +kernel
theorem dX1_setFourChrBanks_21 : decode cX1_setFourChrBanks 21 = .ok (.iload_n 3, 1) := by decide +kernel
theorem dX1_setFourChrBanks_22 : decode cX1_setFourChrBanks 22 = .ok (.bipush 7, 2) := by decide +kernel
theorem dX1_setFourChrBanks_24 : decode cX1_setFourChrBanks 24 = .ok (.iand, 1) := by decide +kernel
theorem dX1_setFourChrBanks_25 : decode cX1_setFourChrBanks 25 = .ok (.iastore, 1) := by decide +kernel
theorem dX1_setFourChrBanks_26 : decode cX1_setFourChrBanks 26 = .ok (.aload_n 0, 1) := by decide +kernel
theorem dX1_setFourChrBanks_27 : decode cX1_setFourChrBanks 27 = .ok (.getfield 21, 3) := by decide +kernel
theorem dX1_setFourChrBanks_30 : decode cX1_setFourChrBanks 30 = .ok (.iload_n 1, 1) := by decide +kernel
theorem dX1_setFourChrBanks_31 : decode cX1_setFourChrBanks 31 = .ok (.iconst 4, 1) := by decide +kernel
theorem dX1_setFourChrBanks_32 : decode cX1_setFourChrBanks 32 = .ok (.iand, 1) := by decide +kernel
theorem dX1_setFourChrBanks_33 : decode cX1_setFourChrBanks 33 = .ok (.iconst 2, 1) := by decide +kernel
theorem dX1_setFourChrBanks_34 : decode cX1_setFourChrBanks 34 = .ok (.ior, 1) := by decide +kernel
theorem dX1_setFourChrBanks_35 : decode cX1_setFourChrBanks 35 = .ok (.iload 4, 2) := by decide +kernel
theorem dX1_setFourChrBanks_37 : decode cX1_setFourChrBanks 37 = .ok (.bipush 7, 2) := by decide +kernel
theorem dX1_setFourChrBanks_39 : decode cX1_setFourChrBanks 39 = .ok (.iand, 1) := by decide +kernel
theorem dX1_setFourChrBanks_40 : decode cX1_setFourChrBanks 40 = .ok (.iastore, 1) := by decide +kernel
theorem dX1_setFourChrBanks_41 : decode cX1_setFourChrBanks 41 = .ok (.aload_n 0, 1) := by decide +kernel
theorem dX1_setFourChrBanks_42 : decode cX1_setFourChrBanks 42 = .ok (.getfield 21, 3) := by decide +kernel
theorem dX1_setFourChrBanks_45 : decode cX1_setFourChrBanks 45 = .ok (.iload_n 1, 1) := by decide +kernel
theorem dX1_setFourChrBanks_46 : decode cX1_setFourChrBanks 46 = .ok (.iconst 4, 1) := by decide +kernel
theorem dX1_setFourChrBanks_47 : decode cX1_setFourChrBanks 47 = .ok (.iand, 1) := by decide +kernel
theorem dX1_setFourChrBanks_48 : decode cX1_setFourChrBanks 48 = .ok (.iconst 3, 1) := by decide +kernel
theorem dX1_setFourChrBanks_49 : decode cX1_setFourChrBanks 49 = .ok (.ior, 1) := by decide +kernel
theorem dX1_setFourChrBanks_50 : decode cX1_setFourChrBanks 50 = .ok (.iload 5, 2) := by decide +kernel
theorem dX1_setFourChrBanks_52 : decode cX1_setFourChrBanks 52 = .ok (.bipush 7, 2) := by decide +kernel
theorem dX1_setFourChrBanks_54 : decode cX1_setFourChrBanks 54 = .ok (.iand, 1) := by decide +kernel
theorem dX1_setFourChrBanks_55 : decode cX1_setFourChrBanks 55 = .ok (.iastore, 1) := by decide +kernel
theorem dX1_setFourChrBanks_56 : decode cX1_setFourChrBanks 56 = .ok (.return_, 1) := by decide +kernel
theorem dX2_init_0 : decode cX2_init 0 = .ok (.aload_n 0, 1) := by decide +kernel
theorem dX2_init_1 : decode cX2_init 1 = .ok (.invokespecial 1, 3) := by decide +kernel
theorem dX2_init_4 : decode cX2_init 4 = .ok (.aload_n 0, 1) := by decide +kernel
theorem dX2_init_5 : decode cX2_init 5 = .ok (.bipush 32, 2) := by decide +kernel
theorem dX2_init_7 : decode cX2_init 7 = .ok (.putfield 9, 3) := by decide +kernel
theorem dX2_init_10 : decode cX2_init 10 = .ok (.aload_n 0, 1) := by decide +kernel
theorem dX2_init_11 : decode cX2_init 11 = .ok (.aload_n 1, 1) := by decide +kernel
theorem dX2_init_12 : decode cX2_init 12 = .ok (.putfield 13, 3) := by decide +kernel
theorem dX2_init_15 : decode cX2_init 15 = .ok (.return_, 1) := by decide +kernel
theorem dX2_restart_0 : decode cX2_restart 0 = .ok (.aload_n 0, 1) := by decide +kernel
theorem dX2_restart_1 : decode cX2_restart 1 = .ok (.aload_n 0, 1) := by decide +kernel
theorem dX2_restart_2 : decode cX2_restart 2 = .ok (.getfield 17, 3) := by decide +kernel
theorem dX2_restart_5 : decode cX2_restart 5 = .ok (.iconst 3, 1) := by decide +kernel
theorem dX2_restart_6 : decode cX2_restart 6 = .ok (.isub, 1) := by decide +kernel
theorem dX2_restart_7 : decode cX2_restart 7 = .ok (.sipush 255, 3) := by decide +kernel
theorem dX2_restart_10 : decode cX2_restart 10 = .ok (.iand, 1) := by decide +kernel
theorem dX2_restart_11 : decode cX2_restart 11 = .ok (.putfield 17, 3) := by decide +kernel
theorem dX2_restart_14 : decode cX2_restart 14 = .ok (.aload_n 0, 1) := by decide +kernel
theorem dX2_restart_15 : decode cX2_restart 15 = .ok (.dup, 1) := by decide +kernel
theorem dX2_restart_16 : decode cX2_restart 16 = .ok (.getfield 9, 3) := by decide +kernel
theorem dX2_restart_19 : decode cX2_restart 19 = .ok (.iconst 4, 1) := by decide +kernel
theorem dX2_restart_20 : decode cX2_restart 20 = .ok (.ior, 1) := by decide +kernel
theorem dX2_restart_21 : decode cX2_restart 21 = .ok (.putfield 9, 3) := by decide +kernel
theorem dX2_restart_24 : decode cX2_restart 24 = .ok (.aload_n 0, 1) := by decide +kernel
theorem dX2_restart_25 : decode cX2_restart 25 = .ok (.aload_n 0, 1) := by decide +kernel
theorem dX2_restart_26 : decode cX2_restart 26 = .ok (.getfield 13, 3) := by decide +kernel
theorem dX2_restart_29 : decode cX2_restart 29 = .ok (.ldc 20, 2) := by decide +kernel
theorem dX2_restart_31 : decode cX2_restart 31 = .ok (.invokevirtual 21, 3) := by decide +kernel
theorem dX2_restart_34 : decode cX2_restart 34 = .ok (.putfield 27, 3) := by decide +kernel
theorem dX2_restart_37 : decode cX2_restart 37 = .ok (.return_, 1) := by decide +kernel
theorem dX2_takeStep_0 : decode cX2_takeStep 0 = .ok (.iload_n 1, 1) := by decide +kernel
theorem dX2_takeStep_1 : decode cX2_takeStep 1 = .ok (.ifCond .eq 20, 3) := by decide +kernel
theorem dX2_takeStep_4 : decode cX2_takeStep 4 = .ok (.aload_n 0, 1) := by decide +kernel
theorem dX2_takeStep_5 : decode cX2_takeStep 5 = .ok (.ldc 30, 2) := by decide +kernel
theorem dX2_takeStep_7 : decode cX2_takeStep 7 = .ok (.aload_n 0, 1) := by decide +kernel
theorem dX2_takeStep_8 : decode cX2_takeStep 8 = .ok (.getfield 27, 3) := by decide +kernel
theorem dX2_takeStep_11 : decode cX2_takeStep 11 = .ok (.aload_n 0, 1) := by decide +kernel
theorem dX2_takeStep_12 : decode cX2_takeStep 12 = .ok (.getfield 9, 3) := by decide +kernel
theorem dX2_takeStep_15 : decode cX2_takeStep 15 = .ok (.invokevirtual 31, 3) := by decide +kernel
theorem dX2_takeStep_18 : decode cX2_takeStep 18 = .ok (.bipush 7, 2) := by decide +kernel
theorem dX2_takeStep_20 : decode cX2_takeStep 20 = .ok (.ireturn, 1) := by decide +kernel
theorem dX2_takeStep_21 : decode cX2_takeStep 21 = .ok (.iload_n 2, 1) := by decide +kernel
theorem dX2_takeStep_22 : decode cX2_takeStep 22 = .ok (.ifCond .eq 29, 3) := by decide +kernel
theorem dX2_takeStep_25 : decode cX2_takeStep 25 = .ok (.aload_n 0, 1) := by decide +kernel
theorem dX2_takeStep_26 : decode cX2_takeStep 26 = .ok (.getfield 9, 3) := by decide +kernel
theorem dX2_takeStep_29 : decode cX2_takeStep 29 = .ok (.iconst 4, 1) := by decide +kernel
theorem dX2_takeStep_30 : decode cX2_takeStep 30 = .ok (.iand, 1) := by decide +kernel
theorem dX2_takeStep_31 : decode cX2_takeStep 31 = .ok (.ifCond .ne 20, 3) := by decide +kernel
theorem dX2_takeStep_34 : decode cX2_takeStep 34 = .ok (.aload_n 0, 1) := by decide +kernel
theorem dX2_takeStep_35 : decode cX2_takeStep 35 = .ok (.ldc 35, 2) := by decide +kernel
theorem dX2_takeStep_37 : decode cX2_takeStep 37 = .ok (.aload_n 0, 1) := by decide +kernel
theorem dX2_takeStep_38 : decode cX2_takeStep 38 = .ok (.getfield 27, 3) := by decide +kernel
theorem dX2_takeStep_41 : decode cX2_takeStep 41 = .ok (.aload_n 0, 1) := by decide +kernel
theorem dX2_takeStep_42 : decode cX2_takeStep 42 = .ok (.getfield 9, 3) := by decide +kernel
theorem dX2_takeStep_45 : decode cX2_takeStep 45 = .ok (.invokevirtual 31, 3) := by decide +kernel
theorem dX2_takeStep_48 : decode cX2_takeStep 48 = .ok (.bipush 7, 2) := by decide +kernel
theorem dX2_takeStep_50 : decode cX2_takeStep 50 = .ok (.ireturn, 1) := by decide +kernel
theorem dX2_takeStep_51 : decode cX2_takeStep 51 = .ok (.aload_n 0, 1) := by decide +kernel
theorem dX2_takeStep_52 : decode cX2_takeStep 52 = .ok (.getfield 27, 3) := by decide +kernel
theorem dX2_takeStep_55 : decode cX2_takeStep 55 = .ok (.istore_n 3, 1) := by decide +kernel
theorem dX2_takeStep_56 : decode cX2_takeStep 56 = .ok (.aload_n 0, 1) := by decide +kernel
theorem dX2_takeStep_57 : decode cX2_takeStep 57 = .ok (.invokevirtual 36, 3) := by decide +kernel
theorem dX2_takeStep_60 : decode cX2_takeStep 60 = .ok (.sipush 255, 3) := by decide +kernel
theorem dX2_takeStep_63 : decode cX2_takeStep 63 = .ok (.iand, 1) := by decide +kernel
theorem dX2_takeStep_64 : decode cX2_takeStep 64 = .ok (.istore 4, 2) := by decide +kernel
theorem dX2_takeStep_66 : decode cX2_takeStep 66 = .ok (.getstatic 40, 3) := by decide +kernel
theorem dX2_takeStep_69 : decode cX2_takeStep 69 = .ok (.iload 4, 2) := by decide +kernel
theorem dX2_takeStep_71 : decode cX2_takeStep 71 = .ok (.iaload, 1) := by decide +kernel
theorem dX2_takeStep_72 : decode cX2_takeStep 72 = .ok (.istore 5, 2) := by decide +kernel
theorem dX2_takeStep_74 : decode cX2_takeStep 74 = .ok (.iconst 0, 1) := by decide +kernel
theorem dX2_takeStep_75 : decode cX2_takeStep 75 = .ok (.istore 6, 2) := by decide +kernel
theorem dX2_takeStep_77 : decode cX2_takeStep 77 = .ok (.iload 5, 2) := by decide +kernel
theorem dX2_takeStep_79 : decode cX2_takeStep 79 = .ok (.ifCond .ne 11, 3) := by decide +kernel
theorem dX2_takeStep_82 : decode cX2_takeStep 82 = .ok (.aload_n 0, 1) := by decide +kernel
theorem dX2_takeStep_83 : decode cX2_takeStep 83 = .ok (.iload_n 3, 1) := by decide +kernel
theorem dX2_takeStep_84 : decode cX2_takeStep 84 = .ok (.putfield 27, 3) := by decide +kernel
theorem dX2_takeStep_87 : decode cX2_takeStep 87 = .ok (.goto 33, 3) := by decide +kernel
theorem dX2_takeStep_90 : decode cX2_takeStep 90 = .ok (.getstatic 46, 3) := by decide +kernel
theorem dX2_takeStep_93 : decode cX2_takeStep 93 = .ok (.iload 4, 2) := by decide +kernel
theorem dX2_takeStep_95 : decode cX2_takeStep 95 = .ok (.iaload, 1) := by decide +kernel
theorem dX2_takeStep_96 : decode cX2_takeStep 96 = .ok (.istore 7, 2) := by decide +kernel
theorem dX2_takeStep_98 : decode cX2_takeStep 98 = .ok (.aload_n 0, 1) := by decide +kernel
theorem dX2_takeStep_99 : decode cX2_takeStep 99 = .ok (.iload 5, 2) := by decide +kernel
theorem dX2_takeStep_101 : decode cX2_takeStep 101 = .ok (.iload 7, 2) := by decide +kernel
theorem dX2_takeStep_103 : decode cX2_takeStep 103 = .ok (.aload_n 0, 1) := by decide +kernel
theorem dX2_takeStep_104 : decode cX2_takeStep 104 = .ok (.iload 7, 2) := by decide +kernel
theorem dX2_takeStep_106 : decode cX2_takeStep 106 = .ok (.aload_n 0, 1) := by decide +kernel
theorem dX2_takeStep_107 : decode cX2_takeStep 107 = .ok (.iload 7, 2) := by decide +kernel
theorem dX2_takeStep_109 : decode cX2_takeStep 109 = .ok (.invokevirtual 49, 3) := by decide +kernel
theorem dX2_takeStep_112 : decode cX2_takeStep 112 = .ok (.invokevirtual 52, 3) := by decide +kernel
theorem dX2_takeStep_115 : decode cX2_takeStep 115 = .ok (.invokevirtual 56, 3) := by decide +kernel
theorem dX2_takeStep_118 : decode cX2_takeStep 118 = .ok (.istore 6, 2) := by decide +kernel
theorem dX2_takeStep_120 : decode cX2_takeStep 120 = .ok (.getstatic 60, 3) := by decide +kernel
theorem dX2_takeStep_123 : decode cX2_takeStep 123 = .ok (.iload 4, 2) := by decide +kernel
theorem dX2_takeStep_125 : decode cX2_takeStep 125 = .ok (.iaload, 1) := by decide +kernel
theorem dX2_takeStep_126 : decode cX2_takeStep 126 = .ok (.iload 6, 2) := by decide +kernel
theorem dX2_takeStep_128 : decode cX2_takeStep 128 = .ok (.iadd, 1) := by decide +kernel
theorem dX2_takeStep_129 : decode cX2_takeStep 129 = .ok (.ireturn, 1) := by decide +kernel
theorem dX2_fetch_0 : decode cX2_fetch 0 = .ok (.aload_n 0, 1) := by decide +kernel
theorem dX2_fetch_1 : decode cX2_fetch 1 = .ok (.getfield 13, 3) := by decide +kernel
theorem dX2_fetch_4 : decode cX2_fetch 4 = .ok (.aload_n 0, 1) := by decide +kernel
theorem dX2_fetch_5 : decode cX2_fetch 5 = .ok (.getfield 27, 3) := by decide +kernel
theorem dX2_fetch_8 : decode cX2_fetch 8 = .ok (.invokevirtual 63, 3) := by decide +kernel
theorem dX2_fetch_11 : decode cX2_fetch 11 = .ok (.istore_n 1, 1) := by decide +kernel
theorem dX2_fetch_12 : decode cX2_fetch 12 = .ok (.aload_n 0, 1) := by decide +kernel
theorem dX2_fetch_13 : decode cX2_fetch 13 = .ok (.aload_n 0, 1) := by decide +kernel
theorem dX2_fetch_14 : decode cX2_fetch 14 = .ok (.getfield 27, 3) := by decide +kernel
theorem dX2_fetch_17 : decode cX2_fetch 17 = .ok (.iconst 1, 1) := by decide +kernel
theorem dX2_fetch_18 : decode cX2_fetch 18 = .ok (.iadd, 1) := by decide +kernel
theorem dX2_fetch_19 : decode cX2_fetch 19 = .ok (.ldc 66, 2) := by decide +kernel
theorem dX2_fetch_21 : decode cX2_fetch 21 = .ok (.iand, 1) := by decide +kernel
theorem dX2_fetch_22 : decode cX2_fetch 22 = .ok (.putfield 27, 3) := by decide +kernel
theorem dX2_fetch_25 : decode cX2_fetch 25 = .ok (.iload_n 1, 1) := by decide +kernel
theorem dX2_fetch_26 : decode cX2_fetch 26 = .ok (.ireturn, 1) := by decide +kernel
theorem dX2_fetchOperand_0 : decode cX2_fetchOperand 0 = .ok (.iload_n 1, 1) := by decide +kernel
theorem dX2_fetchOperand_1 : decode cX2_fetchOperand 1 = .ok (.iconst 2, 1) := by decide +kernel
theorem dX2_fetchOperand_2 : decode cX2_fetchOperand 2 = .ok (.if_icmp .ge 5, 3) := by decide +kernel
theorem dX2_fetchOperand_5 : decode cX2_fetchOperand 5 = .ok (.iconst 0, 1) := by decide +kernel
theorem dX2_fetchOperand_6 : decode cX2_fetchOperand 6 = .ok (.ireturn, 1) := by decide +kernel
theorem dX2_fetchOperand_7 : decode cX2_fetchOperand 7 = .ok (.aload_n 0, 1) := by decide +kernel
theorem dX2_fetchOperand_8 : decode cX2_fetchOperand 8 = .ok (.invokevirtual 36, 3) := by decide +kernel
theorem dX2_fetchOperand_11 : decode cX2_fetchOperand 11 = .ok (.istore_n 2, 1) := by decide +kernel
theorem dX2_fetchOperand_12 : decode cX2_fetchOperand 12 = .ok (.iload_n 1, 1) := by decide +kernel
theorem dX2_fetchOperand_13 : decode cX2_fetchOperand 13 = .ok (.bipush 9, 2) := by decide +kernel
theorem dX2_fetchOperand_15 : decode cX2_fetchOperand 15 = .ok (.if_icmp .ge 7, 3) := by decide +kernel
theorem dX2_fetchOperand_18 : decode cX2_fetchOperand 18 = .ok (.iload_n 2, 1) := by decide +kernel
theorem dX2_fetchOperand_19 : decode cX2_fetchOperand 19 = .ok (.goto 12, 3) := by decide +kernel
theorem dX2_fetchOperand_22 : decode cX2_fetchOperand 22 = .ok (.iload_n 2, 1) := by decide +kernel
theorem dX2_fetchOperand_23 : decode cX2_fetchOperand 23 = .ok (.aload_n 0, 1) := by decide +kernel
theorem dX2_fetchOperand_24 : decode cX2_fetchOperand 24 = .ok (.invokevirtual 36, 3) := by decide +kernel
theorem dX2_fetchOperand_27 : decode cX2_fetchOperand 27 = .ok (.bipush 8, 2) := by decide +kernel
theorem dX2_fetchOperand_29 : decode cX2_fetchOperand 29 = .ok (.ishl, 1) := by decide +kernel
theorem dX2_fetchOperand_30 : decode cX2_fetchOperand 30 = .ok (.ior, 1) := by decide +kernel
theorem dX2_fetchOperand_31 : decode cX2_fetchOperand 31 = .ok (.ireturn, 1) := by decide +kernel
theorem dX2_addressOf_0 : decode cX2_addressOf 0 = .ok (.aload_n 0, 1) := by decide +kernel
theorem dX2_addressOf_1 : decode cX2_addressOf 1 = .ok (.iconst 0, 1) := by decide +kernel
theorem dX2_addressOf_2 : decode cX2_addressOf 2 = .ok (.putfield 67, 3) := by decide +kernel
theorem dX2_addressOf_5 : decode cX2_addressOf 5 = .ok (.iload_n 1, 1) := by decide +kernel
theorem dX2_addressOf_6 : decode cX2_addressOf 6 = .ok (.tableswitch 138 4 12 #[50, 61, 72, 87, 101, 138, 112, 122, 132], 50) := by decide +kernel
theorem dX2_addressOf_56 : decode cX2_addressOf 56 = .ok (.iload_n 2, 1) := by decide +kernel
theorem dX2_addressOf_57 : decode cX2_addressOf 57 = .ok (.aload_n 0, 1) := by decide +kernel
theorem dX2_addressOf_58 : decode cX2_addressOf 58 = .ok (.getfield 70, 3) := by decide +kernel
theorem dX2_addressOf_61 : decode cX2_addressOf 61 = .ok (.iadd, 1) := by decide +kernel
theorem dX2_addressOf_62 : decode cX2_addressOf 62 = .ok (.sipush 255, 3) := by decide +kernel
theorem dX2_addressOf_65 : decode cX2_addressOf 65 = .ok (.iand, 1) := by decide +kernel
theorem dX2_addressOf_66 : decode cX2_addressOf 66 = .ok (.ireturn, 1) := by decide +kernel
theorem dX2_addressOf_67 : decode cX2_addressOf 67 = .ok (.iload_n 2, 1) := by decide +kernel
theorem dX2_addressOf_68 : decode cX2_addressOf 68 = .ok (.aload_n 0, 1) := by decide +kernel
theorem dX2_addressOf_69 : decode cX2_addressOf 69 = .ok (.getfield 73, 3) := by decide +kernel
theorem dX2_addressOf_72 : decode cX2_addressOf 72 = .ok (.iadd, 1) := by decide +kernel
theorem dX2_addressOf_73 : decode cX2_addressOf 73 = .ok (.sipush 255, 3) := by decide +kernel
theorem dX2_addressOf_76 : decode cX2_addressOf 76 = .ok (.iand, 1) := by decide +kernel
theorem dX2_addressOf_77 : decode cX2_addressOf 77 = .ok (.ireturn, 1) := by decide +kernel
theorem dX2_addressOf_78 : decode cX2_addressOf 78 = .ok (.aload_n 0, 1) := by decide +kernel
theorem dX2_addressOf_79 : decode cX2_addressOf 79 = .ok (.iload_n 2, 1) := by decide +kernel
theorem dX2_addressOf_80 : decode cX2_addressOf 80 = .ok (.aload_n 0, 1) := by decide +kernel
theorem dX2_addressOf_81 : decode cX2_addressOf 81 = .ok (.getfield 70, 3) := by decide +kernel
theorem dX2_addressOf_84 : decode cX2_addressOf 84 = .ok (.iadd, 1) := by decide +kernel
theorem dX2_addressOf_85 : decode cX2_addressOf 85 = .ok (.sipush 255, 3) := by decide +kernel
theorem dX2_addressOf_88 : decode cX2_addressOf 88 = .ok (.iand, 1) := by decide +kernel
theorem dX2_addressOf_89 : decode cX2_addressOf 89 = .ok (.invokevirtual 76, 3) := by decide +kernel
theorem dX2_addressOf_92 : decode cX2_addressOf 92 = .ok (.ireturn, 1) := by decide +kernel
theorem dX2_addressOf_93 : decode cX2_addressOf 93 = .ok (.aload_n 0, 1) := by decide +kernel
theorem dX2_addressOf_94 : decode cX2_addressOf 94 = .ok (.aload_n 0, 1) := by decide +kernel
theorem dX2_addressOf_95 : decode cX2_addressOf 95 = .ok (.iload_n 2, 1) := by decide +kernel
theorem dX2_addressOf_96 : decode cX2_addressOf 96 = .ok (.invokevirtual 76, 3) := by decide +kernel
theorem dX2_addressOf_99 : decode cX2_addressOf 99 = .ok (.aload_n 0, 1) := by decide +kernel
theorem dX2_addressOf_100 : decode cX2_addressOf 100 = .ok (.getfield 73, 3) := by decide +kernel
theorem dX2_addressOf_103 : decode cX2_addressOf 103 = .ok (.invokevirtual 79, 3) := by decide +kernel
theorem dX2_addressOf_106 : decode cX2_addressOf 106 = .ok (.ireturn, 1) := by decide +kernel
theorem dX2_addressOf_107 : decode cX2_addressOf 107 = .ok (.aload_n 0, 1) := by decide +kernel
theorem dX2_addressOf_108 : decode cX2_addressOf 108 = .ok (.getfield 27, 3) := by decide +kernel
theorem dX2_addressOf_111 : decode cX2_addressOf 111 = .ok (.iload_n 2, 1) := by decide +kernel
theorem dX2_addressOf_112 : decode cX2_addressOf 112 = .ok (.i2b, 1) := by decide +kernel
theorem dX2_addressOf_113 : decode cX2_addressOf 113 = .ok (.iadd, 1) := by decide +kernel
theorem dX2_addressOf_114 : decode cX2_addressOf 114 = .ok (.ldc 66, 2) := by decide +kernel
theorem dX2_addressOf_116 : decode cX2_addressOf 116 = .ok (.iand, 1) := by decide +kernel
theorem dX2_addressOf_117 : decode cX2_addressOf 117 = .ok (.ireturn, 1) := by decide +kernel
theorem dX2_addressOf_118 : decode cX2_addressOf 118 = .ok (.aload_n 0, 1) := by decide +kernel
theorem dX2_addressOf_119 : decode cX2_addressOf 119 = .ok (.iload_n 2, 1) := by decide +kernel
theorem dX2_addressOf_120 : decode cX2_addressOf 120 = .ok (.aload_n 0, 1) := by decide +kernel
theorem dX2_addressOf_121 : decode cX2_addressOf 121 = .ok (.getfield 70, 3) := by decide +kernel
theorem dX2_addressOf_124 : decode cX2_addressOf 124 = .ok (.invokevirtual 79, 3) := by decide +kernel
theorem dX2_addressOf_127 : decode cX2_addressOf 127 = .ok (.ireturn, 1) := by decide +kernel
theorem dX2_addressOf_128 : decode cX2_addressOf 128 = .ok (.aload_n 0, 1) := by decide +kernel
theorem dX2_addressOf_129 : decode cX2_addressOf 129 = .ok (.iload_n 2, 1) := by decide +kernel
theorem dX2_addressOf_130 : decode cX2_addressOf 130 = .ok (.aload_n 0, 1) := by decide +kernel
theorem dX2_addressOf_131 : decode cX2_addressOf 131 = .ok (.getfield 73, 3) := by decide +kernel
theorem dX2_addressOf_134 : decode cX2_addressOf 134 = .ok (.invokevirtual 79, 3) := by decide +kernel
theorem dX2_addressOf_137 : decode cX2_addressOf 137 = .ok (.ireturn, 1) := by decide +kernel
theorem dX2_addressOf_138 : decode cX2_addressOf 138 = .ok (.aload_n 0, 1) := by decide +kernel
theorem dX2_addressOf_139 : decode cX2_addressOf 139 = .ok (.iload_n 2, 1) := by decide +kernel
theorem dX2_addressOf_140 : decode cX2_addressOf 140 = .ok (.invokevirtual 76, 3) := by decide +kernel
theorem dX2_addressOf_143 : decode cX2_addressOf 143 = .ok (.ireturn, 1) := by decide +kernel
theorem dX2_addressOf_144 : decode cX2_addressOf 144 = .ok (.iload_n 2, 1) := by decide +kernel
theorem dX2_addressOf_145 : decode cX2_addressOf 145 = .ok (.ireturn, 1) := by decide +kernel
theorem dX2_wordWithinPage_0 : decode cX2_wordWithinPage 0 = .ok (.aload_n 0, 1) := by decide +kernel
theorem dX2_wordWithinPage_1 : decode cX2_wordWithinPage 1 = .ok (.getfield 13, 3) := by decide +kernel
theorem dX2_wordWithinPage_4 : decode cX2_wordWithinPage 4 = .ok (.iload_n 1, 1) := by decide +kernel
theorem dX2_wordWithinPage_5 : decode cX2_wordWithinPage 5 = .ok (.invokevirtual 63, 3) := by decide +kernel
theorem dX2_wordWithinPage_8 : decode cX2_wordWithinPage 8 = .ok (.istore_n 2, 1) := by decide +kernel
theorem dX2_wordWithinPage_9 : decode cX2_wordWithinPage 9 = .ok (.iload_n 2, 1) := by decide +kernel
theorem dX2_wordWithinPage_10 : decode cX2_wordWithinPage 10 = .ok (.aload_n 0, 1) := by decide +kernel
theorem dX2_wordWithinPage_11 : decode cX2_wordWithinPage 11 = .ok (.getfield 13, 3) := by decide +kernel
theorem dX2_wordWithinPage_14 : decode cX2_wordWithinPage 14 = .ok (.iload_n 1, 1) := by decide +kernel
theorem dX2_wordWithinPage_15 : decode cX2_wordWithinPage 15 = .ok (.ldc 82, 2) := by decide +kernel
theorem dX2_wordWithinPage_17 : decode cX2_wordWithinPage 17 = .ok (.iand, 1) := by decide +kernel
theorem dX2_wordWithinPage_18 : decode cX2_wordWithinPage 18 = .ok (.iload_n 1, 1) := by decide +kernel
theorem dX2_wordWithinPage_19 : decode cX2_wordWithinPage 19 = .ok (.iconst 1, 1) := by decide +kernel
theorem dX2_wordWithinPage_20 : decode cX2_wordWithinPage 20 = .ok (.iadd, 1) := by decide +kernel
theorem dX2_wordWithinPage_21 : decode cX2_wordWithinPage 21 = .ok (.sipush 255, 3) := by decide +kernel
theorem dX2_wordWithinPage_24 : decode cX2_wordWithinPage 24 = .ok (.iand, 1) := by decide +kernel
theorem dX2_wordWithinPage_25 : decode cX2_wordWithinPage 25 = .ok (.ior, 1) := by decide +kernel
theorem dX2_wordWithinPage_26 : decode cX2_wordWithinPage 26 = .ok (.invokevirtual 63, 3) := by decide +kernel
theorem dX2_wordWithinPage_29 : decode cX2_wordWithinPage 29 = .ok (.bipush 8, 2) := by decide +kernel
theorem dX2_wordWithinPage_31 : decode cX2_wordWithinPage 31 = .ok (.ishl, 1) := by decide +kernel
theorem dX2_wordWithinPage_32 : decode cX2_wordWithinPage 32 = .ok (.ior, 1) := by decide +kernel
theorem dX2_wordWithinPage_33 : decode cX2_wordWithinPage 33 = .ok (.ireturn, 1) := by decide +kernel
theorem dX2_indexed_0 : decode cX2_indexed 0 = .ok (.iload_n 1, 1) := by decide +kernel
theorem dX2_indexed_1 : decode cX2_indexed 1 = .ok (.iload_n 2, 1) := by decide +kernel
theorem dX2_indexed_2 : decode cX2_indexed 2 = .ok (.iadd, 1) := by decide +kernel
theorem dX2_indexed_3 : decode cX2_indexed 3 = .ok (.ldc 66, 2) := by decide +kernel
theorem dX2_indexed_5 : decode cX2_indexed 5 = .ok (.iand, 1) := by decide +kernel
theorem dX2_indexed_6 : decode cX2_indexed 6 = .ok (.istore_n 3, 1) := by decide +kernel
theorem dX2_indexed_7 : decode cX2_indexed 7 = .ok (.aload_n 0, 1) := by decide +kernel
theorem dX2_indexed_8 : decode cX2_indexed 8 = .ok (.iload_n 1, 1) := by decide +kernel
theorem dX2_indexed_9 : decode cX2_indexed 9 = .ok (.iload_n 3, 1) := by decide +kernel
theorem dX2_indexed_10 : decode cX2_indexed 10 = .ok (.invokestatic 83, 3) := by decide +kernel
theorem dX2_indexed_13 : decode cX2_indexed 13 = .ok (.putfield 67, 3) := by decide +kernel
theorem dX2_indexed_16 : decode cX2_indexed 16 = .ok (.iload_n 3, 1) := by decide +kernel
theorem dX2_indexed_17 : decode cX2_indexed 17 = .ok (.ireturn, 1) := by decide +kernel
theorem dX2_otherPage_0 : decode cX2_otherPage 0 = .ok (.iload_n 0, 1) := by decide +kernel
theorem dX2_otherPage_1 : decode cX2_otherPage 1 = .ok (.ldc 82, 2) := by decide +kernel
theorem dX2_otherPage_3 : decode cX2_otherPage 3 = .ok (.iand, 1) := by decide +kernel
theorem dX2_otherPage_4 : decode cX2_otherPage 4 = .ok (.iload_n 1, 1) := by decide +kernel
theorem dX2_otherPage_5 : decode cX2_otherPage 5 = .ok (.ldc 82, 2) := by decide +kernel
theorem dX2_otherPage_7 : decode cX2_otherPage 7 = .ok (.iand, 1) := by decide +kernel
theorem dX2_otherPage_8 : decode cX2_otherPage 8 = .ok (.if_icmp .ne 7, 3) := by decide +kernel
theorem dX2_otherPage_11 : decode cX2_otherPage 11 = .ok (.iconst 0, 1) := by decide +kernel
theorem dX2_otherPage_12 : decode cX2_otherPage 12 = .ok (.goto 4, 3) := by decide +kernel
theorem dX2_otherPage_15 : decode cX2_otherPage 15 = .ok (.iconst 1, 1) := by decide +kernel
theorem dX2_otherPage_16 : decode cX2_otherPage 16 = .ok (.ireturn, 1) := by decide +kernel
theorem dX2_perform_0 : decode cX2_perform 0 = .ok (.iconst 0, 1) := by decide +kernel
theorem dX2_perform_1 : decode cX2_perform 1 = .ok (.istore 4, 2) := by decide +kernel
theorem dX2_perform_3 : decode cX2_perform 3 = .ok (.iload_n 1, 1) := by decide +kernel
theorem dX2_perform_4 : decode cX2_perform 4 = .ok (.bipush 12, 2) := by decide +kernel
theorem dX2_perform_6 : decode cX2_perform 6 = .ok (.if_icmp .gt 34, 3) := by decide +kernel
theorem dX2_perform_9 : decode cX2_perform 9 = .ok (.aload_n 0, 1) := by decide +kernel
theorem dX2_perform_10 : decode cX2_perform 10 = .ok (.iload_n 1, 1) := by decide +kernel
theorem dX2_perform_11 : decode cX2_perform 11 = .ok (.iload_n 2, 1) := by decide +kernel
theorem dX2_perform_12 : decode cX2_perform 12 = .ok (.iconst 2, 1) := by decide +kernel
theorem dX2_perform_13 : decode cX2_perform 13 = .ok (.if_icmp .ne 7, 3) := by decide +kernel
theorem dX2_perform_16 : decode cX2_perform 16 = .ok (.iload_n 3, 1) := by decide +kernel
theorem dX2_perform_17 : decode cX2_perform 17 = .ok (.goto 11, 3) := by decide +kernel
theorem dX2_perform_20 : decode cX2_perform 20 = .ok (.aload_n 0, 1) := by decide +kernel
theorem dX2_perform_21 : decode cX2_perform 21 = .ok (.getfield 13, 3) := by decide +kernel
theorem dX2_perform_24 : decode cX2_perform 24 = .ok (.iload_n 3, 1) := by decide +kernel
theorem dX2_perform_25 : decode cX2_perform 25 = .ok (.invokevirtual 63, 3) := by decide +kernel
theorem dX2_perform_28 : decode cX2_perform 28 = .ok (.invokevirtual 86, 3) := by decide +kernel
theorem dX2_perform_31 : decode cX2_perform 31 = .ok (.aload_n 0, 1) := by decide +kernel
theorem dX2_perform_32 : decode cX2_perform 32 = .ok (.getfield 67, 3) := by decide +kernel
theorem dX2_perform_35 : decode cX2_perform 35 = .ok (.istore 4, 2) := by decide +kernel
theorem dX2_perform_37 : decode cX2_perform 37 = .ok (.goto 106, 3) := by decide +kernel
theorem dX2_perform_40 : decode cX2_perform 40 = .ok (.iload_n 1, 1) := by decide +kernel
theorem dX2_perform_41 : decode cX2_perform 41 = .ok (.bipush 15, 2) := by decide +kernel
theorem dX2_perform_43 : decode cX2_perform 43 = .ok (.if_icmp .gt 19, 3) := by decide +kernel
theorem dX2_perform_46 : decode cX2_perform 46 = .ok (.aload_n 0, 1) := by decide +kernel
theorem dX2_perform_47 : decode cX2_perform 47 = .ok (.getfield 13, 3) := by decide +kernel
theorem dX2_perform_50 : decode cX2_perform 50 = .ok (.iload_n 3, 1) := by decide +kernel
theorem dX2_perform_51 : decode cX2_perform 51 = .ok (.aload_n 0, 1) := by decide +kernel
theorem dX2_perform_52 : decode cX2_perform 52 = .ok (.iload_n 1, 1) := by decide +kernel
theorem dX2_perform_53 : decode cX2_perform 53 = .ok (.invokevirtual 90, 3) := by decide +kernel
theorem dX2_perform_56 : decode cX2_perform 56 = .ok (.invokevirtual 93, 3) := by decide +kernel
theorem dX2_perform_59 : decode cX2_perform 59 = .ok (.goto 84, 3) := by decide +kernel
theorem dX2_perform_62 : decode cX2_perform 62 = .ok (.iload_n 1, 1) := by decide +kernel
theorem dX2_perform_63 : decode cX2_perform 63 = .ok (.bipush 21, 2) := by decide +kernel
theorem dX2_perform_65 : decode cX2_perform 65 = .ok (.if_icmp .gt 13, 3) := by decide +kernel
theorem dX2_perform_68 : decode cX2_perform 68 = .ok (.aload_n 0, 1) := by decide +kernel
theorem dX2_perform_69 : decode cX2_perform 69 = .ok (.iload_n 1, 1) := by decide +kernel
theorem dX2_perform_70 : decode cX2_perform 70 = .ok (.iload_n 2, 1) := by decide +kernel
theorem dX2_perform_71 : decode cX2_perform 71 = .ok (.iload_n 3, 1) := by decide +kernel
theorem dX2_perform_72 : decode cX2_perform 72 = .ok (.invokevirtual 96, 3) := by decide +kernel
theorem dX2_perform_75 : decode cX2_perform 75 = .ok (.goto 68, 3) := by decide +kernel
theorem dX2_perform_78 : decode cX2_perform 78 = .ok (.iload_n 1, 1) := by decide +kernel
theorem dX2_perform_79 : decode cX2_perform 79 = .ok (.bipush 29, 2) := by decide +kernel
theorem dX2_perform_81 : decode cX2_perform 81 = .ok (.if_icmp .gt 14, 3) := by decide +kernel
theorem dX2_perform_84 : decode cX2_perform 84 = .ok (.aload_n 0, 1) := by decide +kernel
theorem dX2_perform_85 : decode cX2_perform 85 = .ok (.iload_n 1, 1) := by decide +kernel
theorem dX2_perform_86 : decode cX2_perform 86 = .ok (.iload_n 3, 1) := by decide +kernel
theorem dX2_perform_87 : decode cX2_perform 87 = .ok (.invokevirtual 99, 3) := by decide +kernel
theorem dX2_perform_90 : decode cX2_perform 90 = .ok (.istore 4, 2) := by decide +kernel
theorem dX2_perform_92 : decode cX2_perform 92 = .ok (.goto 51, 3) := by decide +kernel
theorem dX2_perform_95 : decode cX2_perform 95 = .ok (.iload_n 1, 1) := by decide +kernel
theorem dX2_perform_96 : decode cX2_perform 96 = .ok (.bipush 39, 2) := by decide +kernel
theorem dX2_perform_98 : decode cX2_perform 98 = .ok (.if_icmp .gt 11, 3) := by decide +kernel
theorem dX2_perform_101 : decode cX2_perform 101 = .ok (.aload_n 0, 1) := by decide +kernel
theorem dX2_perform_102 : decode cX2_perform 102 = .ok (.iload_n 1, 1) := by decide +kernel
theorem dX2_perform_103 : decode cX2_perform 103 = .ok (.invokevirtual 102, 3) := by decide +kernel
theorem dX2_perform_106 : decode cX2_perform 106 = .ok (.goto 37, 3) := by decide +kernel
theorem dX2_perform_109 : decode cX2_perform 109 = .ok (.iload_n 1, 1) := by decide +kernel
theorem dX2_perform_110 : decode cX2_perform 110 = .ok (.bipush 47, 2) := by decide +kernel
theorem dX2_perform_112 : decode cX2_perform 112 = .ok (.if_icmp .gt 11, 3) := by decide +kernel
theorem dX2_perform_115 : decode cX2_perform 115 = .ok (.aload_n 0, 1) := by decide +kernel
theorem dX2_perform_116 : decode cX2_perform 116 = .ok (.iload_n 1, 1) := by decide +kernel
theorem dX2_perform_117 : decode cX2_perform 117 = .ok (.invokevirtual 106, 3) := by decide +kernel
theorem dX2_perform_120 : decode cX2_perform 120 = .ok (.goto 23, 3) := by decide +kernel
theorem dX2_perform_123 : decode cX2_perform 123 = .ok (.iload_n 1, 1) := by decide +kernel
theorem dX2_perform_124 : decode cX2_perform 124 = .ok (.bipush 51, 2) := by decide +kernel
theorem dX2_perform_126 : decode cX2_perform 126 = .ok (.if_icmp .gt 11, 3) := by decide +kernel
theorem dX2_perform_129 : decode cX2_perform 129 = .ok (.aload_n 0, 1) := by decide +kernel
theorem dX2_perform_130 : decode cX2_perform 130 = .ok (.iload_n 1, 1) := by decide +kernel
theorem dX2_perform_131 : decode cX2_perform 131 = .ok (.invokevirtual 109, 3) := by decide +kernel
theorem dX2_perform_134 : decode cX2_perform 134 = .ok (.goto 9, 3) := by decide +kernel
theorem dX2_perform_137 : decode cX2_perform 137 = .ok (.aload_n 0, 1) := by decide +kernel
theorem dX2_perform_138 : decode cX2_perform 138 = .ok (.iload_n 1, 1) := by decide +kernel
theorem dX2_perform_139 : decode cX2_perform 139 = .ok (.iload_n 3, 1) := by decide +kernel
theorem dX2_perform_140 : decode cX2_perform 140 = .ok (.invokevirtual 112, 3) := by decide +kernel
theorem dX2_perform_143 : decode cX2_perform 143 = .ok (.iload 4, 2) := by decide +kernel
theorem dX2_perform_145 : decode cX2_perform 145 = .ok (.ireturn, 1) := by decide +kernel
theorem dX2_combine_0 : decode cX2_combine 0 = .ok (.iload_n 1, 1) := by decide +kernel
theorem dX2_combine_1 : decode cX2_combine 1 = .ok (.tableswitch 202 1 11 #[59, 71, 83, 95, 103, 115, 132, 149, 166, 178, 190], 59) := by decide +kernel
theorem dX2_combine_60 : decode cX2_combine 60 = .ok (.aload_n 0, 1) := by decide +kernel
theorem dX2_combine_61 : decode cX2_combine 61 = .ok (.aload_n 0, 1) := by decide +kernel
theorem dX2_combine_62 : decode cX2_combine 62 = .ok (.iload_n 2, 1) := by decide +kernel
theorem dX2_combine_63 : decode cX2_combine 63 = .ok (.invokevirtual 115, 3) := by decide +kernel
theorem dX2_combine_66 : decode cX2_combine 66 = .ok (.putfield 118, 3) := by decide +kernel
theorem dX2_combine_69 : decode cX2_combine 69 = .ok (.goto 139, 3) := by decide +kernel
theorem dX2_combine_72 : decode cX2_combine 72 = .ok (.aload_n 0, 1) := by decide +kernel
theorem dX2_combine_73 : decode cX2_combine 73 = .ok (.aload_n 0, 1) := by decide +kernel
theorem dX2_combine_74 : decode cX2_combine 74 = .ok (.iload_n 2, 1) := by decide +kernel
theorem dX2_combine_75 : decode cX2_combine 75 = .ok (.invokevirtual 115, 3) := by decide +kernel
theorem dX2_combine_78 : decode cX2_combine 78 = .ok (.putfield 70, 3) := by decide +kernel
theorem dX2_combine_81 : decode cX2_combine 81 = .ok (.goto 127, 3) := by decide +kernel
theorem dX2_combine_84 : decode cX2_combine 84 = .ok (.aload_n 0, 1) := by decide +kernel
theorem dX2_combine_85 : decode cX2_combine 85 = .ok (.aload_n 0, 1) := by decide +kernel
theorem dX2_combine_86 : decode cX2_combine 86 = .ok (.iload_n 2, 1) := by decide +kernel
theorem dX2_combine_87 : decode cX2_combine 87 = .ok (.invokevirtual 115, 3) := by decide +kernel
theorem dX2_combine_90 : decode cX2_combine 90 = .ok (.putfield 73, 3) := by decide +kernel
theorem dX2_combine_93 : decode cX2_combine 93 = .ok (.goto 115, 3) := by decide +kernel
theorem dX2_combine_96 : decode cX2_combine 96 = .ok (.aload_n 0, 1) := by decide +kernel
theorem dX2_combine_97 : decode cX2_combine 97 = .ok (.iload_n 2, 1) := by decide +kernel
theorem dX2_combine_98 : decode cX2_combine 98 = .ok (.invokevirtual 121, 3) := by decide +kernel
theorem dX2_combine_101 : decode cX2_combine 101 = .ok (.goto 107, 3) := by decide +kernel
theorem dX2_combine_104 : decode cX2_combine 104 = .ok (.aload_n 0, 1) := by decide +kernel
theorem dX2_combine_105 : decode cX2_combine 105 = .ok (.iload_n 2, 1) := by decide +kernel
theorem dX2_combine_106 : decode cX2_combine 106 = .ok (.sipush 255, 3) := by decide +kernel
theorem dX2_combine_109 : decode cX2_combine 109 = .ok (.ixor, 1) := by decide +kernel
theorem dX2_combine_110 : decode cX2_combine 110 = .ok (.invokevirtual 121, 3) := by decide +kernel
theorem dX2_combine_113 : decode cX2_combine 113 = .ok (.goto 95, 3) := by decide +kernel
theorem dX2_combine_116 : decode cX2_combine 116 = .ok (.aload_n 0, 1) := by decide +kernel
theorem dX2_combine_117 : decode cX2_combine 117 = .ok (.aload_n 0, 1) := by decide +kernel
theorem dX2_combine_118 : decode cX2_combine 118 = .ok (.aload_n 0, 1) := by decide +kernel
theorem dX2_combine_119 : decode cX2_combine 119 = .ok (.getfield 118, 3) := by decide +kernel
theorem dX2_combine_122 : decode cX2_combine 122 = .ok (.iload_n 2, 1) := by decide +kernel
theorem dX2_combine_123 : decode cX2_combine 123 = .ok (.iand, 1) := by decide +kernel
theorem dX2_combine_124 : decode cX2_combine 124 = .ok (.invokevirtual 115, 3) := by decide +kernel
theorem dX2_combine_127 : decode cX2_combine 127 = .ok (.putfield 118, 3) := by decide +kernel
theorem dX2_combine_130 : decode cX2_combine 130 = .ok (.goto 78, 3) := by decide +kernel
theorem dX2_combine_133 : decode cX2_combine 133 = .ok (.aload_n 0, 1) := by decide +kernel
theorem dX2_combine_134 : decode cX2_combine 134 = .ok (.aload_n 0, 1) := by decide +kernel
theorem dX2_combine_135 : decode cX2_combine 135 = .ok (.aload_n 0, 1) := by decide +kernel
theorem dX2_combine_136 : decode cX2_combine 136 = .ok (.getfield 118, 3) := by decide +kernel
theorem dX2_combine_139 : decode cX2_combine 139 = .ok (.iload_n 2, 1) := by decide +kernel
theorem dX2_combine_140 : decode cX2_combine 140 = .ok (.ior, 1) := by decide +kernel
theorem dX2_combine_141 : decode cX2_combine 141 = .ok (.invokevirtual 115, 3) := by decide +kernel
theorem dX2_combine_144 : decode cX2_combine 144 = .ok (.putfield 118, 3) := by decide +kernel
theorem dX2_combine_147 : decode cX2_combine 147 = .ok (.goto 61, 3) := by decide +kernel
theorem dX2_combine_150 : decode cX2_combine 150 = .ok (.aload_n 0, 1) := by decide +kernel
theorem dX2_combine_151 : decode cX2_combine 151 = .ok (.aload_n 0, 1) := by decide +kernel
theorem dX2_combine_152 : decode cX2_combine 152 = .ok (.aload_n 0, 1) := by decide +kernel
theorem dX2_combine_153 : decode cX2_combine 153 = .ok (.getfield 118, 3) := by decide +kernel
theorem dX2_combine_156 : decode cX2_combine 156 = .ok (.iload_n 2, 1) := by decide +kernel
theorem dX2_combine_157 : decode cX2_combine 157 = .ok (.ixor, 1) := by decide +kernel
theorem dX2_combine_158 : decode cX2_combine 158 = .ok (.invokevirtual 115, 3) := by decide +kernel
theorem dX2_combine_161 : decode cX2_combine 161 = .ok (.putfield 118, 3) := by decide +kernel
theorem dX2_combine_164 : decode cX2_combine 164 = .ok (.goto 44, 3) := by decide +kernel
theorem dX2_combine_167 : decode cX2_combine 167 = .ok (.aload_n 0, 1) := by decide +kernel
theorem dX2_combine_168 : decode cX2_combine 168 = .ok (.aload_n 0, 1) := by decide +kernel
theorem dX2_combine_169 : decode cX2_combine 169 = .ok (.getfield 118, 3) := by decide +kernel
theorem dX2_combine_172 : decode cX2_combine 172 = .ok (.iload_n 2, 1) := by decide +kernel
theorem dX2_combine_173 : decode cX2_combine 173 = .ok (.invokevirtual 124, 3) := by decide +kernel
theorem dX2_combine_176 : decode cX2_combine 176 = .ok (.goto 32, 3) := by decide +kernel
theorem dX2_combine_179 : decode cX2_combine 179 = .ok (.aload_n 0, 1) := by decide +kernel
theorem dX2_combine_180 : decode cX2_combine 180 = .ok (.aload_n 0, 1) := by decide +kernel
theorem dX2_combine_181 : decode cX2_combine 181 = .ok (.getfield 70, 3) := by decide +kernel
theorem dX2_combine_184 : decode cX2_combine 184 = .ok (.iload_n 2, 1) := by decide +kernel
theorem dX2_combine_185 : decode cX2_combine 185 = .ok (.invokevirtual 124, 3) := by decide +kernel
theorem dX2_combine_188 : decode cX2_combine 188 = .ok (.goto 20, 3) := by decide +kernel
theorem dX2_combine_191 : decode cX2_combine 191 = .ok (.aload_n 0, 1) := by decide +kernel
theorem dX2_combine_192 : decode cX2_combine 192 = .ok (.aload_n 0, 1) := by decide +kernel
theorem dX2_combine_193 : decode cX2_combine 193 = .ok (.getfield 73, 3) := by decide +kernel
theorem dX2_combine_196 : decode cX2_combine 196 = .ok (.iload_n 2, 1) := by decide +kernel
theorem dX2_combine_197 : decode cX2_combine 197 = .ok (.invokevirtual 124, 3) := by decide +kernel
theorem dX2_combine_200 : decode cX2_combine 200 = .ok (.goto 8, 3) := by decide +kernel
theorem dX2_combine_203 : decode cX2_combine 203 = .ok (.aload_n 0, 1) := by decide +kernel
theorem dX2_combine_204 : decode cX2_combine 204 = .ok (.iload_n 2, 1) := by decide +kernel
theorem dX2_combine_205 : decode cX2_combine 205 = .ok (.invokevirtual 127, 3) := by decide +kernel
theorem dX2_combine_208 : decode cX2_combine 208 = .ok (.return_, 1) := by decide +kernel
theorem dX2_add_0 : decode cX2_add 0 = .ok (.aload_n 0, 1) := by decide +kernel
theorem dX2_add_1 : decode cX2_add 1 = .ok (.getfield 118, 3) := by decide +kernel
theorem dX2_add_4 : decode cX2_add 4 = .ok (.iload_n 1, 1) := by decide +kernel
theorem dX2_add_5 : decode cX2_add 5 = .ok (.iadd, 1) := by decide +kernel
theorem dX2_add_6 : decode cX2_add 6 = .ok (.aload_n 0, 1) := by decide +kernel
theorem dX2_add_7 : decode cX2_add 7 = .ok (.getfield 9, 3) := by decide +kernel
theorem dX2_add_10 : decode cX2_add 10 = .ok (.iconst 1, 1) := by decide +kernel
theorem dX2_add_11 : decode cX2_add 11 = .ok (.iand, 1) := by decide +kernel
theorem dX2_add_12 : decode cX2_add 12 = .ok (.iadd, 1) := by decide +kernel
theorem dX2_add_13 : decode cX2_add 13 = .ok (.istore_n 2, 1) := by decide +kernel
theorem dX2_add_14 : decode cX2_add 14 = .ok (.aload_n 0, 1) := by decide +kernel
theorem dX2_add_15 : decode cX2_add 15 = .ok (.iconst 1, 1) := by decide +kernel
theorem dX2_add_16 : decode cX2_add 16 = .ok (.iload_n 2, 1) := by decide +kernel
theorem dX2_add_17 : decode cX2_add 17 = .ok (.sipush 255, 3) := by decide +kernel
theorem dX2_add_20 : decode cX2_add 20 = .ok (.if_icmp .le 7, 3) := by decide +kernel
theorem dX2_add_23 : decode cX2_add 23 = .ok (.iconst 1, 1) := by decide +kernel
theorem dX2_add_24 : decode cX2_add 24 = .ok (.goto 4, 3) := by decide +kernel
theorem dX2_add_27 : decode cX2_add 27 = .ok (.iconst 0, 1) := by decide +kernel
theorem dX2_add_28 : decode cX2_add 28 = .ok (.invokevirtual 130, 3) := by decide +kernel
theorem dX2_add_31 : decode cX2_add 31 = .ok (.aload_n 0, 1) := by decide +kernel
theorem dX2_add_32 : decode cX2_add 32 = .ok (.bipush 64, 2) := by decide +kernel
theorem dX2_add_34 : decode cX2_add 34 = .ok (.aload_n 0, 1) := by decide +kernel
theorem dX2_add_35 : decode cX2_add 35 = .ok (.getfield 118, 3) := by decide +kernel
theorem dX2_add_38 : decode cX2_add 38 = .ok (.iload_n 2, 1) := by decide +kernel
theorem dX2_add_39 : decode cX2_add 39 = .ok (.ixor, 1) := by decide +kernel
theorem dX2_add_40 : decode cX2_add 40 = .ok (.iload_n 1, 1) := by decide +kernel
theorem dX2_add_41 : decode cX2_add 41 = .ok (.iload_n 2, 1) := by decide +kernel
theorem dX2_add_42 : decode cX2_add 42 = .ok (.ixor, 1) := by decide +kernel
theorem dX2_add_43 : decode cX2_add 43 = .ok (.iand, 1) := by decide +kernel
theorem dX2_add_44 : decode cX2_add 44 = .ok (.sipush 128, 3) := by decide +kernel
theorem dX2_add_47 : decode cX2_add 47 = .ok (.iand, 1) := by decide +kernel
theorem dX2_add_48 : decode cX2_add 48 = .ok (.ifCond .eq 7, 3) := by decide +kernel
theorem dX2_add_51 : decode cX2_add 51 = .ok (.iconst 1, 1) := by decide +kernel
theorem dX2_add_52 : decode cX2_add 52 = .ok (.goto 4, 3) := by decide +kernel
theorem dX2_add_55 : decode cX2_add 55 = .ok (.iconst 0, 1) := by decide +kernel
theorem dX2_add_56 : decode cX2_add 56 = .ok (.invokevirtual 130, 3) := by decide +kernel
theorem dX2_add_59 : decode cX2_add 59 = .ok (.aload_n 0, 1) := by decide +kernel
theorem dX2_add_60 : decode cX2_add 60 = .ok (.aload_n 0, 1) := by decide +kernel
theorem dX2_add_61 : decode cX2_add 61 = .ok (.iload_n 2, 1) := by decide +kernel
theorem dX2_add_62 : decode cX2_add 62 = .ok (.invokevirtual 115, 3) := by decide +kernel
theorem dX2_add_65 : decode cX2_add 65 = .ok (.putfield 118, 3) := by decide +kernel
theorem dX2_add_68 : decode cX2_add 68 = .ok (.return_, 1) := by decide +kernel
theorem dX2_compare_0 : decode cX2_compare 0 = .ok (.aload_n 0, 1) := by decide +kernel
theorem dX2_compare_1 : decode cX2_compare 1 = .ok (.iconst 1, 1) := by decide +kernel
theorem dX2_compare_2 : decode cX2_compare 2 = .ok (.iload_n 1, 1) := by decide +kernel
theorem dX2_compare_3 : decode cX2_compare 3 = .ok (.iload_n 2, 1) := by decide +kernel
theorem dX2_compare_4 : decode cX2_compare 4 = .ok (.if_icmp .lt 7, 3) := by decide +kernel
theorem dX2_compare_7 : decode cX2_compare 7 = .ok (.iconst 1, 1) := by decide +kernel
theorem dX2_compare_8 : decode cX2_compare 8 = .ok (.goto 4, 3) := by decide +kernel
theorem dX2_compare_11 : decode cX2_compare 11 = .ok (.iconst 0, 1) := by decide +kernel
theorem dX2_compare_12 : decode cX2_compare 12 = .ok (.invokevirtual 130, 3) := by decide +kernel
theorem dX2_compare_15 : decode cX2_compare 15 = .ok (.aload_n 0, 1) := by decide +kernel
theorem dX2_compare_16 : decode cX2_compare 16 = .ok (.iload_n 1, 1) := by decide +kernel
theorem dX2_compare_17 : decode cX2_compare 17 = .ok (.iload_n 2, 1) := by decide +kernel
theorem dX2_compare_18 : decode cX2_compare 18 = .ok (.isub, 1) := by decide +kernel
theorem dX2_compare_19 : decode cX2_compare 19 = .ok (.invokevirtual 115, 3) := by decide +kernel
theorem dX2_compare_22 : decode cX2_compare 22 = .ok (.pop, 1) := by decide +kernel
theorem dX2_compare_23 : decode cX2_compare 23 = .ok (.return_, 1) := by decide +kernel
theorem dX2_testBits_0 : decode cX2_testBits 0 = .ok (.aload_n 0, 1) := by decide +kernel
theorem dX2_testBits_1 : decode cX2_testBits 1 = .ok (.iconst 2, 1) := by decide +kernel
theorem dX2_testBits_2 : decode cX2_testBits 2 = .ok (.aload_n 0, 1) := by decide +kernel
theorem dX2_testBits_3 : decode cX2_testBits 3 = .ok (.getfield 118, 3) := by decide +kernel
theorem dX2_testBits_6 : decode cX2_testBits 6 = .ok (.iload_n 1, 1) := by decide +kernel
theorem dX2_testBits_7 : decode cX2_testBits 7 = .ok (.iand, 1) := by decide +kernel
theorem dX2_testBits_8 : decode cX2_testBits 8 = .ok (.ifCond .ne 7, 3) := by decide +kernel
theorem dX2_testBits_11 : decode cX2_testBits 11 = .ok (.iconst 1, 1) := by decide +kernel
theorem dX2_testBits_12 : decode cX2_testBits 12 = .ok (.goto 4, 3) := by decide +kernel
theorem dX2_testBits_15 : decode cX2_testBits 15 = .ok (.iconst 0, 1) := by decide +kernel
theorem dX2_testBits_16 : decode cX2_testBits 16 = .ok (.invokevirtual 130, 3) := by decide +kernel
theorem dX2_testBits_19 : decode cX2_testBits 19 = .ok (.aload_n 0, 1) := by decide +kernel
theorem dX2_testBits_20 : decode cX2_testBits 20 = .ok (.bipush 64, 2) := by decide +kernel
theorem dX2_testBits_22 : decode cX2_testBits 22 = .ok (.iload_n 1, 1) := by decide +kernel
theorem dX2_testBits_23 : decode cX2_testBits 23 = .ok (.bipush 64, 2) := by decide +kernel
theorem dX2_testBits_25 : decode cX2_testBits 25 = .ok (.iand, 1) := by decide +kernel
theorem dX2_testBits_26 : decode cX2_testBits 26 = .ok (.ifCond .eq 7, 3) := by decide +kernel
theorem dX2_testBits_29 : decode cX2_testBits 29 = .ok (.iconst 1, 1) := by decide +kernel
theorem dX2_testBits_30 : decode cX2_testBits 30 = .ok (.goto 4, 3) := by decide +kernel
theorem dX2_testBits_33 : decode cX2_testBits 33 = .ok (.iconst 0, 1) := by decide +kernel
theorem dX2_testBits_34 : decode cX2_testBits 34 = .ok (.invokevirtual 130, 3) := by decide +kernel
theorem dX2_testBits_37 : decode cX2_testBits 37 = .ok (.aload_n 0, 1) := by decide +kernel
theorem dX2_testBits_38 : decode cX2_testBits 38 = .ok (.sipush 128, 3) := by decide +kernel
theorem dX2_testBits_41 : decode cX2_testBits 41 = .ok (.iload_n 1, 1) := by decide +kernel
theorem dX2_testBits_42 : decode cX2_testBits 42 = .ok (.sipush 128, 3) := by decide +kernel
theorem dX2_testBits_45 : decode cX2_testBits 45 = .ok (.iand, 1) := by decide +kernel
theorem dX2_testBits_46 : decode cX2_testBits 46 = .ok (.ifCond .eq 7, 3) := by decide +kernel
theorem dX2_testBits_49 : decode cX2_testBits 49 = .ok (.iconst 1, 1) := by decide +kernel
theorem dX2_testBits_50 : decode cX2_testBits 50 = .ok (.goto 4, 3) := by decide +kernel
theorem dX2_testBits_53 : decode cX2_testBits 53 = .ok (.iconst 0, 1) := by decide +kernel
theorem dX2_testBits_54 : decode cX2_testBits 54 = .ok (.invokevirtual 130, 3) := by decide +kernel
theorem dX2_testBits_57 : decode cX2_testBits 57 = .ok (.return_, 1) := by decide +kernel
theorem dX2_stored_0 : decode cX2_stored 0 = .ok (.iload_n 1, 1) := by decide +kernel
theorem dX2_stored_1 : decode cX2_stored 1 = .ok (.lookupswitch 37 #[(13, 27), (14, 32)], 27) := by decide +kernel
theorem dX2_stored_28 : decode cX2_stored 28 = .ok (.aload_n 0, 1) := by decide +kernel
theorem dX2_stored_29 : decode cX2_stored 29 = .ok (.getfield 118, 3) := by decide +kernel
theorem dX2_stored_32 : decode cX2_stored 32 = .ok (.ireturn, 1) := by decide +kernel
theorem dX2_stored_33 : decode cX2_stored 33 = .ok (.aload_n 0, 1) := by decide +kernel
theorem dX2_stored_34 : decode cX2_stored 34 = .ok (.getfield 70, 3) := by decide +kernel
theorem dX2_stored_37 : decode cX2_stored 37 = .ok (.ireturn, 1) := by decide +kernel
theorem dX2_stored_38 : decode cX2_stored 38 = .ok (.aload_n 0, 1) := by decide +kernel
theorem dX2_stored_39 : decode cX2_stored 39 = .ok (.getfield 73, 3) := by decide +kernel
theorem dX2_stored_42 : decode cX2_stored 42 = .ok (.ireturn, 1) := by decide +kernel
theorem dX2_change_0 : decode cX2_change 0 = .ok (.iload_n 2, 1) := by decide +kernel
theorem dX2_change_1 : decode cX2_change 1 = .ok (.iconst 1, 1) := by decide +kernel
theorem dX2_change_2 : decode cX2_change 2 = .ok (.if_icmp .ne 19, 3) := by decide +kernel
theorem dX2_change_5 : decode cX2_change 5 = .ok (.aload_n 0, 1) := by decide +kernel
theorem dX2_change_6 : decode cX2_change 6 = .ok (.aload_n 0, 1) := by decide +kernel
theorem dX2_change_7 : decode cX2_change 7 = .ok (.iload_n 1, 1) := by decide +kernel
theorem dX2_change_8 : decode cX2_change 8 = .ok (.aload_n 0, 1) := by decide +kernel
theorem dX2_change_9 : decode cX2_change 9 = .ok (.getfield 118, 3) := by decide +kernel
theorem dX2_change_12 : decode cX2_change 12 = .ok (.invokevirtual 134, 3) := by decide +kernel
theorem dX2_change_15 : decode cX2_change 15 = .ok (.putfield 118, 3) := by decide +kernel
theorem dX2_change_18 : decode cX2_change 18 = .ok (.goto 24, 3) := by decide +kernel
theorem dX2_change_21 : decode cX2_change 21 = .ok (.aload_n 0, 1) := by decide +kernel
theorem dX2_change_22 : decode cX2_change 22 = .ok (.getfield 13, 3) := by decide +kernel
theorem dX2_change_25 : decode cX2_change 25 = .ok (.iload_n 3, 1) := by decide +kernel
theorem dX2_change_26 : decode cX2_change 26 = .ok (.aload_n 0, 1) := by decide +kernel
theorem dX2_change_27 : decode cX2_change 27 = .ok (.iload_n 1, 1) := by decide +kernel
theorem dX2_change_28 : decode cX2_change 28 = .ok (.aload_n 0, 1) := by decide +kernel
theorem dX2_change_29 : decode cX2_change 29 = .ok (.getfield 13, 3) := by decide +kernel
theorem dX2_change_32 : decode cX2_change 32 = .ok (.iload_n 3, 1) := by decide +kernel
theorem dX2_change_33 : decode cX2_change 33 = .ok (.invokevirtual 63, 3) := by decide +kernel
theorem dX2_change_36 : decode cX2_change 36 = .ok (.invokevirtual 134, 3) := by decide +kernel
theorem dX2_change_39 : decode cX2_change 39 = .ok (.invokevirtual 93, 3) := by decide +kernel
theorem dX2_change_42 : decode cX2_change 42 = .ok (.return_, 1) := by decide +kernel
theorem dX2_changed_0 : decode cX2_changed 0 = .ok (.iload_n 1, 1) := by decide +kernel
theorem dX2_changed_1 : decode cX2_changed 1 = .ok (.tableswitch 81 16 20 #[35, 42, 49, 61, 73], 35) := by decide +kernel
theorem dX2_changed_36 : decode cX2_changed 36 = .ok (.aload_n 0, 1) := by decide +kernel
theorem dX2_changed_37 : decode cX2_changed 37 = .ok (.iload_n 2, 1) := by decide +kernel
theorem dX2_changed_38 : decode cX2_changed 38 = .ok (.iconst 0, 1) := by decide +kernel
theorem dX2_changed_39 : decode cX2_changed 39 = .ok (.invokevirtual 137, 3) := by decide +kernel
theorem dX2_changed_42 : decode cX2_changed 42 = .ok (.ireturn, 1) := by decide +kernel
theorem dX2_changed_43 : decode cX2_changed 43 = .ok (.aload_n 0, 1) := by decide +kernel
theorem dX2_changed_44 : decode cX2_changed 44 = .ok (.iload_n 2, 1) := by decide +kernel
theorem dX2_changed_45 : decode cX2_changed 45 = .ok (.iconst 0, 1) := by decide +kernel
theorem dX2_changed_46 : decode cX2_changed 46 = .ok (.invokevirtual 140, 3) := by decide +kernel
theorem dX2_changed_49 : decode cX2_changed 49 = .ok (.ireturn, 1) := by decide +kernel
theorem dX2_changed_50 : decode cX2_changed 50 = .ok (.aload_n 0, 1) := by decide +kernel
theorem dX2_changed_51 : decode cX2_changed 51 = .ok (.iload_n 2, 1) := by decide +kernel
theorem dX2_changed_52 : decode cX2_changed 52 = .ok (.aload_n 0, 1) := by decide +kernel
theorem dX2_changed_53 : decode cX2_changed 53 = .ok (.getfield 9, 3) := by decide +kernel
theorem dX2_changed_56 : decode cX2_changed 56 = .ok (.iconst 1, 1) := by decide +kernel
theorem dX2_changed_57 : decode cX2_changed 57 = .ok (.iand, 1) := by decide +kernel
theorem dX2_changed_58 : decode cX2_changed 58 = .ok (.invokevirtual 137, 3) := by decide +kernel
theorem dX2_changed_61 : decode cX2_changed 61 = .ok (.ireturn, 1) := by decide +kernel
theorem dX2_changed_62 : decode cX2_changed 62 = .ok (.aload_n 0, 1) := by decide +kernel
theorem dX2_changed_63 : decode cX2_changed 63 = .ok (.iload_n 2, 1) := by decide +kernel
theorem dX2_changed_64 : decode cX2_changed 64 = .ok (.aload_n 0, 1) := by decide +kernel
theorem dX2_changed_65 : decode cX2_changed 65 = .ok (.getfield 9, 3) := by decide +kernel
theorem dX2_changed_68 : decode cX2_changed 68 = .ok (.iconst 1, 1) := by decide +kernel
theorem dX2_changed_69 : decode cX2_changed 69 = .ok (.iand, 1) := by decide +kernel
theorem dX2_changed_70 : decode cX2_changed 70 = .ok (.invokevirtual 140, 3) := by decide +kernel
theorem dX2_changed_73 : decode cX2_changed 73 = .ok (.ireturn, 1) := by decide +kernel
theorem dX2_changed_74 : decode cX2_changed 74 = .ok (.aload_n 0, 1) := by decide +kernel
theorem dX2_changed_75 : decode cX2_changed 75 = .ok (.iload_n 2, 1) := by decide +kernel
theorem dX2_changed_76 : decode cX2_changed 76 = .ok (.iconst 1, 1) := by decide +kernel
theorem dX2_changed_77 : decode cX2_changed 77 = .ok (.iadd, 1) := by decide +kernel
theorem dX2_changed_78 : decode cX2_changed 78 = .ok (.invokevirtual 115, 3) := by decide +kernel
theorem dX2_changed_81 : decode cX2_changed 81 = .ok (.ireturn, 1) := by decide +kernel
theorem dX2_changed_82 : decode cX2_changed 82 = .ok (.aload_n 0, 1) := by decide +kernel
theorem dX2_changed_83 : decode cX2_changed 83 = .ok (.iload_n 2, 1) := by decide +kernel
theorem dX2_changed_84 : decode cX2_changed 84 = .ok (.iconst 1, 1) := by decide +kernel
theorem dX2_changed_85 : decode cX2_changed 85 = .ok (.isub, 1) := by decide +kernel
theorem dX2_changed_86 : decode cX2_changed 86 = .ok (.invokevirtual 115, 3) := by decide +kernel
theorem dX2_changed_89 : decode cX2_changed 89 = .ok (.ireturn, 1) := by decide +kernel
theorem dX2_shiftedUp_0 : decode cX2_shiftedUp 0 = .ok (.aload_n 0, 1) := by decide +kernel
theorem dX2_shiftedUp_1 : decode cX2_shiftedUp 1 = .ok (.iconst 1, 1) := by decide +kernel
theorem dX2_shiftedUp_2 : decode cX2_shiftedUp 2 = .ok (.iload_n 1, 1) := by decide +kernel
theorem dX2_shiftedUp_3 : decode cX2_shiftedUp 3 = .ok (.sipush 128, 3) := by decide +kernel
theorem dX2_shiftedUp_6 : decode cX2_shiftedUp 6 = .ok (.iand, 1) := by decide +kernel
theorem dX2_shiftedUp_7 : decode cX2_shiftedUp 7 = .ok (.ifCond .eq 7, 3) := by decide +kernel
theorem dX2_shiftedUp_10 : decode cX2_shiftedUp 10 = .ok (.iconst 1, 1) := by decide +kernel
theorem dX2_shiftedUp_11 : decode cX2_shiftedUp 11 = .ok (.goto 4, 3) := by decide +kernel
theorem dX2_shiftedUp_14 : decode cX2_shiftedUp 14 = .ok (.iconst 0, 1) := by decide +kernel
theorem dX2_shiftedUp_15 : decode cX2_shiftedUp 15 = .ok (.invokevirtual 130, 3) := by decide +kernel
theorem dX2_shiftedUp_18 : decode cX2_shiftedUp 18 = .ok (.aload_n 0, 1) := by decide +kernel
theorem dX2_shiftedUp_19 : decode cX2_shiftedUp 19 = .ok (.iload_n 1, 1) := by decide +kernel
theorem dX2_shiftedUp_20 : decode cX2_shiftedUp 20 = .ok (.iconst 1, 1) := by decide +kernel
theorem dX2_shiftedUp_21 : decode cX2_shiftedUp 21 = .ok (.ishl, 1) := by decide +kernel
theorem dX2_shiftedUp_22 : decode cX2_shiftedUp 22 = .ok (.iload_n 2, 1) := by decide +kernel
theorem dX2_shiftedUp_23 : decode cX2_shiftedUp 23 = .ok (.ior, 1) := by decide +kernel
theorem dX2_shiftedUp_24 : decode cX2_shiftedUp 24 = .ok (.invokevirtual 115, 3) := by decide +kernel
theorem dX2_shiftedUp_27 : decode cX2_shiftedUp 27 = .ok (.ireturn, 1) := by decide +kernel
theorem dX2_shiftedDown_0 : decode cX2_shiftedDown 0 = .ok (.aload_n 0, 1) := by decide +kernel
theorem dX2_shiftedDown_1 : decode cX2_shiftedDown 1 = .ok (.iconst 1, 1) := by decide +kernel
theorem dX2_shiftedDown_2 : decode cX2_shiftedDown 2 = .ok (.iload_n 1, 1) := by decide +kernel
theorem dX2_shiftedDown_3 : decode cX2_shiftedDown 3 = .ok (.iconst 1, 1) := by decide +kernel
theorem dX2_shiftedDown_4 : decode cX2_shiftedDown 4 = .ok (.iand, 1) := by decide +kernel
theorem dX2_shiftedDown_5 : decode cX2_shiftedDown 5 = .ok (.ifCond .eq 7, 3) := by decide +kernel
theorem dX2_shiftedDown_8 : decode cX2_shiftedDown 8 = .ok (.iconst 1, 1) := by decide +kernel
theorem dX2_shiftedDown_9 : decode cX2_shiftedDown 9 = .ok (.goto 4, 3) := by decide +kernel
theorem dX2_shiftedDown_12 : decode cX2_shiftedDown 12 = .ok (.iconst 0, 1) := by decide +kernel
theorem dX2_shiftedDown_13 : decode cX2_shiftedDown 13 = .ok (.invokevirtual 130, 3) := by decide +kernel
theorem dX2_shiftedDown_16 : decode cX2_shiftedDown 16 = .ok (.aload_n 0, 1) := by decide +kernel
theorem dX2_shiftedDown_17 : decode cX2_shiftedDown 17 = .ok (.iload_n 1, 1) := by decide +kernel
theorem dX2_shiftedDown_18 : decode cX2_shiftedDown 18 = .ok (.iconst 1, 1) := by decide +kernel
theorem dX2_shiftedDown_19 : decode cX2_shiftedDown 19 = .ok (.ishr, 1) := by decide +kernel
theorem dX2_shiftedDown_20 : decode cX2_shiftedDown 20 = .ok (.iload_n 2, 1) := by decide +kernel
theorem dX2_shiftedDown_21 : decode cX2_shiftedDown 21 = .ok (.bipush 7, 2) := by decide +kernel
theorem dX2_shiftedDown_23 : decode cX2_shiftedDown 23 = .ok (.ishl, 1) := by decide +kernel
theorem dX2_shiftedDown_24 : decode cX2_shiftedDown 24 = .ok (.ior, 1) := by decide +kernel
theorem dX2_shiftedDown_25 : decode cX2_shiftedDown 25 = .ok (.invokevirtual 115, 3) := by decide +kernel
theorem dX2_shiftedDown_28 : decode cX2_shiftedDown 28 = .ok (.ireturn, 1) := by decide +kernel
theorem dX2_branch_0 : decode cX2_branch 0 = .ok (.aload_n 0, 1) := by decide +kernel
theorem dX2_branch_1 : decode cX2_branch 1 = .ok (.iload_n 1, 1) := by decide +kernel
theorem dX2_branch_2 : decode cX2_branch 2 = .ok (.invokevirtual 143, 3) := by decide +kernel
theorem dX2_branch_5 : decode cX2_branch 5 = .ok (.ifCond .ne 5, 3) := by decide +kernel
theorem dX2_branch_8 : decode cX2_branch 8 = .ok (.iconst 0, 1) := by decide +kernel
theorem dX2_branch_9 : decode cX2_branch 9 = .ok (.ireturn, 1) := by decide +kernel
theorem dX2_branch_10 : decode cX2_branch 10 = .ok (.iconst 1, 1) := by decide +kernel
theorem dX2_branch_11 : decode cX2_branch 11 = .ok (.aload_n 0, 1) := by decide +kernel
theorem dX2_branch_12 : decode cX2_branch 12 = .ok (.getfield 27, 3) := by decide +kernel
theorem dX2_branch_15 : decode cX2_branch 15 = .ok (.iload_n 2, 1) := by decide +kernel
theorem dX2_branch_16 : decode cX2_branch 16 = .ok (.invokestatic 83, 3) := by decide +kernel
theorem dX2_branch_19 : decode cX2_branch 19 = .ok (.iadd, 1) := by decide +kernel
theorem dX2_branch_20 : decode cX2_branch 20 = .ok (.istore_n 3, 1) := by decide +kernel
theorem dX2_branch_21 : decode cX2_branch 21 = .ok (.aload_n 0, 1) := by decide +kernel
theorem dX2_branch_22 : decode cX2_branch 22 = .ok (.iload_n 2, 1) := by decide +kernel
theorem dX2_branch_23 : decode cX2_branch 23 = .ok (.putfield 27, 3) := by decide +kernel
theorem dX2_branch_26 : decode cX2_branch 26 = .ok (.iload_n 3, 1) := by decide +kernel
theorem dX2_branch_27 : decode cX2_branch 27 = .ok (.ireturn, 1) := by decide +kernel
theorem dX2_branchTaken_0 : decode cX2_branchTaken 0 = .ok (.iload_n 1, 1) := by decide +kernel
theorem dX2_branchTaken_1 : decode cX2_branchTaken 1 = .ok (.tableswitch 154 22 28 #[43, 60, 77, 93, 109, 124, 139], 43) := by decide +kernel
theorem dX2_branchTaken_44 : decode cX2_branchTaken 44 = .ok (.aload_n 0, 1) := by decide +kernel
theorem dX2_branchTaken_45 : decode cX2_branchTaken 45 = .ok (.getfield 9, 3) := by decide +kernel
theorem dX2_branchTaken_48 : decode cX2_branchTaken 48 = .ok (.sipush 128, 3) := by decide +kernel
theorem dX2_branchTaken_51 : decode cX2_branchTaken 51 = .ok (.iand, 1) := by decide +kernel
theorem dX2_branchTaken_52 : decode cX2_branchTaken 52 = .ok (.ifCond .ne 7, 3) := by decide +kernel
theorem dX2_branchTaken_55 : decode cX2_branchTaken 55 = .ok (.iconst 1, 1) := by decide +kernel
theorem dX2_branchTaken_56 : decode cX2_branchTaken 56 = .ok (.goto 4, 3) := by decide +kernel
theorem dX2_branchTaken_59 : decode cX2_branchTaken 59 = .ok (.iconst 0, 1) := by decide +kernel
theorem dX2_branchTaken_60 : decode cX2_branchTaken 60 = .ok (.ireturn, 1) := by decide +kernel
theorem dX2_branchTaken_61 : decode cX2_branchTaken 61 = .ok (.aload_n 0, 1) := by decide +kernel
theorem dX2_branchTaken_62 : decode cX2_branchTaken 62 = .ok (.getfield 9, 3) := by decide +kernel
theorem dX2_branchTaken_65 : decode cX2_branchTaken 65 = .ok (.sipush 128, 3) := by decide +kernel
theorem dX2_branchTaken_68 : decode cX2_branchTaken 68 = .ok (.iand, 1) := by decide +kernel
theorem dX2_branchTaken_69 : decode cX2_branchTaken 69 = .ok (.ifCond .eq 7, 3) := by decide +kernel
theorem dX2_branchTaken_72 : decode cX2_branchTaken 72 = .ok (.iconst 1, 1) := by decide +kernel
theorem dX2_branchTaken_73 : decode cX2_branchTaken 73 = .ok (.goto 4, 3) := by decide +kernel
theorem dX2_branchTaken_76 : decode cX2_branchTaken 76 = .ok (.iconst 0, 1) := by decide +kernel
theorem dX2_branchTaken_77 : decode cX2_branchTaken 77 = .ok (.ireturn, 1) := by decide +kernel
theorem dX2_branchTaken_78 : decode cX2_branchTaken 78 = .ok (.aload_n 0, 1) := by decide +kernel
theorem dX2_branchTaken_79 : decode cX2_branchTaken 79 = .ok (.getfield 9, 3) := by decide +kernel
theorem dX2_branchTaken_82 : decode cX2_branchTaken 82 = .ok (.bipush 64, 2) := by decide +kernel
theorem dX2_branchTaken_84 : decode cX2_branchTaken 84 = .ok (.iand, 1) := by decide +kernel
theorem dX2_branchTaken_85 : decode cX2_branchTaken 85 = .ok (.ifCond .ne 7, 3) := by decide +kernel
theorem dX2_branchTaken_88 : decode cX2_branchTaken 88 = .ok (.iconst 1, 1) := by decide +kernel
theorem dX2_branchTaken_89 : decode cX2_branchTaken 89 = .ok (.goto 4, 3) := by decide +kernel
theorem dX2_branchTaken_92 : decode cX2_branchTaken 92 = .ok (.iconst 0, 1) := by decide +kernel
theorem dX2_branchTaken_93 : decode cX2_branchTaken 93 = .ok (.ireturn, 1) := by decide +kernel
theorem dX2_branchTaken_94 : decode cX2_branchTaken 94 = .ok (.aload_n 0, 1) := by decide +kernel
theorem dX2_branchTaken_95 : decode cX2_branchTaken 95 = .ok (.getfield 9, 3) := by decide +kernel
theorem dX2_branchTaken_98 : decode cX2_branchTaken 98 = .ok (.bipush 64, 2) := by decide +kernel
theorem dX2_branchTaken_100 : decode cX2_branchTaken 100 = .ok (.iand, 1) := by decide +kernel
theorem dX2_branchTaken_101 : decode cX2_branchTaken 101 = .ok (.ifCond .eq 7, 3) := by decide +kernel
theorem dX2_branchTaken_104 : decode cX2_branchTaken 104 = .ok (.iconst 1, 1) := by decide +kernel
theorem dX2_branchTaken_105 : decode cX2_branchTaken 105 = .ok (.goto 4, 3) := by decide +kernel
theorem dX2_branchTaken_108 : decode cX2_branchTaken 108 = .ok (.iconst 0, 1) := by decide +kernel
theorem dX2_branchTaken_109 : decode cX2_branchTaken 109 = .ok (.ireturn, 1) := by decide +kernel
theorem dX2_branchTaken_110 : decode cX2_branchTaken 110 = .ok (.aload_n 0, 1) := by decide +kernel
theorem dX2_branchTaken_111 : decode cX2_branchTaken 111 = .ok (.getfield 9, 3) := by decide +kernel
theorem dX2_branchTaken_114 : decode cX2_branchTaken 114 = .ok (.iconst 1, 1) := by decide +kernel
theorem dX2_branchTaken_115 : decode cX2_branchTaken 115 = .ok (.iand, 1) := by decide +kernel
theorem dX2_branchTaken_116 : decode cX2_branchTaken 116 = .ok (.ifCond .ne 7, 3) := by decide +kernel
theorem dX2_branchTaken_119 : decode cX2_branchTaken 119 = .ok (.iconst 1, 1) := by decide +kernel
theorem dX2_branchTaken_120 : decode cX2_branchTaken 120 = .ok (.goto 4, 3) := by decide +kernel
theorem dX2_branchTaken_123 : decode cX2_branchTaken 123 = .ok (.iconst 0, 1) := by decide +kernel
theorem dX2_branchTaken_124 : decode cX2_branchTaken 124 = .ok (.ireturn, 1) := by decide +kernel
theorem dX2_branchTaken_125 : decode cX2_branchTaken 125 = .ok (.aload_n 0, 1) := by decide +kernel
theorem dX2_branchTaken_126 : decode cX2_branchTaken 126 = .ok (.getfield 9, 3) := by decide +kernel
theorem dX2_branchTaken_129 : decode cX2_branchTaken 129 = .ok (.iconst 1, 1) := by decide +kernel
theorem dX2_branchTaken_130 : decode cX2_branchTaken 130 = .ok (.iand, 1) := by decide +kernel
theorem dX2_branchTaken_131 : decode cX2_branchTaken 131 = .ok (.ifCond .eq 7, 3) := by decide +kernel
theorem dX2_branchTaken_134 : decode cX2_branchTaken 134 = .ok (.iconst 1, 1) := by decide +kernel
theorem dX2_branchTaken_135 : decode cX2_branchTaken 135 = .ok (.goto 4, 3) := by decide +kernel
theorem dX2_branchTaken_138 : decode cX2_branchTaken 138 = .ok (.iconst 0, 1) := by decide +kernel
theorem dX2_branchTaken_139 : decode cX2_branchTaken 139 = .ok (.ireturn, 1) := by decide +kernel
theorem dX2_branchTaken_140 : decode cX2_branchTaken 140 = .ok (.aload_n 0, 1) := by decide +kernel
theorem dX2_branchTaken_141 : decode cX2_branchTaken 141 = .ok (.getfield 9, 3) := by decide +kernel
theorem dX2_branchTaken_144 : decode cX2_branchTaken 144 = .ok (.iconst 2, 1) := by decide +kernel
theorem dX2_branchTaken_145 : decode cX2_branchTaken 145 = .ok (.iand, 1) := by decide +kernel
theorem dX2_branchTaken_146 : decode cX2_branchTaken 146 = .ok (.ifCond .ne 7, 3) := by decide +kernel
theorem dX2_branchTaken_149 : decode cX2_branchTaken 149 = .ok (.iconst 1, 1) := by decide +kernel
theorem dX2_branchTaken_150 : decode cX2_branchTaken 150 = .ok (.goto 4, 3) := by decide +kernel
theorem dX2_branchTaken_153 : decode cX2_branchTaken 153 = .ok (.iconst 0, 1) := by decide +kernel
theorem dX2_branchTaken_154 : decode cX2_branchTaken 154 = .ok (.ireturn, 1) := by decide +kernel
theorem dX2_branchTaken_155 : decode cX2_branchTaken 155 = .ok (.aload_n 0, 1) := by decide +kernel
theorem dX2_branchTaken_156 : decode cX2_branchTaken 156 = .ok (.getfield 9, 3) := by decide +kernel
theorem dX2_branchTaken_159 : decode cX2_branchTaken 159 = .ok (.iconst 2, 1) := by decide +kernel
theorem dX2_branchTaken_160 : decode cX2_branchTaken 160 = .ok (.iand, 1) := by decide +kernel
theorem dX2_branchTaken_161 : decode cX2_branchTaken 161 = .ok (.ifCond .eq 7, 3) := by decide +kernel
theorem dX2_branchTaken_164 : decode cX2_branchTaken 164 = .ok (.iconst 1, 1) := by decide +kernel
theorem dX2_branchTaken_165 : decode cX2_branchTaken 165 = .ok (.goto 4, 3) := by decide +kernel
theorem dX2_branchTaken_168 : decode cX2_branchTaken 168 = .ok (.iconst 0, 1) := by decide +kernel
theorem dX2_branchTaken_169 : decode cX2_branchTaken 169 = .ok (.ireturn, 1) := by decide +kernel
theorem dX2_changeRegister_0 : decode cX2_changeRegister 0 = .ok (.iload_n 1, 1) := by decide +kernel
theorem dX2_changeRegister_1 : decode cX2_changeRegister 1 = .ok (.tableswitch 188 30 38 #[51, 66, 81, 96, 111, 126, 137, 154, 171], 51) := by decide +kernel
theorem dX2_changeRegister_52 : decode cX2_changeRegister 52 = .ok (.aload_n 0, 1) := by decide +kernel
theorem dX2_changeRegister_53 : decode cX2_changeRegister 53 = .ok (.aload_n 0, 1) := by decide +kernel
theorem dX2_changeRegister_54 : decode cX2_changeRegister 54 = .ok (.aload_n 0, 1) := by decide +kernel
theorem dX2_changeRegister_55 : decode cX2_changeRegister 55 = .ok (.getfield 118, 3) := by decide +kernel
theorem dX2_changeRegister_58 : decode cX2_changeRegister 58 = .ok (.invokevirtual 115, 3) := by decide +kernel
theorem dX2_changeRegister_61 : decode cX2_changeRegister 61 = .ok (.putfield 70, 3) := by decide +kernel
theorem dX2_changeRegister_64 : decode cX2_changeRegister 64 = .ok (.goto 139, 3) := by decide +kernel
theorem dX2_changeRegister_67 : decode cX2_changeRegister 67 = .ok (.aload_n 0, 1) := by decide +kernel
theorem dX2_changeRegister_68 : decode cX2_changeRegister 68 = .ok (.aload_n 0, 1) := by decide +kernel
theorem dX2_changeRegister_69 : decode cX2_changeRegister 69 = .ok (.aload_n 0, 1) := by decide +kernel
theorem dX2_changeRegister_70 : decode cX2_changeRegister 70 = .ok (.getfield 118, 3) := by decide +kernel
theorem dX2_changeRegister_73 : decode cX2_changeRegister 73 = .ok (.invokevirtual 115, 3) := by decide +kernel
theorem dX2_changeRegister_76 : decode cX2_changeRegister 76 = .ok (.putfield 73, 3) := by decide +kernel
theorem dX2_changeRegister_79 : decode cX2_changeRegister 79 = .ok (.goto 124, 3) := by decide +kernel
theorem dX2_changeRegister_82 : decode cX2_changeRegister 82 = .ok (.aload_n 0, 1) := by decide +kernel
theorem dX2_changeRegister_83 : decode cX2_changeRegister 83 = .ok (.aload_n 0, 1) := by decide +kernel
theorem dX2_changeRegister_84 : decode cX2_changeRegister 84 = .ok (.aload_n 0, 1) := by decide +kernel
theorem dX2_changeRegister_85 : decode cX2_changeRegister 85 = .ok (.getfield 70, 3) := by decide +kernel
theorem dX2_changeRegister_88 : decode cX2_changeRegister 88 = .ok (.invokevirtual 115, 3) := by decide +kernel
theorem dX2_changeRegister_91 : decode cX2_changeRegister 91 = .ok (.putfield 118, 3) := by decide +kernel
theorem dX2_changeRegister_94 : decode cX2_changeRegister 94 = .ok (.goto 109, 3) := by decide +kernel
theorem dX2_changeRegister_97 : decode cX2_changeRegister 97 = .ok (.aload_n 0, 1) := by decide +kernel
theorem dX2_changeRegister_98 : decode cX2_changeRegister 98 = .ok (.aload_n 0, 1) := by decide +kernel
theorem dX2_changeRegister_99 : decode cX2_changeRegister 99 = .ok (.aload_n 0, 1) := by decide +kernel
theorem dX2_changeRegister_100 : decode cX2_changeRegister 100 = .ok (.getfield 73, 3) := by decide +kernel
theorem dX2_changeRegister_103 : decode cX2_changeRegister 103 = .ok (.invokevirtual 115, 3) := by decide +kernel
theorem dX2_changeRegister_106 : decode cX2_changeRegister 106 = .ok (.putfield 118, 3) := by decide +kernel
theorem dX2_changeRegister_109 : decode cX2_changeRegister 109 = .ok (.goto 94, 3) := by decide +kernel
theorem dX2_changeRegister_112 : decode cX2_changeRegister 112 = .ok (.aload_n 0, 1) := by decide +kernel
theorem dX2_changeRegister_113 : decode cX2_changeRegister 113 = .ok (.aload_n 0, 1) := by decide +kernel
theorem dX2_changeRegister_114 : decode cX2_changeRegister 114 = .ok (.aload_n 0, 1) := by decide +kernel
theorem dX2_changeRegister_115 : decode cX2_changeRegister 115 = .ok (.getfield 17, 3) := by decide +kernel
theorem dX2_changeRegister_118 : decode cX2_changeRegister 118 = .ok (.invokevirtual 115, 3) := by decide +kernel
theorem dX2_changeRegister_121 : decode cX2_changeRegister 121 = .ok (.putfield 70, 3) := by decide +kernel
theorem dX2_changeRegister_124 : decode cX2_changeRegister 124 = .ok (.goto 79, 3) := by decide +kernel
theorem dX2_changeRegister_127 : decode cX2_changeRegister 127 = .ok (.aload_n 0, 1) := by decide +kernel
theorem dX2_changeRegister_128 : decode cX2_changeRegister 128 = .ok (.aload_n 0, 1) := by decide +kernel
theorem dX2_changeRegister_129 : decode cX2_changeRegister 129 = .ok (.getfield 70, 3) := by decide +kernel
theorem dX2_changeRegister_132 : decode cX2_changeRegister 132 = .ok (.putfield 17, 3) := by decide +kernel
theorem dX2_changeRegister_135 : decode cX2_changeRegister 135 = .ok (.goto 68, 3) := by decide +kernel
theorem dX2_changeRegister_138 : decode cX2_changeRegister 138 = .ok (.aload_n 0, 1) := by decide +kernel
theorem dX2_changeRegister_139 : decode cX2_changeRegister 139 = .ok (.aload_n 0, 1) := by decide +kernel
theorem dX2_changeRegister_140 : decode cX2_changeRegister 140 = .ok (.aload_n 0, 1) := by decide +kernel
theorem dX2_changeRegister_141 : decode cX2_changeRegister 141 = .ok (.getfield 70, 3) := by decide +kernel
theorem dX2_changeRegister_144 : decode cX2_changeRegister 144 = .ok (.iconst 1, 1) := by decide +kernel
theorem dX2_changeRegister_145 : decode cX2_changeRegister 145 = .ok (.iadd, 1) := by decide +kernel
theorem dX2_changeRegister_146 : decode cX2_changeRegister 146 = .ok (.invokevirtual 115, 3) := by decide +kernel
theorem dX2_changeRegister_149 : decode cX2_changeRegister 149 = .ok (.putfield 70, 3) := by decide +kernel
theorem dX2_changeRegister_152 : decode cX2_changeRegister 152 = .ok (.goto 51, 3) := by decide +kernel
theorem dX2_changeRegister_155 : decode cX2_changeRegister 155 = .ok (.aload_n 0, 1) := by decide +kernel
theorem dX2_changeRegister_156 : decode cX2_changeRegister 156 = .ok (.aload_n 0, 1) := by decide +kernel
theorem dX2_changeRegister_157 : decode cX2_changeRegister 157 = .ok (.aload_n 0, 1) := by decide +kernel
theorem dX2_changeRegister_158 : decode cX2_changeRegister 158 = .ok (.getfield 73, 3) := by decide +kernel
theorem dX2_changeRegister_161 : decode cX2_changeRegister 161 = .ok (.iconst 1, 1) := by decide +kernel
theorem dX2_changeRegister_162 : decode cX2_changeRegister 162 = .ok (.iadd, 1) := by decide +kernel
theorem dX2_changeRegister_163 : decode cX2_changeRegister 163 = .ok (.invokevirtual 115, 3) := by decide +kernel
theorem dX2_changeRegister_166 : decode cX2_changeRegister 166 = .ok (.putfield 73, 3) := by decide +kernel
theorem dX2_changeRegister_169 : decode cX2_changeRegister 169 = .ok (.goto 34, 3) := by decide +kernel
theorem dX2_changeRegister_172 : decode cX2_changeRegister 172 = .ok (.aload_n 0, 1) := by decide +kernel
theorem dX2_changeRegister_173 : decode cX2_changeRegister 173 = .ok (.aload_n 0, 1) := by decide +kernel
theorem dX2_changeRegister_174 : decode cX2_changeRegister 174 = .ok (.aload_n 0, 1) := by decide +kernel
theorem dX2_changeRegister_175 : decode cX2_changeRegister 175 = .ok (.getfield 70, 3) := by decide +kernel
theorem dX2_changeRegister_178 : decode cX2_changeRegister 178 = .ok (.iconst 1, 1) := by decide +kernel
theorem dX2_changeRegister_179 : decode cX2_changeRegister 179 = .ok (.isub, 1) := by decide +kernel
theorem dX2_changeRegister_180 : decode cX2_changeRegister 180 = .ok (.invokevirtual 115, 3) := by decide +kernel
theorem dX2_changeRegister_183 : decode cX2_changeRegister 183 = .ok (.putfield 70, 3) := by decide +kernel
theorem dX2_changeRegister_186 : decode cX2_changeRegister 186 = .ok (.goto 17, 3) := by decide +kernel
theorem dX2_changeRegister_189 : decode cX2_changeRegister 189 = .ok (.aload_n 0, 1) := by decide +kernel
theorem dX2_changeRegister_190 : decode cX2_changeRegister 190 = .ok (.aload_n 0, 1) := by decide +kernel
theorem dX2_changeRegister_191 : decode cX2_changeRegister 191 = .ok (.aload_n 0, 1) := by decide +kernel
theorem dX2_changeRegister_192 : decode cX2_changeRegister 192 = .ok (.getfield 73, 3) := by decide +kernel
theorem dX2_changeRegister_195 : decode cX2_changeRegister 195 = .ok (.iconst 1, 1) := by decide +kernel
theorem dX2_changeRegister_196 : decode cX2_changeRegister 196 = .ok (.isub, 1) := by decide +kernel
theorem dX2_changeRegister_197 : decode cX2_changeRegister 197 = .ok (.invokevirtual 115, 3) := by decide +kernel
theorem dX2_changeRegister_200 : decode cX2_changeRegister 200 = .ok (.putfield 73, 3) := by decide +kernel
theorem dX2_changeRegister_203 : decode cX2_changeRegister 203 = .ok (.return_, 1) := by decide +kernel
theorem dX2_changeFlag_0 : decode cX2_changeFlag 0 = .ok (.iload_n 1, 1) := by decide +kernel
theorem dX2_changeFlag_1 : decode cX2_changeFlag 1 = .ok (.tableswitch 109 40 46 #[43, 52, 61, 70, 79, 89, 99], 43) := by decide +kernel
theorem dX2_changeFlag_44 : decode cX2_changeFlag 44 = .ok (.aload_n 0, 1) := by decide +kernel
theorem dX2_changeFlag_45 : decode cX2_changeFlag 45 = .ok (.iconst 1, 1) := by decide +kernel
theorem dX2_changeFlag_46 : decode cX2_changeFlag 46 = .ok (.iconst 0, 1) := by decide +kernel
theorem dX2_changeFlag_47 : decode cX2_changeFlag 47 = .ok (.invokevirtual 130, 3) := by decide +kernel
theorem dX2_changeFlag_50 : decode cX2_changeFlag 50 = .ok (.goto 60, 3) := by decide +kernel
theorem dX2_changeFlag_53 : decode cX2_changeFlag 53 = .ok (.aload_n 0, 1) := by decide +kernel
theorem dX2_changeFlag_54 : decode cX2_changeFlag 54 = .ok (.iconst 1, 1) := by decide +kernel
theorem dX2_changeFlag_55 : decode cX2_changeFlag 55 = .ok (.iconst 1, 1) := by decide +kernel
theorem dX2_changeFlag_56 : decode cX2_changeFlag 56 = .ok (.invokevirtual 130, 3) := by decide +kernel
theorem dX2_changeFlag_59 : decode cX2_changeFlag 59 = .ok (.goto 51, 3) := by decide +kernel
theorem dX2_changeFlag_62 : decode cX2_changeFlag 62 = .ok (.aload_n 0, 1) := by decide +kernel
theorem dX2_changeFlag_63 : decode cX2_changeFlag 63 = .ok (.iconst 4, 1) := by decide +kernel
theorem dX2_changeFlag_64 : decode cX2_changeFlag 64 = .ok (.iconst 0, 1) := by decide +kernel
theorem dX2_changeFlag_65 : decode cX2_changeFlag 65 = .ok (.invokevirtual 130, 3) := by decide +kernel
theorem dX2_changeFlag_68 : decode cX2_changeFlag 68 = .ok (.goto 42, 3) := by decide +kernel
theorem dX2_changeFlag_71 : decode cX2_changeFlag 71 = .ok (.aload_n 0, 1) := by decide +kernel
theorem dX2_changeFlag_72 : decode cX2_changeFlag 72 = .ok (.iconst 4, 1) := by decide +kernel
theorem dX2_changeFlag_73 : decode cX2_changeFlag 73 = .ok (.iconst 1, 1) := by decide +kernel
theorem dX2_changeFlag_74 : decode cX2_changeFlag 74 = .ok (.invokevirtual 130, 3) := by decide +kernel
theorem dX2_changeFlag_77 : decode cX2_changeFlag 77 = .ok (.goto 33, 3) := by decide +kernel
theorem dX2_changeFlag_80 : decode cX2_changeFlag 80 = .ok (.aload_n 0, 1) := by decide +kernel
theorem dX2_changeFlag_81 : decode cX2_changeFlag 81 = .ok (.bipush 64, 2) := by decide +kernel
theorem dX2_changeFlag_83 : decode cX2_changeFlag 83 = .ok (.iconst 0, 1) := by decide +kernel
theorem dX2_changeFlag_84 : decode cX2_changeFlag 84 = .ok (.invokevirtual 130, 3) := by decide +kernel
theorem dX2_changeFlag_87 : decode cX2_changeFlag 87 = .ok (.goto 23, 3) := by decide +kernel
theorem dX2_changeFlag_90 : decode cX2_changeFlag 90 = .ok (.aload_n 0, 1) := by decide +kernel
theorem dX2_changeFlag_91 : decode cX2_changeFlag 91 = .ok (.bipush 8, 2) := by decide +kernel
theorem dX2_changeFlag_93 : decode cX2_changeFlag 93 = .ok (.iconst 0, 1) := by decide +kernel
theorem dX2_changeFlag_94 : decode cX2_changeFlag 94 = .ok (.invokevirtual 130, 3) := by decide +kernel
theorem dX2_changeFlag_97 : decode cX2_changeFlag 97 = .ok (.goto 13, 3) := by decide +kernel
theorem dX2_changeFlag_100 : decode cX2_changeFlag 100 = .ok (.aload_n 0, 1) := by decide +kernel
theorem dX2_changeFlag_101 : decode cX2_changeFlag 101 = .ok (.bipush 8, 2) := by decide +kernel
theorem dX2_changeFlag_103 : decode cX2_changeFlag 103 = .ok (.iconst 1, 1) := by decide +kernel
theorem dX2_changeFlag_104 : decode cX2_changeFlag 104 = .ok (.invokevirtual 130, 3) := by decide +kernel
theorem dX2_changeFlag_107 : decode cX2_changeFlag 107 = .ok (.goto 3, 3) := by decide +kernel
theorem dX2_changeFlag_110 : decode cX2_changeFlag 110 = .ok (.return_, 1) := by decide +kernel
theorem dX2_useStack_0 : decode cX2_useStack 0 = .ok (.iload_n 1, 1) := by decide +kernel
theorem dX2_useStack_1 : decode cX2_useStack 1 = .ok (.tableswitch 67 48 50 #[27, 38, 52], 27) := by decide +kernel
theorem dX2_useStack_28 : decode cX2_useStack 28 = .ok (.aload_n 0, 1) := by decide +kernel
theorem dX2_useStack_29 : decode cX2_useStack 29 = .ok (.aload_n 0, 1) := by decide +kernel
theorem dX2_useStack_30 : decode cX2_useStack 30 = .ok (.getfield 118, 3) := by decide +kernel
theorem dX2_useStack_33 : decode cX2_useStack 33 = .ok (.invokevirtual 147, 3) := by decide +kernel
theorem dX2_useStack_36 : decode cX2_useStack 36 = .ok (.goto 36, 3) := by decide +kernel
theorem dX2_useStack_39 : decode cX2_useStack 39 = .ok (.aload_n 0, 1) := by decide +kernel
theorem dX2_useStack_40 : decode cX2_useStack 40 = .ok (.aload_n 0, 1) := by decide +kernel
theorem dX2_useStack_41 : decode cX2_useStack 41 = .ok (.getfield 9, 3) := by decide +kernel
theorem dX2_useStack_44 : decode cX2_useStack 44 = .ok (.bipush 16, 2) := by decide +kernel
theorem dX2_useStack_46 : decode cX2_useStack 46 = .ok (.ior, 1) := by decide +kernel
theorem dX2_useStack_47 : decode cX2_useStack 47 = .ok (.invokevirtual 147, 3) := by decide +kernel
theorem dX2_useStack_50 : decode cX2_useStack 50 = .ok (.goto 22, 3) := by decide +kernel
theorem dX2_useStack_53 : decode cX2_useStack 53 = .ok (.aload_n 0, 1) := by decide +kernel
theorem dX2_useStack_54 : decode cX2_useStack 54 = .ok (.aload_n 0, 1) := by decide +kernel
theorem dX2_useStack_55 : decode cX2_useStack 55 = .ok (.aload_n 0, 1) := by decide +kernel
theorem dX2_useStack_56 : decode cX2_useStack 56 = .ok (.invokevirtual 150, 3) := by decide +kernel
theorem dX2_useStack_59 : decode cX2_useStack 59 = .ok (.invokevirtual 115, 3) := by decide +kernel
theorem dX2_useStack_62 : decode cX2_useStack 62 = .ok (.putfield 118, 3) := by decide +kernel
theorem dX2_useStack_65 : decode cX2_useStack 65 = .ok (.goto 7, 3) := by decide +kernel
theorem dX2_useStack_68 : decode cX2_useStack 68 = .ok (.aload_n 0, 1) := by decide +kernel
theorem dX2_useStack_69 : decode cX2_useStack 69 = .ok (.invokevirtual 153, 3) := by decide +kernel
theorem dX2_useStack_72 : decode cX2_useStack 72 = .ok (.return_, 1) := by decide +kernel
theorem dX2_jump_0 : decode cX2_jump 0 = .ok (.iload_n 1, 1) := by decide +kernel
theorem dX2_jump_1 : decode cX2_jump 1 = .ok (.tableswitch 88 52 55 #[31, 39, 57, 73], 31) := by decide +kernel
theorem dX2_jump_32 : decode cX2_jump 32 = .ok (.aload_n 0, 1) := by decide +kernel
theorem dX2_jump_33 : decode cX2_jump 33 = .ok (.iload_n 2, 1) := by decide +kernel
theorem dX2_jump_34 : decode cX2_jump 34 = .ok (.putfield 27, 3) := by decide +kernel
theorem dX2_jump_37 : decode cX2_jump 37 = .ok (.goto 71, 3) := by decide +kernel
theorem dX2_jump_40 : decode cX2_jump 40 = .ok (.aload_n 0, 1) := by decide +kernel
theorem dX2_jump_41 : decode cX2_jump 41 = .ok (.aload_n 0, 1) := by decide +kernel
theorem dX2_jump_42 : decode cX2_jump 42 = .ok (.getfield 27, 3) := by decide +kernel
theorem dX2_jump_45 : decode cX2_jump 45 = .ok (.iconst 1, 1) := by decide +kernel
theorem dX2_jump_46 : decode cX2_jump 46 = .ok (.isub, 1) := by decide +kernel
theorem dX2_jump_47 : decode cX2_jump 47 = .ok (.invokevirtual 156, 3) := by decide +kernel
theorem dX2_jump_50 : decode cX2_jump 50 = .ok (.aload_n 0, 1) := by decide +kernel
theorem dX2_jump_51 : decode cX2_jump 51 = .ok (.iload_n 2, 1) := by decide +kernel
theorem dX2_jump_52 : decode cX2_jump 52 = .ok (.putfield 27, 3) := by decide +kernel
theorem dX2_jump_55 : decode cX2_jump 55 = .ok (.goto 53, 3) := by decide +kernel
theorem dX2_jump_58 : decode cX2_jump 58 = .ok (.aload_n 0, 1) := by decide +kernel
theorem dX2_jump_59 : decode cX2_jump 59 = .ok (.aload_n 0, 1) := by decide +kernel
theorem dX2_jump_60 : decode cX2_jump 60 = .ok (.invokevirtual 159, 3) := by decide +kernel
theorem dX2_jump_63 : decode cX2_jump 63 = .ok (.iconst 1, 1) := by decide +kernel
theorem dX2_jump_64 : decode cX2_jump 64 = .ok (.iadd, 1) := by decide +kernel
theorem dX2_jump_65 : decode cX2_jump 65 = .ok (.ldc 66, 2) := by decide +kernel
theorem dX2_jump_67 : decode cX2_jump 67 = .ok (.iand, 1) := by decide +kernel
theorem dX2_jump_68 : decode cX2_jump 68 = .ok (.putfield 27, 3) := by decide +kernel
theorem dX2_jump_71 : decode cX2_jump 71 = .ok (.goto 37, 3) := by decide +kernel
theorem dX2_jump_74 : decode cX2_jump 74 = .ok (.aload_n 0, 1) := by decide +kernel
theorem dX2_jump_75 : decode cX2_jump 75 = .ok (.invokevirtual 153, 3) := by decide +kernel
theorem dX2_jump_78 : decode cX2_jump 78 = .ok (.aload_n 0, 1) := by decide +kernel
theorem dX2_jump_79 : decode cX2_jump 79 = .ok (.aload_n 0, 1) := by decide +kernel
theorem dX2_jump_80 : decode cX2_jump 80 = .ok (.invokevirtual 159, 3) := by decide +kernel
theorem dX2_jump_83 : decode cX2_jump 83 = .ok (.putfield 27, 3) := by decide +kernel
theorem dX2_jump_86 : decode cX2_jump 86 = .ok (.goto 22, 3) := by decide +kernel
theorem dX2_jump_89 : decode cX2_jump 89 = .ok (.aload_n 0, 1) := by decide +kernel
theorem dX2_jump_90 : decode cX2_jump 90 = .ok (.ldc 35, 2) := by decide +kernel
theorem dX2_jump_92 : decode cX2_jump 92 = .ok (.aload_n 0, 1) := by decide +kernel
theorem dX2_jump_93 : decode cX2_jump 93 = .ok (.getfield 27, 3) := by decide +kernel
theorem dX2_jump_96 : decode cX2_jump 96 = .ok (.iconst 1, 1) := by decide +kernel
theorem dX2_jump_97 : decode cX2_jump 97 = .ok (.iadd, 1) := by decide +kernel
theorem dX2_jump_98 : decode cX2_jump 98 = .ok (.aload_n 0, 1) := by decide +kernel
theorem dX2_jump_99 : decode cX2_jump 99 = .ok (.getfield 9, 3) := by decide +kernel
theorem dX2_jump_102 : decode cX2_jump 102 = .ok (.bipush 16, 2) := by decide +kernel
theorem dX2_jump_104 : decode cX2_jump 104 = .ok (.ior, 1) := by decide +kernel
theorem dX2_jump_105 : decode cX2_jump 105 = .ok (.invokevirtual 31, 3) := by decide +kernel
theorem dX2_jump_108 : decode cX2_jump 108 = .ok (.return_, 1) := by decide +kernel
theorem dX2_enter_0 : decode cX2_enter 0 = .ok (.aload_n 0, 1) := by decide +kernel
theorem dX2_enter_1 : decode cX2_enter 1 = .ok (.iload_n 2, 1) := by decide +kernel
theorem dX2_enter_2 : decode cX2_enter 2 = .ok (.invokevirtual 156, 3) := by decide +kernel
theorem dX2_enter_5 : decode cX2_enter 5 = .ok (.aload_n 0, 1) := by decide +kernel
theorem dX2_enter_6 : decode cX2_enter 6 = .ok (.iload_n 3, 1) := by decide +kernel
theorem dX2_enter_7 : decode cX2_enter 7 = .ok (.invokevirtual 147, 3) := by decide +kernel
theorem dX2_enter_10 : decode cX2_enter 10 = .ok (.aload_n 0, 1) := by decide +kernel
theorem dX2_enter_11 : decode cX2_enter 11 = .ok (.dup, 1) := by decide +kernel
theorem dX2_enter_12 : decode cX2_enter 12 = .ok (.getfield 9, 3) := by decide +kernel
theorem dX2_enter_15 : decode cX2_enter 15 = .ok (.iconst 4, 1) := by decide +kernel
theorem dX2_enter_16 : decode cX2_enter 16 = .ok (.ior, 1) := by decide +kernel
theorem dX2_enter_17 : decode cX2_enter 17 = .ok (.putfield 9, 3) := by decide +kernel
theorem dX2_enter_20 : decode cX2_enter 20 = .ok (.aload_n 0, 1) := by decide +kernel
theorem dX2_enter_21 : decode cX2_enter 21 = .ok (.aload_n 0, 1) := by decide +kernel
theorem dX2_enter_22 : decode cX2_enter 22 = .ok (.getfield 13, 3) := by decide +kernel
theorem dX2_enter_25 : decode cX2_enter 25 = .ok (.iload_n 1, 1) := by decide +kernel
theorem dX2_enter_26 : decode cX2_enter 26 = .ok (.invokevirtual 21, 3) := by decide +kernel
theorem dX2_enter_29 : decode cX2_enter 29 = .ok (.putfield 27, 3) := by decide +kernel
theorem dX2_enter_32 : decode cX2_enter 32 = .ok (.return_, 1) := by decide +kernel
theorem dX2_push_0 : decode cX2_push 0 = .ok (.aload_n 0, 1) := by decide +kernel
theorem dX2_push_1 : decode cX2_push 1 = .ok (.getfield 13, 3) := by decide +kernel
theorem dX2_push_4 : decode cX2_push 4 = .ok (.aload_n 0, 1) := by decide +kernel
theorem dX2_push_5 : decode cX2_push 5 = .ok (.getfield 17, 3) := by decide +kernel
theorem dX2_push_8 : decode cX2_push 8 = .ok (.iload_n 1, 1) := by decide +kernel
theorem dX2_push_9 : decode cX2_push 9 = .ok (.invokevirtual 162, 3) := by decide +kernel
theorem dX2_push_12 : decode cX2_push 12 = .ok (.aload_n 0, 1) := by decide +kernel
theorem dX2_push_13 : decode cX2_push 13 = .ok (.aload_n 0, 1) := by decide +kernel
theorem dX2_push_14 : decode cX2_push 14 = .ok (.getfield 17, 3) := by decide +kernel
theorem dX2_push_17 : decode cX2_push 17 = .ok (.iconst 1, 1) := by decide +kernel
theorem dX2_push_18 : decode cX2_push 18 = .ok (.isub, 1) := by decide +kernel
theorem dX2_push_19 : decode cX2_push 19 = .ok (.sipush 255, 3) := by decide +kernel
theorem dX2_push_22 : decode cX2_push 22 = .ok (.iand, 1) := by decide +kernel
theorem dX2_push_23 : decode cX2_push 23 = .ok (.putfield 17, 3) := by decide +kernel
theorem dX2_push_26 : decode cX2_push 26 = .ok (.return_, 1) := by decide +kernel
theorem dX2_pushWord_0 : decode cX2_pushWord 0 = .ok (.aload_n 0, 1) := by decide +kernel
theorem dX2_pushWord_1 : decode cX2_pushWord 1 = .ok (.iload_n 1, 1) := by decide +kernel
theorem dX2_pushWord_2 : decode cX2_pushWord 2 = .ok (.bipush 8, 2) := by decide +kernel
theorem dX2_pushWord_4 : decode cX2_pushWord 4 = .ok (.ishr, 1) := by decide +kernel
theorem dX2_pushWord_5 : decode cX2_pushWord 5 = .ok (.sipush 255, 3) := by decide +kernel
theorem dX2_pushWord_8 : decode cX2_pushWord 8 = .ok (.iand, 1) := by decide +kernel
theorem dX2_pushWord_9 : decode cX2_pushWord 9 = .ok (.invokevirtual 147, 3) := by decide +kernel
theorem dX2_pushWord_12 : decode cX2_pushWord 12 = .ok (.aload_n 0, 1) := by decide +kernel
theorem dX2_pushWord_13 : decode cX2_pushWord 13 = .ok (.iload_n 1, 1) := by decide +kernel
theorem dX2_pushWord_14 : decode cX2_pushWord 14 = .ok (.sipush 255, 3) := by decide +kernel
theorem dX2_pushWord_17 : decode cX2_pushWord 17 = .ok (.iand, 1) := by decide +kernel
theorem dX2_pushWord_18 : decode cX2_pushWord 18 = .ok (.invokevirtual 147, 3) := by decide +kernel
theorem dX2_pushWord_21 : decode cX2_pushWord 21 = .ok (.return_, 1) := by decide +kernel
theorem dX2_pull_0 : decode cX2_pull 0 = .ok (.aload_n 0, 1) := by decide +kernel
theorem dX2_pull_1 : decode cX2_pull 1 = .ok (.aload_n 0, 1) := by decide +kernel
theorem dX2_pull_2 : decode cX2_pull 2 = .ok (.getfield 17, 3) := by decide +kernel
theorem dX2_pull_5 : decode cX2_pull 5 = .ok (.iconst 1, 1) := by decide +kernel
theorem dX2_pull_6 : decode cX2_pull 6 = .ok (.iadd, 1) := by decide +kernel
theorem dX2_pull_7 : decode cX2_pull 7 = .ok (.sipush 255, 3) := by decide +kernel
theorem dX2_pull_10 : decode cX2_pull 10 = .ok (.iand, 1) := by decide +kernel
theorem dX2_pull_11 : decode cX2_pull 11 = .ok (.putfield 17, 3) := by decide +kernel
theorem dX2_pull_14 : decode cX2_pull 14 = .ok (.aload_n 0, 1) := by decide +kernel
theorem dX2_pull_15 : decode cX2_pull 15 = .ok (.getfield 13, 3) := by decide +kernel
theorem dX2_pull_18 : decode cX2_pull 18 = .ok (.aload_n 0, 1) := by decide +kernel
theorem dX2_pull_19 : decode cX2_pull 19 = .ok (.getfield 17, 3) := by decide +kernel
theorem dX2_pull_22 : decode cX2_pull 22 = .ok (.invokevirtual 165, 3) := by decide +kernel
theorem dX2_pull_25 : decode cX2_pull 25 = .ok (.ireturn, 1) := by decide +kernel
theorem dX2_pullWord_0 : decode cX2_pullWord 0 = .ok (.aload_n 0, 1) := by decide +kernel
theorem dX2_pullWord_1 : decode cX2_pullWord 1 = .ok (.invokevirtual 150, 3) := by decide +kernel
theorem dX2_pullWord_4 : decode cX2_pullWord 4 = .ok (.istore_n 1, 1) := by decide +kernel
theorem dX2_pullWord_5 : decode cX2_pullWord 5 = .ok (.iload_n 1, 1) := by decide +kernel
theorem dX2_pullWord_6 : decode cX2_pullWord 6 = .ok (.aload_n 0, 1) := by decide +kernel
theorem dX2_pullWord_7 : decode cX2_pullWord 7 = .ok (.invokevirtual 150, 3) := by decide +kernel
theorem dX2_pullWord_10 : decode cX2_pullWord 10 = .ok (.bipush 8, 2) := by decide +kernel
theorem dX2_pullWord_12 : decode cX2_pullWord 12 = .ok (.ishl, 1) := by decide +kernel
theorem dX2_pullWord_13 : decode cX2_pullWord 13 = .ok (.ior, 1) := by decide +kernel
theorem dX2_pullWord_14 : decode cX2_pullWord 14 = .ok (.ireturn, 1) := by decide +kernel
theorem dX2_pullFlags_0 : decode cX2_pullFlags 0 = .ok (.aload_n 0, 1) := by decide +kernel
theorem dX2_pullFlags_1 : decode cX2_pullFlags 1 = .ok (.aload_n 0, 1) := by decide +kernel
theorem dX2_pullFlags_2 : decode cX2_pullFlags 2 = .ok (.invokevirtual 150, 3) := by decide +kernel
theorem dX2_pullFlags_5 : decode cX2_pullFlags 5 = .ok (.bipush (-17), 2) := by decide +kernel
theorem dX2_pullFlags_7 : decode cX2_pullFlags 7 = .ok (.iand, 1) := by decide +kernel
theorem dX2_pullFlags_8 : decode cX2_pullFlags 8 = .ok (.bipush 32, 2) := by decide +kernel
theorem dX2_pullFlags_10 : decode cX2_pullFlags 10 = .ok (.ior, 1) := by decide +kernel
theorem dX2_pullFlags_11 : decode cX2_pullFlags 11 = .ok (.putfield 9, 3) := by decide +kernel
theorem dX2_pullFlags_14 : decode cX2_pullFlags 14 = .ok (.return_, 1) := by decide +kernel
theorem dX2_setFlag_0 : decode cX2_setFlag 0 = .ok (.aload_n 0, 1) := by decide +kernel
theorem dX2_setFlag_1 : decode cX2_setFlag 1 = .ok (.iload_n 2, 1) := by decide +kernel
theorem dX2_setFlag_2 : decode cX2_setFlag 2 = .ok (.ifCond .eq 12, 3) := by decide +kernel
theorem dX2_setFlag_5 : decode cX2_setFlag 5 = .ok (.aload_n 0, 1) := by decide +kernel
theorem dX2_setFlag_6 : decode cX2_setFlag 6 = .ok (.getfield 9, 3) := by decide +kernel
theorem dX2_setFlag_9 : decode cX2_setFlag 9 = .ok (.iload_n 1, 1) := by decide +kernel
theorem dX2_setFlag_10 : decode cX2_setFlag 10 = .ok (.ior, 1) := by decide +kernel
theorem dX2_setFlag_11 : decode cX2_setFlag 11 = .ok (.goto 11, 3) := by decide +kernel
theorem dX2_setFlag_14 : decode cX2_setFlag 14 = .ok (.aload_n 0, 1) := by decide +kernel
theorem dX2_setFlag_15 : decode cX2_setFlag 15 = .ok (.getfield 9, 3) := by decide +kernel
theorem dX2_setFlag_18 : decode cX2_setFlag 18 = .ok (.iload_n 1, 1) := by decide +kernel
theorem dX2_setFlag_19 : decode cX2_setFlag 19 = .ok (.iconst (-1), 1) := by decide +kernel
theorem dX2_setFlag_20 : decode cX2_setFlag 20 = .ok (.ixor, 1) := by decide +kernel
theorem dX2_setFlag_21 : decode cX2_setFlag 21 = .ok (.iand, 1) := by decide +kernel
theorem dX2_setFlag_22 : decode cX2_setFlag 22 = .ok (.putfield 9, 3) := by decide +kernel
theorem dX2_setFlag_25 : decode cX2_setFlag 25 = .ok (.return_, 1) := by decide +kernel
theorem dX2_judged_0 : decode cX2_judged 0 = .ok (.iload_n 1, 1) := by decide +kernel
theorem dX2_judged_1 : decode cX2_judged 1 = .ok (.sipush 255, 3) := by decide +kernel
theorem dX2_judged_4 : decode cX2_judged 4 = .ok (.iand, 1) := by decide +kernel
theorem dX2_judged_5 : decode cX2_judged 5 = .ok (.istore_n 2, 1) := by decide +kernel
theorem dX2_judged_6 : decode cX2_judged 6 = .ok (.aload_n 0, 1) := by decide +kernel
theorem dX2_judged_7 : decode cX2_judged 7 = .ok (.iconst 2, 1) := by decide +kernel
theorem dX2_judged_8 : decode cX2_judged 8 = .ok (.iload_n 2, 1) := by decide +kernel
theorem dX2_judged_9 : decode cX2_judged 9 = .ok (.ifCond .ne 7, 3) := by decide +kernel
theorem dX2_judged_12 : decode cX2_judged 12 = .ok (.iconst 1, 1) := by decide +kernel
theorem dX2_judged_13 : decode cX2_judged 13 = .ok (.goto 4, 3) := by decide +kernel
theorem dX2_judged_16 : decode cX2_judged 16 = .ok (.iconst 0, 1) := by decide +kernel
theorem dX2_judged_17 : decode cX2_judged 17 = .ok (.invokevirtual 130, 3) := by decide +kernel
theorem dX2_judged_20 : decode cX2_judged 20 = .ok (.aload_n 0, 1) := by decide +kernel
theorem dX2_judged_21 : decode cX2_judged 21 = .ok (.sipush 128, 3) := by decide +kernel
theorem dX2_judged_24 : decode cX2_judged 24 = .ok (.iload_n 2, 1) := by decide +kernel
theorem dX2_judged_25 : decode cX2_judged 25 = .ok (.sipush 128, 3) := by decide +kernel
theorem dX2_judged_28 : decode cX2_judged 28 = .ok (.iand, 1) := by decide +kernel
theorem dX2_judged_29 : decode cX2_judged 29 = .ok (.ifCond .eq 7, 3) := by decide +kernel
theorem dX2_judged_32 : decode cX2_judged 32 = .ok (.iconst 1, 1) := by decide +kernel
theorem dX2_judged_33 : decode cX2_judged 33 = .ok (.goto 4, 3) := by decide +kernel
theorem dX2_judged_36 : decode cX2_judged 36 = .ok (.iconst 0, 1) := by decide +kernel
theorem dX2_judged_37 : decode cX2_judged 37 = .ok (.invokevirtual 130, 3) := by decide +kernel
theorem dX2_judged_40 : decode cX2_judged 40 = .ok (.iload_n 2, 1) := by decide +kernel
theorem dX2_judged_41 : decode cX2_judged 41 = .ok (.ireturn, 1) := by decide +kernel
end
section
theorem dX3_init_0 : decode cX3_init 0 = .ok (.aload_n 0, 1) := by decide +kernel
theorem dX3_init_1 : decode cX3_init 1 = .ok (.invokespecial 1, 3) := by decide +kernel
theorem dX3_init_4 : decode cX3_init 4 = .ok (.aload_n 0, 1) := by decide +kernel
theorem dX3_init_5 : decode cX3_init 5 = .ok (.iconst 3, 1) := by decide +kernel
theorem dX3_init_6 : decode cX3_init 6 = .ok (.putfield 7, 3) := by decide +kernel
theorem dX3_init_9 : decode cX3_init 9 = .ok (.aload_n 0, 1) := by decide +kernel
theorem dX3_init_10 : decode cX3_init 10 = .ok (.invokevirtual 13, 3) := by decide +kernel
theorem dX3_init_13 : decode cX3_init 13 = .ok (.aload_n 0, 1) := by decide +kernel
theorem dX3_init_14 : decode cX3_init 14 = .ok (.invokevirtual 16, 3) := by decide +kernel
theorem dX3_init_17 : decode cX3_init 17 = .ok (.return_, 1) := by decide +kernel
theorem dX3_storeRegister_0 : decode cX3_storeRegister 0 = .ok (.iload_n 2, 1) := by decide +kernel
theorem dX3_storeRegister_1 : decode cX3_storeRegister 1 = .ok (.sipush 128, 3) := by decide +kernel
theorem dX3_storeRegister_4 : decode cX3_storeRegister 4 = .ok (.iand, 1) := by decide +kernel
theorem dX3_storeRegister_5 : decode cX3_storeRegister 5 = .ok (.ifCond .eq 15, 3) := by decide +kernel
theorem dX3_storeRegister_8 : decode cX3_storeRegister 8 = .ok (.aload_n 0, 1) := by decide +kernel
theorem dX3_storeRegister_9 : decode cX3_storeRegister 9 = .ok (.invokevirtual 19, 3) := by decide +kernel
theorem dX3_storeRegister_12 : decode cX3_storeRegister 12 = .ok (.aload_n 0, 1) := by decide +kernel
theorem dX3_storeRegister_13 : decode cX3_storeRegister 13 = .ok (.iconst 3, 1) := by decide +kernel
theorem dX3_storeRegister_14 : decode cX3_storeRegister 14 = .ok (.putfield 7, 3) := by decide +kernel
theorem dX3_storeRegister_17 : decode cX3_storeRegister 17 = .ok (.goto 56, 3) := by decide +kernel
theorem dX3_storeRegister_20 : decode cX3_storeRegister 20 = .ok (.aload_n 0, 1) := by decide +kernel
theorem dX3_storeRegister_21 : decode cX3_storeRegister 21 = .ok (.dup, 1) := by decide +kernel
theorem dX3_storeRegister_22 : decode cX3_storeRegister 22 = .ok (.getfield 22, 3) := by decide +kernel
theorem dX3_storeRegister_25 : decode cX3_storeRegister 25 = .ok (.iload_n 2, 1) := by decide +kernel
theorem dX3_storeRegister_26 : decode cX3_storeRegister 26 = .ok (.iconst 1, 1) := by decide +kernel
theorem dX3_storeRegister_27 : decode cX3_storeRegister 27 = .ok (.iand, 1) := by decide +kernel
theorem dX3_storeRegister_28 : decode cX3_storeRegister 28 = .ok (.aload_n 0, 1) := by decide +kernel
theorem dX3_storeRegister_29 : decode cX3_storeRegister 29 = .ok (.getfield 25, 3) := by decide +kernel
theorem dX3_storeRegister_32 : decode cX3_storeRegister 32 = .ok (.ishl, 1) := by decide +kernel
theorem dX3_storeRegister_33 : decode cX3_storeRegister 33 = .ok (.ior, 1) := by decide +kernel
theorem dX3_storeRegister_34 : decode cX3_storeRegister 34 = .ok (.putfield 22, 3) := by decide +kernel
theorem dX3_storeRegister_37 : decode cX3_storeRegister 37 = .ok (.aload_n 0, 1) := by decide +kernel
theorem dX3_storeRegister_38 : decode cX3_storeRegister 38 = .ok (.dup, 1) := by decide +kernel
theorem dX3_storeRegister_39 : decode cX3_storeRegister 39 = .ok (.getfield 25, 3) := by decide +kernel
theorem dX3_storeRegister_42 : decode cX3_storeRegister 42 = .ok (.iconst 1, 1) := by decide +kernel
theorem dX3_storeRegister_43 : decode cX3_storeRegister 43 = .ok (.iadd, 1) := by decide +kernel
theorem dX3_storeRegister_44 : decode cX3_storeRegister 44 = .ok (.putfield 25, 3) := by decide +kernel
theorem dX3_storeRegister_47 : decode cX3_storeRegister 47 = .ok (.aload_n 0, 1) := by decide +kernel
theorem dX3_storeRegister_48 : decode cX3_storeRegister 48 = .ok (.getfield 25, 3) := by decide +kernel
theorem dX3_storeRegister_51 : decode cX3_storeRegister 51 = .ok (.iconst 5, 1) := by decide +kernel
theorem dX3_storeRegister_52 : decode cX3_storeRegister 52 = .ok (.if_icmp .ne 21, 3) := by decide +kernel
theorem dX3_storeRegister_55 : decode cX3_storeRegister 55 = .ok (.aload_n 0, 1) := by decide +kernel
theorem dX3_storeRegister_56 : decode cX3_storeRegister 56 = .ok (.iload_n 1, 1) := by decide +kernel
theorem dX3_storeRegister_57 : decode cX3_storeRegister 57 = .ok (.bipush 13, 2) := by decide +kernel
theorem dX3_storeRegister_59 : decode cX3_storeRegister 59 = .ok (.ishr, 1) := by decide +kernel
theorem dX3_storeRegister_60 : decode cX3_storeRegister 60 = .ok (.iconst 3, 1) := by decide +kernel
theorem dX3_storeRegister_61 : decode cX3_storeRegister 61 = .ok (.iand, 1) := by decide +kernel
theorem dX3_storeRegister_62 : decode cX3_storeRegister 62 = .ok (.aload_n 0, 1) := by decide +kernel
theorem dX3_storeRegister_63 : decode cX3_storeRegister 63 = .ok (.getfield 22, 3) := by decide +kernel
theorem dX3_storeRegister_66 : decode cX3_storeRegister 66 = .ok (.invokevirtual 28, 3) := by decide +kernel
theorem dX3_storeRegister_69 : decode cX3_storeRegister 69 = .ok (.aload_n 0, 1) := by decide +kernel
theorem dX3_storeRegister_70 : decode cX3_storeRegister 70 = .ok (.invokevirtual 19, 3) := by decide +kernel
theorem dX3_storeRegister_73 : decode cX3_storeRegister 73 = .ok (.aload_n 0, 1) := by decide +kernel
theorem dX3_storeRegister_74 : decode cX3_storeRegister 74 = .ok (.invokevirtual 13, 3) := by decide +kernel
theorem dX3_storeRegister_77 : decode cX3_storeRegister 77 = .ok (.aload_n 0, 1) := by decide +kernel
theorem dX3_storeRegister_78 : decode cX3_storeRegister 78 = .ok (.invokevirtual 16, 3) := by decide +kernel
theorem dX3_storeRegister_81 : decode cX3_storeRegister 81 = .ok (.return_, 1) := by decide +kernel
theorem dX3_forgetShifted_0 : decode cX3_forgetShifted 0 = .ok (.aload_n 0, 1) := by decide +kernel
theorem dX3_forgetShifted_1 : decode cX3_forgetShifted 1 = .ok (.iconst 0, 1) := by decide +kernel
theorem dX3_forgetShifted_2 : decode cX3_forgetShifted 2 = .ok (.putfield 22, 3) := by decide +kernel
theorem dX3_forgetShifted_5 : decode cX3_forgetShifted 5 = .ok (.aload_n 0, 1) := by decide +kernel
theorem dX3_forgetShifted_6 : decode cX3_forgetShifted 6 = .ok (.iconst 0, 1) := by decide +kernel
theorem dX3_forgetShifted_7 : decode cX3_forgetShifted 7 = .ok (.putfield 25, 3) := by decide +kernel
theorem dX3_forgetShifted_10 : decode cX3_forgetShifted 10 = .ok (.return_, 1) := by decide +kernel
theorem dX3_noteLine_0 : decode cX3_noteLine 0 = .ok (.return_, 1) := by decide +kernel
theorem dX3_lineCounter_0 : decode cX3_lineCounter 0 = .ok (.iconst 0, 1) := by decide +kernel
theorem dX3_lineCounter_1 : decode cX3_lineCounter 1 = .ok (.ireturn, 1) := by decide +kernel
theorem dX3_setRegister_0 : decode cX3_setRegister 0 = .ok (.iload_n 1, 1) := by decide +kernel
theorem dX3_setRegister_1 : decode cX3_setRegister 1 = .ok (.tableswitch 71 0 2 #[27, 55, 63], 27) := by decide +kernel
theorem dX3_setRegister_28 : decode cX3_setRegister 28 = .ok (.aload_n 0, 1) := by decide +kernel
theorem dX3_setRegister_29 : decode cX3_setRegister 29 = .ok (.iload_n 2, 1) := by decide +kernel
theorem dX3_setRegister_30 : decode cX3_setRegister 30 = .ok (.iconst 3, 1) := by decide +kernel
theorem dX3_setRegister_31 : decode cX3_setRegister 31 = .ok (.iand, 1) := by decide +kernel
theorem dX3_setRegister_32 : decode cX3_setRegister 32 = .ok (.putfield 32, 3) := by decide +kernel
theorem dX3_setRegister_35 : decode cX3_setRegister 35 = .ok (.aload_n 0, 1) := by decide +kernel
theorem dX3_setRegister_36 : decode cX3_setRegister 36 = .ok (.iload_n 2, 1) := by decide +kernel
theorem dX3_setRegister_37 : decode cX3_setRegister 37 = .ok (.iconst 2, 1) := by decide +kernel
theorem dX3_setRegister_38 : decode cX3_setRegister 38 = .ok (.ishr, 1) := by decide +kernel
theorem dX3_setRegister_39 : decode cX3_setRegister 39 = .ok (.iconst 3, 1) := by decide +kernel
theorem dX3_setRegister_40 : decode cX3_setRegister 40 = .ok (.iand, 1) := by decide +kernel
theorem dX3_setRegister_41 : decode cX3_setRegister 41 = .ok (.putfield 7, 3) := by decide +kernel
theorem dX3_setRegister_44 : decode cX3_setRegister 44 = .ok (.aload_n 0, 1) := by decide +kernel
theorem dX3_setRegister_45 : decode cX3_setRegister 45 = .ok (.iload_n 2, 1) := by decide +kernel
theorem dX3_setRegister_46 : decode cX3_setRegister 46 = .ok (.iconst 4, 1) := by decide +kernel
theorem dX3_setRegister_47 : decode cX3_setRegister 47 = .ok (.ishr, 1) := by decide +kernel
theorem dX3_setRegister_48 : decode cX3_setRegister 48 = .ok (.iconst 1, 1) := by decide +kernel
theorem dX3_setRegister_49 : decode cX3_setRegister 49 = .ok (.iand, 1) := by decide +kernel
theorem dX3_setRegister_50 : decode cX3_setRegister 50 = .ok (.putfield 35, 3) := by decide +kernel
theorem dX3_setRegister_53 : decode cX3_setRegister 53 = .ok (.goto 24, 3) := by decide +kernel
theorem dX3_setRegister_56 : decode cX3_setRegister 56 = .ok (.aload_n 0, 1) := by decide +kernel
theorem dX3_setRegister_57 : decode cX3_setRegister 57 = .ok (.iload_n 2, 1) := by decide +kernel
theorem dX3_setRegister_58 : decode cX3_setRegister 58 = .ok (.putfield 38, 3) := by decide +kernel
theorem dX3_setRegister_61 : decode cX3_setRegister 61 = .ok (.goto 16, 3) := by decide +kernel
theorem dX3_setRegister_64 : decode cX3_setRegister 64 = .ok (.aload_n 0, 1) := by decide +kernel
theorem dX3_setRegister_65 : decode cX3_setRegister 65 = .ok (.iload_n 2, 1) := by decide +kernel
theorem dX3_setRegister_66 : decode cX3_setRegister 66 = .ok (.putfield 41, 3) := by decide +kernel
theorem dX3_setRegister_69 : decode cX3_setRegister 69 = .ok (.goto 8, 3) := by decide +kernel
theorem dX3_setRegister_72 : decode cX3_setRegister 72 = .ok (.aload_n 0, 1) := by decide +kernel
theorem dX3_setRegister_73 : decode cX3_setRegister 73 = .ok (.iload_n 2, 1) := by decide +kernel
theorem dX3_setRegister_74 : decode cX3_setRegister 74 = .ok (.putfield 44, 3) := by decide +kernel
theorem dX3_setRegister_77 : decode cX3_setRegister 77 = .ok (.return_, 1) := by decide +kernel
theorem dX3_mapRom_0 : decode cX3_mapRom 0 = .ok (.iconst 2, 1) := by decide +kernel
theorem dX3_mapRom_1 : decode cX3_mapRom 1 = .ok (.aload_n 0, 1) := by decide +kernel
theorem dX3_mapRom_2 : decode cX3_mapRom 2 = .ok (.getfield 44, 3) := by decide +kernel
theorem dX3_mapRom_5 : decode cX3_mapRom 5 = .ok (.iconst 3, 1) := by decide +kernel
theorem dX3_mapRom_6 : decode cX3_mapRom 6 = .ok (.iand, 1) := by decide +kernel
theorem dX3_mapRom_7 : decode cX3_mapRom 7 = .ok (.imul, 1) := by decide +kernel
theorem dX3_mapRom_8 : decode cX3_mapRom 8 = .ok (.istore_n 1, 1) := by decide +kernel
theorem dX3_mapRom_9 : decode cX3_mapRom 9 = .ok (.aload_n 0, 1) := by decide +kernel
theorem dX3_mapRom_10 : decode cX3_mapRom 10 = .ok (.getfield 7, 3) := by decide +kernel
theorem dX3_mapRom_13 : decode cX3_mapRom 13 = .ok (.iconst 2, 1) := by decide +kernel
theorem dX3_mapRom_14 : decode cX3_mapRom 14 = .ok (.if_icmp .ne 16, 3) := by decide +kernel
theorem dX3_mapRom_17 : decode cX3_mapRom 17 = .ok (.aload_n 0, 1) := by decide +kernel
theorem dX3_mapRom_18 : decode cX3_mapRom 18 = .ok (.iconst 0, 1) := by decide +kernel
theorem dX3_mapRom_19 : decode cX3_mapRom 19 = .ok (.iconst 1, 1) := by decide +kernel
theorem dX3_mapRom_20 : decode cX3_mapRom 20 = .ok (.iload_n 1, 1) := by decide +kernel
theorem dX3_mapRom_21 : decode cX3_mapRom 21 = .ok (.iload_n 1, 1) := by decide +kernel
theorem dX3_mapRom_22 : decode cX3_mapRom 22 = .ok (.iconst 1, 1) := by decide +kernel
theorem dX3_mapRom_23 : decode cX3_mapRom 23 = .ok (.iadd, 1) := by decide +kernel
theorem dX3_mapRom_24 : decode cX3_mapRom 24 = .ok (.invokevirtual 47, 3) := by decide +kernel
theorem dX3_mapRom_27 : decode cX3_mapRom 27 = .ok (.goto 51, 3) := by decide +kernel
theorem dX3_mapRom_30 : decode cX3_mapRom 30 = .ok (.aload_n 0, 1) := by decide +kernel
theorem dX3_mapRom_31 : decode cX3_mapRom 31 = .ok (.getfield 7, 3) := by decide +kernel
theorem dX3_mapRom_34 : decode cX3_mapRom 34 = .ok (.iconst 3, 1) := by decide +kernel
theorem dX3_mapRom_35 : decode cX3_mapRom 35 = .ok (.if_icmp .ne 18, 3) := by decide +kernel
theorem dX3_mapRom_38 : decode cX3_mapRom 38 = .ok (.aload_n 0, 1) := by decide +kernel
theorem dX3_mapRom_39 : decode cX3_mapRom 39 = .ok (.iload_n 1, 1) := by decide +kernel
theorem dX3_mapRom_40 : decode cX3_mapRom 40 = .ok (.iload_n 1, 1) := by decide +kernel
theorem dX3_mapRom_41 : decode cX3_mapRom 41 = .ok (.iconst 1, 1) := by decide +kernel
theorem dX3_mapRom_42 : decode cX3_mapRom 42 = .ok (.iadd, 1) := by decide +kernel
theorem dX3_mapRom_43 : decode cX3_mapRom 43 = .ok (.bipush 6, 2) := by decide +kernel
theorem dX3_mapRom_45 : decode cX3_mapRom 45 = .ok (.bipush 7, 2) := by decide +kernel
theorem dX3_mapRom_47 : decode cX3_mapRom 47 = .ok (.invokevirtual 47, 3) := by decide +kernel
theorem dX3_mapRom_50 : decode cX3_mapRom 50 = .ok (.goto 28, 3) := by decide +kernel
theorem dX3_mapRom_53 : decode cX3_mapRom 53 = .ok (.iconst 4, 1) := by decide +kernel
theorem dX3_mapRom_54 : decode cX3_mapRom 54 = .ok (.aload_n 0, 1) := by decide +kernel
theorem dX3_mapRom_55 : decode cX3_mapRom 55 = .ok (.getfield 44, 3) := by decide +kernel
theorem dX3_mapRom_58 : decode cX3_mapRom 58 = .ok (.iconst 1, 1) := by decide +kernel
theorem dX3_mapRom_59 : decode cX3_mapRom 59 = .ok (.ishr, 1) := by decide +kernel
theorem dX3_mapRom_60 : decode cX3_mapRom 60 = .ok (.iconst 1, 1) := by decide +kernel
theorem dX3_mapRom_61 : decode cX3_mapRom 61 = .ok (.iand, 1) := by decide +kernel
theorem dX3_mapRom_62 : decode cX3_mapRom 62 = .ok (.imul, 1) := by decide +kernel
theorem dX3_mapRom_63 : decode cX3_mapRom 63 = .ok (.istore_n 2, 1) := by decide +kernel
theorem dX3_mapRom_64 : decode cX3_mapRom 64 = .ok (.aload_n 0, 1) := by decide +kernel
theorem dX3_mapRom_65 : decode cX3_mapRom 65 = .ok (.iload_n 2, 1) := by decide +kernel
theorem dX3_mapRom_66 : decode cX3_mapRom 66 = .ok (.iload_n 2, 1) := by decide +kernel
theorem dX3_mapRom_67 : decode cX3_mapRom 67 = .ok (.iconst 1, 1) := by decide +kernel
theorem dX3_mapRom_68 : decode cX3_mapRom 68 = .ok (.iadd, 1) := by decide +kernel
theorem dX3_mapRom_69 : decode cX3_mapRom 69 = .ok (.iload_n 2, 1) := by decide +kernel
theorem dX3_mapRom_70 : decode cX3_mapRom 70 = .ok (.iconst 2, 1) := by decide +kernel
theorem dX3_mapRom_71 : decode cX3_mapRom 71 = .ok (.iadd, 1) := by decide +kernel
theorem dX3_mapRom_72 : decode cX3_mapRom 72 = .ok (.iload_n 2, 1) := by decide +kernel
theorem dX3_mapRom_73 : decode cX3_mapRom 73 = .ok (.iconst 3, 1) := by decide +kernel
theorem dX3_mapRom_74 : decode cX3_mapRom 74 = .ok (.iadd, 1) := by decide +kernel
theorem dX3_mapRom_75 : decode cX3_mapRom 75 = .ok (.invokevirtual 47, 3) := by decide +kernel
theorem dX3_mapRom_78 : decode cX3_mapRom 78 = .ok (.return_, 1) := by decide +kernel
theorem dX3_mapChr_0 : decode cX3_mapChr 0 = .ok (.aload_n 0, 1) := by decide +kernel
theorem dX3_mapChr_1 : decode cX3_mapChr 1 = .ok (.getfield 35, 3) := by decide +kernel
theorem dX3_mapChr_4 : decode cX3_mapChr 4 = .ok (.ifCond .ne 7, 3) := by decide +kernel
theorem dX3_mapChr_7 : decode cX3_mapChr 7 = .ok (.iconst 0, 1) := by decide +kernel
theorem dX3_mapChr_8 : decode cX3_mapChr 8 = .ok (.goto 11, 3) := by decide +kernel
theorem dX3_mapChr_11 : decode cX3_mapChr 11 = .ok (.iconst 4, 1) := by decide +kernel
theorem dX3_mapChr_12 : decode cX3_mapChr 12 = .ok (.aload_n 0, 1) := by decide +kernel
theorem dX3_mapChr_13 : decode cX3_mapChr 13 = .ok (.getfield 38, 3) := by decide +kernel
theorem dX3_mapChr_16 : decode cX3_mapChr 16 = .ok (.iconst 1, 1) := by decide +kernel
theorem dX3_mapChr_17 : decode cX3_mapChr 17 = .ok (.iand, 1) := by decide +kernel
theorem dX3_mapChr_18 : decode cX3_mapChr 18 = .ok (.imul, 1) := by decide +kernel
theorem dX3_mapChr_19 : decode cX3_mapChr 19 = .ok (.istore_n 1, 1) := by decide +kernel
theorem dX3_mapChr_20 : decode cX3_mapChr 20 = .ok (.aload_n 0, 1) := by decide +kernel
theorem dX3_mapChr_21 : decode cX3_mapChr 21 = .ok (.getfield 35, 3) := by decide +kernel
theorem dX3_mapChr_24 : decode cX3_mapChr 24 = .ok (.ifCond .ne 7, 3) := by decide +kernel
theorem dX3_mapChr_27 : decode cX3_mapChr 27 = .ok (.iconst 4, 1) := by decide +kernel
theorem dX3_mapChr_28 : decode cX3_mapChr 28 = .ok (.goto 11, 3) := by decide +kernel
theorem dX3_mapChr_31 : decode cX3_mapChr 31 = .ok (.iconst 4, 1) := by decide +kernel
theorem dX3_mapChr_32 : decode cX3_mapChr 32 = .ok (.aload_n 0, 1) := by decide +kernel
theorem dX3_mapChr_33 : decode cX3_mapChr 33 = .ok (.getfield 41, 3) := by decide +kernel
theorem dX3_mapChr_36 : decode cX3_mapChr 36 = .ok (.iconst 1, 1) := by decide +kernel
theorem dX3_mapChr_37 : decode cX3_mapChr 37 = .ok (.iand, 1) := by decide +kernel
theorem dX3_mapChr_38 : decode cX3_mapChr 38 = .ok (.imul, 1) := by decide +kernel
theorem dX3_mapChr_39 : decode cX3_mapChr 39 = .ok (.istore_n 2, 1) := by decide +kernel
theorem dX3_mapChr_40 : decode cX3_mapChr 40 = .ok (.aload_n 0, 1) := by decide +kernel
theorem dX3_mapChr_41 : decode cX3_mapChr 41 = .ok (.iconst 0, 1) := by decide +kernel
theorem dX3_mapChr_42 : decode cX3_mapChr 42 = .ok (.iload_n 1, 1) := by decide +kernel
theorem dX3_mapChr_43 : decode cX3_mapChr 43 = .ok (.iload_n 1, 1) := by decide +kernel
theorem dX3_mapChr_44 : decode cX3_mapChr 44 = .ok (.iconst 1, 1) := by decide +kernel
theorem dX3_mapChr_45 : decode cX3_mapChr 45 = .ok (.iadd, 1) := by decide +kernel
theorem dX3_mapChr_46 : decode cX3_mapChr 46 = .ok (.iload_n 1, 1) := by decide +kernel
theorem dX3_mapChr_47 : decode cX3_mapChr 47 = .ok (.iconst 2, 1) := by decide +kernel
theorem dX3_mapChr_48 : decode cX3_mapChr 48 = .ok (.iadd, 1) := by decide +kernel
theorem dX3_mapChr_49 : decode cX3_mapChr 49 = .ok (.iload_n 1, 1) := by decide +kernel
theorem dX3_mapChr_50 : decode cX3_mapChr 50 = .ok (.iconst 3, 1) := by decide +kernel
theorem dX3_mapChr_51 : decode cX3_mapChr 51 = .ok (.iadd, 1) := by decide +kernel
theorem dX3_mapChr_52 : decode cX3_mapChr 52 = .ok (.invokevirtual 51, 3) := by decide +kernel
theorem dX3_mapChr_55 : decode cX3_mapChr 55 = .ok (.aload_n 0, 1) := by decide +kernel
theorem dX3_mapChr_56 : decode cX3_mapChr 56 = .ok (.iconst 4, 1) := by decide +kernel
theorem dX3_mapChr_57 : decode cX3_mapChr 57 = .ok (.iload_n 2, 1) := by decide +kernel
theorem dX3_mapChr_58 : decode cX3_mapChr 58 = .ok (.iload_n 2, 1) := by decide +kernel
theorem dX3_mapChr_59 : decode cX3_mapChr 59 = .ok (.iconst 1, 1) := by decide +kernel
theorem dX3_mapChr_60 : decode cX3_mapChr 60 = .ok (.iadd, 1) := by decide +kernel
theorem dX3_mapChr_61 : decode cX3_mapChr 61 = .ok (.iload_n 2, 1) := by decide +kernel
theorem dX3_mapChr_62 : decode cX3_mapChr 62 = .ok (.iconst 2, 1) := by decide +kernel
theorem dX3_mapChr_63 : decode cX3_mapChr 63 = .ok (.iadd, 1) := by decide +kernel
theorem dX3_mapChr_64 : decode cX3_mapChr 64 = .ok (.iload_n 2, 1) := by decide +kernel
theorem dX3_mapChr_65 : decode cX3_mapChr 65 = .ok (.iconst 3, 1) := by decide +kernel
theorem dX3_mapChr_66 : decode cX3_mapChr 66 = .ok (.iadd, 1) := by decide +kernel
theorem dX3_mapChr_67 : decode cX3_mapChr 67 = .ok (.invokevirtual 51, 3) := by decide +kernel
theorem dX3_mapChr_70 : decode cX3_mapChr 70 = .ok (.return_, 1) := by decide +kernel
theorem dX4_init_0 : decode cX4_init 0 = .ok (.aload_n 0, 1) := by decide +kernel
theorem dX4_init_1 : decode cX4_init 1 = .ok (.invokespecial 1, 3) := by decide +kernel
theorem dX4_init_4 : decode cX4_init 4 = .ok (.aload_n 0, 1) := by decide +kernel
theorem dX4_init_5 : decode cX4_init 5 = .ok (.bipush 8, 2) := by decide +kernel
theorem dX4_init_7 : decode cX4_init 7 = .ok (.newarray .int, 2) := by decide +kernel
theorem dX4_init_9 : decode cX4_init 9 = .ok (.putfield 7, 3) := by decide +kernel
theorem dX4_init_12 : decode cX4_init 12 = .ok (.aload_n 0, 1) := by decide +kernel
theorem dX4_init_13 : decode cX4_init 13 = .ok (.iconst 2, 1) := by decide +kernel
theorem dX4_init_14 : decode cX4_init 14 = .ok (.putfield 13, 3) := by decide +kernel
theorem dX4_init_17 : decode cX4_init 17 = .ok (.aload_n 0, 1) := by decide +kernel
theorem dX4_init_18 : decode cX4_init 18 = .ok (.invokevirtual 17, 3) := by decide +kernel
theorem dX4_init_21 : decode cX4_init 21 = .ok (.aload_n 0, 1) := by decide +kernel
theorem dX4_init_22 : decode cX4_init 22 = .ok (.invokevirtual 20, 3) := by decide +kernel
theorem dX4_init_25 : decode cX4_init 25 = .ok (.return_, 1) := by decide +kernel
theorem dX4_storeRegister_0 : decode cX4_storeRegister 0 = .ok (.iload_n 1, 1) := by decide +kernel
theorem dX4_storeRegister_1 : decode cX4_storeRegister 1 = .ok (.bipush 12, 2) := by decide +kernel
theorem dX4_storeRegister_3 : decode cX4_storeRegister 3 = .ok (.ishr, 1) := by decide +kernel
theorem dX4_storeRegister_4 : decode cX4_storeRegister 4 = .ok (.bipush 6, 2) := by decide +kernel
theorem dX4_storeRegister_6 : decode cX4_storeRegister 6 = .ok (.iand, 1) := by decide +kernel
theorem dX4_storeRegister_7 : decode cX4_storeRegister 7 = .ok (.iload_n 1, 1) := by decide +kernel
theorem dX4_storeRegister_8 : decode cX4_storeRegister 8 = .ok (.iconst 1, 1) := by decide +kernel
theorem dX4_storeRegister_9 : decode cX4_storeRegister 9 = .ok (.iand, 1) := by decide +kernel
theorem dX4_storeRegister_10 : decode cX4_storeRegister 10 = .ok (.ior, 1) := by decide +kernel
theorem dX4_storeRegister_11 : decode cX4_storeRegister 11 = .ok (.tableswitch 118 0 7 #[45, 53, 69, 118, 81, 89, 97, 110], 45) := by decide +kernel
theorem dX4_storeRegister_56 : decode cX4_storeRegister 56 = .ok (.aload_n 0, 1) := by decide +kernel
theorem dX4_storeRegister_57 : decode cX4_storeRegister 57 = .ok (.iload_n 2, 1) := by decide +kernel
theorem dX4_storeRegister_58 : decode cX4_storeRegister 58 = .ok (.putfield 23, 3) := by decide +kernel
theorem dX4_storeRegister_61 : decode cX4_storeRegister 61 = .ok (.goto 68, 3) := by decide +kernel
theorem dX4_storeRegister_64 : decode cX4_storeRegister 64 = .ok (.aload_n 0, 1) := by decide +kernel
theorem dX4_storeRegister_65 : decode cX4_storeRegister 65 = .ok (.getfield 7, 3) := by decide +kernel
theorem dX4_storeRegister_68 : decode cX4_storeRegister 68 = .ok (.aload_n 0, 1) := by decide +kernel
theorem dX4_storeRegister_69 : decode cX4_storeRegister 69 = .ok (.getfield 23, 3) := by decide +kernel
theorem dX4_storeRegister_72 : decode cX4_storeRegister 72 = .ok (.bipush 7, 2) := by decide +kernel
theorem dX4_storeRegister_74 : decode cX4_storeRegister 74 = .ok (.iand, 1) := by decide +kernel
theorem dX4_storeRegister_75 : decode cX4_storeRegister 75 = .ok (.iload_n 2, 1) := by decide +kernel
theorem dX4_storeRegister_76 : decode cX4_storeRegister 76 = .ok (.iastore, 1) := by decide +kernel
theorem dX4_storeRegister_77 : decode cX4_storeRegister 77 = .ok (.goto 52, 3) := by decide +kernel
theorem dX4_storeRegister_80 : decode cX4_storeRegister 80 = .ok (.aload_n 0, 1) := by decide +kernel
theorem dX4_storeRegister_81 : decode cX4_storeRegister 81 = .ok (.iconst 2, 1) := by decide +kernel
theorem dX4_storeRegister_82 : decode cX4_storeRegister 82 = .ok (.iload_n 2, 1) := by decide +kernel
theorem dX4_storeRegister_83 : decode cX4_storeRegister 83 = .ok (.iconst 1, 1) := by decide +kernel
theorem dX4_storeRegister_84 : decode cX4_storeRegister 84 = .ok (.iand, 1) := by decide +kernel
theorem dX4_storeRegister_85 : decode cX4_storeRegister 85 = .ok (.ior, 1) := by decide +kernel
theorem dX4_storeRegister_86 : decode cX4_storeRegister 86 = .ok (.putfield 13, 3) := by decide +kernel
theorem dX4_storeRegister_89 : decode cX4_storeRegister 89 = .ok (.goto 40, 3) := by decide +kernel
theorem dX4_storeRegister_92 : decode cX4_storeRegister 92 = .ok (.aload_n 0, 1) := by decide +kernel
theorem dX4_storeRegister_93 : decode cX4_storeRegister 93 = .ok (.iload_n 2, 1) := by decide +kernel
theorem dX4_storeRegister_94 : decode cX4_storeRegister 94 = .ok (.putfield 26, 3) := by decide +kernel
theorem dX4_storeRegister_97 : decode cX4_storeRegister 97 = .ok (.goto 32, 3) := by decide +kernel
theorem dX4_storeRegister_100 : decode cX4_storeRegister 100 = .ok (.aload_n 0, 1) := by decide +kernel
theorem dX4_storeRegister_101 : decode cX4_storeRegister 101 = .ok (.iconst 0, 1) := by decide +kernel
theorem dX4_storeRegister_102 : decode cX4_storeRegister 102 = .ok (.putfield 29, 3) := by decide +kernel
theorem dX4_storeRegister_105 : decode cX4_storeRegister 105 = .ok (.goto 24, 3) := by decide +kernel
theorem dX4_storeRegister_108 : decode cX4_storeRegister 108 = .ok (.aload_n 0, 1) := by decide +kernel
theorem dX4_storeRegister_109 : decode cX4_storeRegister 109 = .ok (.iconst 0, 1) := by decide +kernel
theorem dX4_storeRegister_110 : decode cX4_storeRegister 110 = .ok (.putfield 32, 3) := by decide +kernel
theorem dX4_storeRegister_113 : decode cX4_storeRegister 113 = .ok (.aload_n 0, 1) := by decide +kernel
theorem dX4_storeRegister_114 : decode cX4_storeRegister 114 = .ok (.iconst 0, 1) := by decide +kernel
theorem dX4_storeRegister_115 : decode cX4_storeRegister 115 = .ok (.putfield 36, 3) := by decide +kernel
theorem dX4_storeRegister_118 : decode cX4_storeRegister 118 = .ok (.goto 11, 3) := by decide +kernel
theorem dX4_storeRegister_121 : decode cX4_storeRegister 121 = .ok (.aload_n 0, 1) := by decide +kernel
theorem dX4_storeRegister_122 : decode cX4_storeRegister 122 = .ok (.iconst 1, 1) := by decide +kernel
theorem dX4_storeRegister_123 : decode cX4_storeRegister 123 = .ok (.putfield 32, 3) := by decide +kernel
theorem dX4_storeRegister_126 : decode cX4_storeRegister 126 = .ok (.goto 3, 3) := by decide +kernel
theorem dX4_storeRegister_129 : decode cX4_storeRegister 129 = .ok (.aload_n 0, 1) := by decide +kernel
theorem dX4_storeRegister_130 : decode cX4_storeRegister 130 = .ok (.invokevirtual 17, 3) := by decide +kernel
theorem dX4_storeRegister_133 : decode cX4_storeRegister 133 = .ok (.aload_n 0, 1) := by decide +kernel
theorem dX4_storeRegister_134 : decode cX4_storeRegister 134 = .ok (.invokevirtual 20, 3) := by decide +kernel
theorem dX4_storeRegister_137 : decode cX4_storeRegister 137 = .ok (.return_, 1) := by decide +kernel
theorem dX4_forgetShifted_0 : decode cX4_forgetShifted 0 = .ok (.return_, 1) := by decide +kernel
theorem dX4_noteLine_0 : decode cX4_noteLine 0 = .ok (.aload_n 0, 1) := by decide +kernel
theorem dX4_noteLine_1 : decode cX4_noteLine 1 = .ok (.aload_n 0, 1) := by decide +kernel
theorem dX4_noteLine_2 : decode cX4_noteLine 2 = .ok (.getfield 29, 3) := by decide +kernel
theorem dX4_noteLine_5 : decode cX4_noteLine 5 = .ok (.ifCond .ne 10, 3) := by decide +kernel
theorem dX4_noteLine_8 : decode cX4_noteLine 8 = .ok (.aload_n 0, 1) := by decide +kernel
theorem dX4_noteLine_9 : decode cX4_noteLine 9 = .ok (.getfield 26, 3) := by decide +kernel
theorem dX4_noteLine_12 : decode cX4_noteLine 12 = .ok (.goto 9, 3) := by decide +kernel
theorem dX4_noteLine_15 : decode cX4_noteLine 15 = .ok (.aload_n 0, 1) := by decide +kernel
theorem dX4_noteLine_16 : decode cX4_noteLine 16 = .ok (.getfield 29, 3) := by decide +kernel
theorem dX4_noteLine_19 : decode cX4_noteLine 19 = .ok (.iconst 1, 1) := by decide +kernel
theorem dX4_noteLine_20 : decode cX4_noteLine 20 = .ok (.isub, 1) := by decide +kernel
theorem dX4_noteLine_21 : decode cX4_noteLine 21 = .ok (.putfield 29, 3) := by decide +kernel
theorem dX4_noteLine_24 : decode cX4_noteLine 24 = .ok (.aload_n 0, 1) := by decide +kernel
theorem dX4_noteLine_25 : decode cX4_noteLine 25 = .ok (.getfield 29, 3) := by decide +kernel
theorem dX4_noteLine_28 : decode cX4_noteLine 28 = .ok (.ifCond .ne 15, 3) := by decide +kernel
theorem dX4_noteLine_31 : decode cX4_noteLine 31 = .ok (.aload_n 0, 1) := by decide +kernel
theorem dX4_noteLine_32 : decode cX4_noteLine 32 = .ok (.getfield 32, 3) := by decide +kernel
theorem dX4_noteLine_35 : decode cX4_noteLine 35 = .ok (.ifCond .eq 8, 3) := by decide +kernel
theorem dX4_noteLine_38 : decode cX4_noteLine 38 = .ok (.aload_n 0, 1) := by decide +kernel
theorem dX4_noteLine_39 : decode cX4_noteLine 39 = .ok (.iconst 1, 1) := by decide +kernel
theorem dX4_noteLine_40 : decode cX4_noteLine 40 = .ok (.putfield 36, 3) := by decide +kernel
theorem dX4_noteLine_43 : decode cX4_noteLine 43 = .ok (.return_, 1) := by decide +kernel
theorem dX4_lineCounter_0 : decode cX4_lineCounter 0 = .ok (.aload_n 0, 1) := by decide +kernel
theorem dX4_lineCounter_1 : decode cX4_lineCounter 1 = .ok (.getfield 29, 3) := by decide +kernel
theorem dX4_lineCounter_4 : decode cX4_lineCounter 4 = .ok (.ireturn, 1) := by decide +kernel
theorem dX4_mapRom_0 : decode cX4_mapRom 0 = .ok (.aload_n 0, 1) := by decide +kernel
theorem dX4_mapRom_1 : decode cX4_mapRom 1 = .ok (.getfield 23, 3) := by decide +kernel
theorem dX4_mapRom_4 : decode cX4_mapRom 4 = .ok (.bipush 64, 2) := by decide +kernel
theorem dX4_mapRom_6 : decode cX4_mapRom 6 = .ok (.iand, 1) := by decide +kernel
theorem dX4_mapRom_7 : decode cX4_mapRom 7 = .ok (.ifCond .ne 28, 3) := by decide +kernel
theorem dX4_mapRom_10 : decode cX4_mapRom 10 = .ok (.aload_n 0, 1) := by decide +kernel
theorem dX4_mapRom_11 : decode cX4_mapRom 11 = .ok (.aload_n 0, 1) := by decide +kernel
theorem dX4_mapRom_12 : decode cX4_mapRom 12 = .ok (.getfield 7, 3) := by decide +kernel
theorem dX4_mapRom_15 : decode cX4_mapRom 15 = .ok (.bipush 6, 2) := by decide +kernel
theorem dX4_mapRom_17 : decode cX4_mapRom 17 = .ok (.iaload, 1) := by decide +kernel
theorem dX4_mapRom_18 : decode cX4_mapRom 18 = .ok (.aload_n 0, 1) := by decide +kernel
theorem dX4_mapRom_19 : decode cX4_mapRom 19 = .ok (.getfield 7, 3) := by decide +kernel
theorem dX4_mapRom_22 : decode cX4_mapRom 22 = .ok (.bipush 7, 2) := by decide +kernel
theorem dX4_mapRom_24 : decode cX4_mapRom 24 = .ok (.iaload, 1) := by decide +kernel
theorem dX4_mapRom_25 : decode cX4_mapRom 25 = .ok (.bipush 6, 2) := by decide +kernel
theorem dX4_mapRom_27 : decode cX4_mapRom 27 = .ok (.bipush 7, 2) := by decide +kernel
theorem dX4_mapRom_29 : decode cX4_mapRom 29 = .ok (.invokevirtual 39, 3) := by decide +kernel
theorem dX4_mapRom_32 : decode cX4_mapRom 32 = .ok (.goto 25, 3) := by decide +kernel
theorem dX4_mapRom_35 : decode cX4_mapRom 35 = .ok (.aload_n 0, 1) := by decide +kernel
theorem dX4_mapRom_36 : decode cX4_mapRom 36 = .ok (.bipush 6, 2) := by decide +kernel
theorem dX4_mapRom_38 : decode cX4_mapRom 38 = .ok (.aload_n 0, 1) := by decide +kernel
theorem dX4_mapRom_39 : decode cX4_mapRom 39 = .ok (.getfield 7, 3) := by decide +kernel
theorem dX4_mapRom_42 : decode cX4_mapRom 42 = .ok (.bipush 7, 2) := by decide +kernel
theorem dX4_mapRom_44 : decode cX4_mapRom 44 = .ok (.iaload, 1) := by decide +kernel
theorem dX4_mapRom_45 : decode cX4_mapRom 45 = .ok (.aload_n 0, 1) := by decide +kernel
theorem dX4_mapRom_46 : decode cX4_mapRom 46 = .ok (.getfield 7, 3) := by decide +kernel
theorem dX4_mapRom_49 : decode cX4_mapRom 49 = .ok (.bipush 6, 2) := by decide +kernel
theorem dX4_mapRom_51 : decode cX4_mapRom 51 = .ok (.iaload, 1) := by decide +kernel
theorem dX4_mapRom_52 : decode cX4_mapRom 52 = .ok (.bipush 7, 2) := by decide +kernel
theorem dX4_mapRom_54 : decode cX4_mapRom 54 = .ok (.invokevirtual 39, 3) := by decide +kernel
theorem dX4_mapRom_57 : decode cX4_mapRom 57 = .ok (.return_, 1) := by decide +kernel
theorem dX4_mapChr_0 : decode cX4_mapChr 0 = .ok (.aload_n 0, 1) := by decide +kernel
theorem dX4_mapChr_1 : decode cX4_mapChr 1 = .ok (.getfield 23, 3) := by decide +kernel
theorem dX4_mapChr_4 : decode cX4_mapChr 4 = .ok (.sipush 128, 3) := by decide +kernel
theorem dX4_mapChr_7 : decode cX4_mapChr 7 = .ok (.iand, 1) := by decide +kernel
theorem dX4_mapChr_8 : decode cX4_mapChr 8 = .ok (.ifCond .ne 7, 3) := by decide +kernel
theorem dX4_mapChr_11 : decode cX4_mapChr 11 = .ok (.iconst 0, 1) := by decide +kernel
theorem dX4_mapChr_12 : decode cX4_mapChr 12 = .ok (.goto 4, 3) := by decide +kernel
theorem dX4_mapChr_15 : decode cX4_mapChr 15 = .ok (.iconst 4, 1) := by decide +kernel
theorem dX4_mapChr_16 : decode cX4_mapChr 16 = .ok (.istore_n 1, 1) := by decide +kernel
theorem dX4_mapChr_17 : decode cX4_mapChr 17 = .ok (.aload_n 0, 1) := by decide +kernel
theorem dX4_mapChr_18 : decode cX4_mapChr 18 = .ok (.getfield 7, 3) := by decide +kernel
theorem dX4_mapChr_21 : decode cX4_mapChr 21 = .ok (.iconst 0, 1) := by decide +kernel
theorem dX4_mapChr_22 : decode cX4_mapChr 22 = .ok (.iaload, 1) := by decide +kernel
theorem dX4_mapChr_23 : decode cX4_mapChr 23 = .ok (.istore_n 2, 1) := by decide +kernel
theorem dX4_mapChr_24 : decode cX4_mapChr 24 = .ok (.aload_n 0, 1) := by decide +kernel
theorem dX4_mapChr_25 : decode cX4_mapChr 25 = .ok (.getfield 7, 3) := by decide +kernel
theorem dX4_mapChr_28 : decode cX4_mapChr 28 = .ok (.iconst 1, 1) := by decide +kernel
theorem dX4_mapChr_29 : decode cX4_mapChr 29 = .ok (.iaload, 1) := by decide +kernel
theorem dX4_mapChr_30 : decode cX4_mapChr 30 = .ok (.istore_n 3, 1) := by decide +kernel
theorem dX4_mapChr_31 : decode cX4_mapChr 31 = .ok (.aload_n 0, 1) := by decide +kernel
theorem dX4_mapChr_32 : decode cX4_mapChr 32 = .ok (.iload_n 1, 1) := by decide +kernel
theorem dX4_mapChr_33 : decode cX4_mapChr 33 = .ok (.iload_n 2, 1) := by decide +kernel
theorem dX4_mapChr_34 : decode cX4_mapChr 34 = .ok (.bipush (-2), 2) := by decide +kernel
theorem dX4_mapChr_36 : decode cX4_mapChr 36 = .ok (.iand, 1) := by decide +kernel
theorem dX4_mapChr_37 : decode cX4_mapChr 37 = .ok (.iload_n 2, 1) := by decide +kernel
theorem dX4_mapChr_38 : decode cX4_mapChr 38 = .ok (.iconst 1, 1) := by decide +kernel
theorem dX4_mapChr_39 : decode cX4_mapChr 39 = .ok (.ior, 1) := by decide +kernel
theorem dX4_mapChr_40 : decode cX4_mapChr 40 = .ok (.iload_n 3, 1) := by decide +kernel
theorem dX4_mapChr_41 : decode cX4_mapChr 41 = .ok (.bipush (-2), 2) := by decide +kernel
theorem dX4_mapChr_43 : decode cX4_mapChr 43 = .ok (.iand, 1) := by decide +kernel
theorem dX4_mapChr_44 : decode cX4_mapChr 44 = .ok (.iload_n 3, 1) := by decide +kernel
theorem dX4_mapChr_45 : decode cX4_mapChr 45 = .ok (.iconst 1, 1) := by decide +kernel
theorem dX4_mapChr_46 : decode cX4_mapChr 46 = .ok (.ior, 1) := by decide +kernel
theorem dX4_mapChr_47 : decode cX4_mapChr 47 = .ok (.invokevirtual 43, 3) := by decide +kernel
theorem dX4_mapChr_50 : decode cX4_mapChr 50 = .ok (.aload_n 0, 1) := by decide +kernel
theorem dX4_mapChr_51 : decode cX4_mapChr 51 = .ok (.iconst 4, 1) := by decide +kernel
theorem dX4_mapChr_52 : decode cX4_mapChr 52 = .ok (.iload_n 1, 1) := by decide +kernel
theorem dX4_mapChr_53 : decode cX4_mapChr 53 = .ok (.isub, 1) := by decide +kernel
theorem dX4_mapChr_54 : decode cX4_mapChr 54 = .ok (.aload_n 0, 1) := by decide +kernel
theorem dX4_mapChr_55 : decode cX4_mapChr 55 = .ok (.getfield 7, 3) := by decide +kernel
theorem dX4_mapChr_58 : decode cX4_mapChr 58 = .ok (.iconst 2, 1) := by decide +kernel
theorem dX4_mapChr_59 : decode cX4_mapChr 59 = .ok (.iaload, 1) := by decide +kernel
theorem dX4_mapChr_60 : decode cX4_mapChr 60 = .ok (.aload_n 0, 1) := by decide +kernel
theorem dX4_mapChr_61 : decode cX4_mapChr 61 = .ok (.getfield 7, 3) := by decide +kernel
theorem dX4_mapChr_64 : decode cX4_mapChr 64 = .ok (.iconst 3, 1) := by decide +kernel
theorem dX4_mapChr_65 : decode cX4_mapChr 65 = .ok (.iaload, 1) := by decide +kernel
theorem dX4_mapChr_66 : decode cX4_mapChr 66 = .ok (.aload_n 0, 1) := by decide +kernel
theorem dX4_mapChr_67 : decode cX4_mapChr 67 = .ok (.getfield 7, 3) := by decide +kernel
theorem dX4_mapChr_70 : decode cX4_mapChr 70 = .ok (.iconst 4, 1) := by decide +kernel
theorem dX4_mapChr_71 : decode cX4_mapChr 71 = .ok (.iaload, 1) := by decide +kernel
theorem dX4_mapChr_72 : decode cX4_mapChr 72 = .ok (.aload_n 0, 1) := by decide +kernel
theorem dX4_mapChr_73 : decode cX4_mapChr 73 = .ok (.getfield 7, 3) := by decide +kernel
theorem dX4_mapChr_76 : decode cX4_mapChr 76 = .ok (.iconst 5, 1) := by decide +kernel
theorem dX4_mapChr_77 : decode cX4_mapChr 77 = .ok (.iaload, 1) := by decide +kernel
theorem dX4_mapChr_78 : decode cX4_mapChr 78 = .ok (.invokevirtual 43, 3) := by decide +kernel
theorem dX4_mapChr_81 : decode cX4_mapChr 81 = .ok (.return_, 1) := by decide +kernel
theorem dX6_init_0 : decode cX6_init 0 = .ok (.aload_n 0, 1) := by decide +kernel
theorem dX6_init_1 : decode cX6_init 1 = .ok (.invokespecial 1, 3) := by decide +kernel
theorem dX6_init_4 : decode cX6_init 4 = .ok (.aload_n 0, 1) := by decide +kernel
theorem dX6_init_5 : decode cX6_init 5 = .ok (.iconst 2, 1) := by decide +kernel
theorem dX6_init_6 : decode cX6_init 6 = .ok (.newarray .int, 2) := by decide +kernel
theorem dX6_init_8 : decode cX6_init 8 = .ok (.putfield 7, 3) := by decide +kernel
theorem dX6_init_11 : decode cX6_init 11 = .ok (.aload_n 0, 1) := by decide +kernel
theorem dX6_init_12 : decode cX6_init 12 = .ok (.iconst 2, 1) := by decide +kernel
theorem dX6_init_13 : decode cX6_init 13 = .ok (.newarray .int, 2) := by decide +kernel
theorem dX6_init_15 : decode cX6_init 15 = .ok (.dup, 1) := by decide +kernel
theorem dX6_init_16 : decode cX6_init 16 = .ok (.iconst 0, 1) := by decide +kernel
theorem dX6_init_17 : decode cX6_init 17 = .ok (.sipush 255, 3) := by decide +kernel
theorem dX6_init_20 : decode cX6_init 20 = .ok (.iastore, 1) := by decide +kernel
theorem dX6_init_21 : decode cX6_init 21 = .ok (.dup, 1) := by decide +kernel
theorem dX6_init_22 : decode cX6_init 22 = .ok (.iconst 1, 1) := by decide +kernel
theorem dX6_init_23 : decode cX6_init 23 = .ok (.sipush 255, 3) := by decide +kernel
theorem dX6_init_26 : decode cX6_init 26 = .ok (.iastore, 1) := by decide +kernel
theorem dX6_init_27 : decode cX6_init 27 = .ok (.putfield 13, 3) := by decide +kernel
theorem dX6_init_30 : decode cX6_init 30 = .ok (.return_, 1) := by decide +kernel
theorem dX6_setStrobe_0 : decode cX6_setStrobe 0 = .ok (.aload_n 0, 1) := by decide +kernel
theorem dX6_setStrobe_1 : decode cX6_setStrobe 1 = .ok (.getfield 16, 3) := by decide +kernel
theorem dX6_setStrobe_4 : decode cX6_setStrobe 4 = .ok (.ifCond .eq 31, 3) := by decide +kernel
theorem dX6_setStrobe_7 : decode cX6_setStrobe 7 = .ok (.iload_n 1, 1) := by decide +kernel
theorem dX6_setStrobe_8 : decode cX6_setStrobe 8 = .ok (.ifCond .ne 27, 3) := by decide +kernel
theorem dX6_setStrobe_11 : decode cX6_setStrobe 11 = .ok (.aload_n 0, 1) := by decide +kernel
theorem dX6_setStrobe_12 : decode cX6_setStrobe 12 = .ok (.getfield 13, 3) := by decide +kernel
theorem dX6_setStrobe_15 : decode cX6_setStrobe 15 = .ok (.iconst 0, 1) := by decide +kernel
theorem dX6_setStrobe_16 : decode cX6_setStrobe 16 = .ok (.aload_n 0, 1) := by decide +kernel
theorem dX6_setStrobe_17 : decode cX6_setStrobe 17 = .ok (.getfield 7, 3) := by decide +kernel
theorem dX6_setStrobe_20 : decode cX6_setStrobe 20 = .ok (.iconst 0, 1) := by decide +kernel
theorem dX6_setStrobe_21 : decode cX6_setStrobe 21 = .ok (.iaload, 1) := by decide +kernel
theorem dX6_setStrobe_22 : decode cX6_setStrobe 22 = .ok (.iastore, 1) := by decide +kernel
theorem dX6_setStrobe_23 : decode cX6_setStrobe 23 = .ok (.aload_n 0, 1) := by decide +kernel
theorem dX6_setStrobe_24 : decode cX6_setStrobe 24 = .ok (.getfield 13, 3) := by decide +kernel
theorem dX6_setStrobe_27 : decode cX6_setStrobe 27 = .ok (.iconst 1, 1) := by decide +kernel
theorem dX6_setStrobe_28 : decode cX6_setStrobe 28 = .ok (.aload_n 0, 1) := by decide +kernel
theorem dX6_setStrobe_29 : decode cX6_setStrobe 29 = .ok (.getfield 7, 3) := by decide +kernel
theorem dX6_setStrobe_32 : decode cX6_setStrobe 32 = .ok (.iconst 1, 1) := by decide +kernel
theorem dX6_setStrobe_33 : decode cX6_setStrobe 33 = .ok (.iaload, 1) := by decide +kernel
theorem dX6_setStrobe_34 : decode cX6_setStrobe 34 = .ok (.iastore, 1) := by decide +kernel
theorem dX6_setStrobe_35 : decode cX6_setStrobe 35 = .ok (.aload_n 0, 1) := by decide +kernel
theorem dX6_setStrobe_36 : decode cX6_setStrobe 36 = .ok (.iload_n 1, 1) := by decide +kernel
theorem dX6_setStrobe_37 : decode cX6_setStrobe 37 = .ok (.putfield 16, 3) := by decide +kernel
theorem dX6_setStrobe_40 : decode cX6_setStrobe 40 = .ok (.return_, 1) := by decide +kernel
theorem dX6_nextBit_0 : decode cX6_nextBit 0 = .ok (.iload_n 1, 1) := by decide +kernel
theorem dX6_nextBit_1 : decode cX6_nextBit 1 = .ok (.iconst 1, 1) := by decide +kernel
theorem dX6_nextBit_2 : decode cX6_nextBit 2 = .ok (.iand, 1) := by decide +kernel
theorem dX6_nextBit_3 : decode cX6_nextBit 3 = .ok (.istore_n 2, 1) := by decide +kernel
theorem dX6_nextBit_4 : decode cX6_nextBit 4 = .ok (.aload_n 0, 1) := by decide +kernel
theorem dX6_nextBit_5 : decode cX6_nextBit 5 = .ok (.getfield 16, 3) := by decide +kernel
theorem dX6_nextBit_8 : decode cX6_nextBit 8 = .ok (.ifCond .eq 12, 3) := by decide +kernel
theorem dX6_nextBit_11 : decode cX6_nextBit 11 = .ok (.aload_n 0, 1) := by decide +kernel
theorem dX6_nextBit_12 : decode cX6_nextBit 12 = .ok (.getfield 7, 3) := by decide +kernel
theorem dX6_nextBit_15 : decode cX6_nextBit 15 = .ok (.iload_n 2, 1) := by decide +kernel
theorem dX6_nextBit_16 : decode cX6_nextBit 16 = .ok (.iaload, 1) := by decide +kernel
theorem dX6_nextBit_17 : decode cX6_nextBit 17 = .ok (.iconst 1, 1) := by decide +kernel
theorem dX6_nextBit_18 : decode cX6_nextBit 18 = .ok (.iand, 1) := by decide +kernel
theorem dX6_nextBit_19 : decode cX6_nextBit 19 = .ok (.ireturn, 1) := by decide +kernel
theorem dX6_nextBit_20 : decode cX6_nextBit 20 = .ok (.aload_n 0, 1) := by decide +kernel
theorem dX6_nextBit_21 : decode cX6_nextBit 21 = .ok (.getfield 13, 3) := by decide +kernel
theorem dX6_nextBit_24 : decode cX6_nextBit 24 = .ok (.iload_n 2, 1) := by decide +kernel
theorem dX6_nextBit_25 : decode cX6_nextBit 25 = .ok (.iaload, 1) := by decide +kernel
theorem dX6_nextBit_26 : decode cX6_nextBit 26 = .ok (.iconst 1, 1) := by decide +kernel
theorem dX6_nextBit_27 : decode cX6_nextBit 27 = .ok (.iand, 1) := by decide +kernel
theorem dX6_nextBit_28 : decode cX6_nextBit 28 = .ok (.istore_n 3, 1) := by decide +kernel
theorem dX6_nextBit_29 : decode cX6_nextBit 29 = .ok (.aload_n 0, 1) := by decide +kernel
theorem dX6_nextBit_30 : decode cX6_nextBit 30 = .ok (.getfield 13, 3) := by decide +kernel
theorem dX6_nextBit_33 : decode cX6_nextBit 33 = .ok (.iload_n 2, 1) := by decide +kernel
theorem dX6_nextBit_34 : decode cX6_nextBit 34 = .ok (.aload_n 0, 1) := by decide +kernel
theorem dX6_nextBit_35 : decode cX6_nextBit 35 = .ok (.getfield 13, 3) := by decide +kernel
theorem dX6_nextBit_38 : decode cX6_nextBit 38 = .ok (.iload_n 2, 1) := by decide +kernel
theorem dX6_nextBit_39 : decode cX6_nextBit 39 = .ok (.iaload, 1) := by decide +kernel
theorem dX6_nextBit_40 : decode cX6_nextBit 40 = .ok (.iconst 1, 1) := by decide +kernel
theorem dX6_nextBit_41 : decode cX6_nextBit 41 = .ok (.ishr, 1) := by decide +kernel
theorem dX6_nextBit_42 : decode cX6_nextBit 42 = .ok (.sipush 128, 3) := by decide +kernel
theorem dX6_nextBit_45 : decode cX6_nextBit 45 = .ok (.ior, 1) := by decide +kernel
theorem dX6_nextBit_46 : decode cX6_nextBit 46 = .ok (.iastore, 1) := by decide +kernel
theorem dX6_nextBit_47 : decode cX6_nextBit 47 = .ok (.iload_n 3, 1) := by decide +kernel
theorem dX6_nextBit_48 : decode cX6_nextBit 48 = .ok (.ireturn, 1) := by decide +kernel
theorem dX7_init_0 : decode cX7_init 0 = .ok (.aload_n 0, 1) := by decide +kernel
theorem dX7_init_1 : decode cX7_init 1 = .ok (.invokespecial 1, 3) := by decide +kernel
theorem dX7_init_4 : decode cX7_init 4 = .ok (.aload_n 0, 1) := by decide +kernel
theorem dX7_init_5 : decode cX7_init 5 = .ok (.sipush 256, 3) := by decide +kernel
theorem dX7_init_8 : decode cX7_init 8 = .ok (.newarray .int, 2) := by decide +kernel
theorem dX7_init_10 : decode cX7_init 10 = .ok (.putfield 7, 3) := by decide +kernel
theorem dX7_init_13 : decode cX7_init 13 = .ok (.aload_n 0, 1) := by decide +kernel
theorem dX7_init_14 : decode cX7_init 14 = .ok (.sipush 2048, 3) := by decide +kernel
theorem dX7_init_17 : decode cX7_init 17 = .ok (.newarray .int, 2) := by decide +kernel
theorem dX7_init_19 : decode cX7_init 19 = .ok (.putfield 13, 3) := by decide +kernel
theorem dX7_init_22 : decode cX7_init 22 = .ok (.aload_n 0, 1) := by decide +kernel
theorem dX7_init_23 : decode cX7_init 23 = .ok (.bipush 32, 2) := by decide +kernel
theorem dX7_init_25 : decode cX7_init 25 = .ok (.newarray .int, 2) := by decide +kernel
theorem dX7_init_27 : decode cX7_init 27 = .ok (.putfield 16, 3) := by decide +kernel
theorem dX7_init_30 : decode cX7_init 30 = .ok (.aload_n 0, 1) := by decide +kernel
theorem dX7_init_31 : decode cX7_init 31 = .ok (.aload_n 1, 1) := by decide +kernel
theorem dX7_init_32 : decode cX7_init 32 = .ok (.putfield 19, 3) := by decide +kernel
theorem dX7_init_35 : decode cX7_init 35 = .ok (.return_, 1) := by decide +kernel
theorem dX7_restart_0 : decode cX7_restart 0 = .ok (.aload_n 0, 1) := by decide +kernel
theorem dX7_restart_1 : decode cX7_restart 1 = .ok (.iconst 0, 1) := by decide +kernel
theorem dX7_restart_2 : decode cX7_restart 2 = .ok (.putfield 23, 3) := by decide +kernel
theorem dX7_restart_5 : decode cX7_restart 5 = .ok (.aload_n 0, 1) := by decide +kernel
theorem dX7_restart_6 : decode cX7_restart 6 = .ok (.iconst 0, 1) := by decide +kernel
theorem dX7_restart_7 : decode cX7_restart 7 = .ok (.putfield 27, 3) := by decide +kernel
theorem dX7_restart_10 : decode cX7_restart 10 = .ok (.aload_n 0, 1) := by decide +kernel
theorem dX7_restart_11 : decode cX7_restart 11 = .ok (.iconst 0, 1) := by decide +kernel
theorem dX7_restart_12 : decode cX7_restart 12 = .ok (.putfield 30, 3) := by decide +kernel
theorem dX7_restart_15 : decode cX7_restart 15 = .ok (.aload_n 0, 1) := by decide +kernel
theorem dX7_restart_16 : decode cX7_restart 16 = .ok (.iconst 0, 1) := by decide +kernel
theorem dX7_restart_17 : decode cX7_restart 17 = .ok (.putfield 33, 3) := by decide +kernel
theorem dX7_restart_20 : decode cX7_restart 20 = .ok (.return_, 1) := by decide +kernel
theorem dX7_takeNmi_0 : decode cX7_takeNmi 0 = .ok (.aload_n 0, 1) := by decide +kernel
theorem dX7_takeNmi_1 : decode cX7_takeNmi 1 = .ok (.getfield 33, 3) := by decide +kernel
theorem dX7_takeNmi_4 : decode cX7_takeNmi 4 = .ok (.istore_n 1, 1) := by decide +kernel
theorem dX7_takeNmi_5 : decode cX7_takeNmi 5 = .ok (.aload_n 0, 1) := by decide +kernel
theorem dX7_takeNmi_6 : decode cX7_takeNmi 6 = .ok (.iconst 0, 1) := by decide +kernel
theorem dX7_takeNmi_7 : decode cX7_takeNmi 7 = .ok (.putfield 33, 3) := by decide +kernel
theorem dX7_takeNmi_10 : decode cX7_takeNmi 10 = .ok (.iload_n 1, 1) := by decide +kernel
theorem dX7_takeNmi_11 : decode cX7_takeNmi 11 = .ok (.ireturn, 1) := by decide +kernel
theorem dX7_load_0 : decode cX7_load 0 = .ok (.iconst 0, 1) := by decide +kernel
theorem dX7_load_1 : decode cX7_load 1 = .ok (.istore_n 2, 1) := by decide +kernel
theorem dX7_load_2 : decode cX7_load 2 = .ok (.iload_n 1, 1) := by decide +kernel
theorem dX7_load_3 : decode cX7_load 3 = .ok (.iconst 2, 1) := by decide +kernel
theorem dX7_load_4 : decode cX7_load 4 = .ok (.if_icmp .ne 24, 3) := by decide +kernel
theorem dX7_load_7 : decode cX7_load 7 = .ok (.aload_n 0, 1) := by decide +kernel
theorem dX7_load_8 : decode cX7_load 8 = .ok (.getfield 37, 3) := by decide +kernel
theorem dX7_load_11 : decode cX7_load 11 = .ok (.bipush 7, 2) := by decide +kernel
theorem dX7_load_13 : decode cX7_load 13 = .ok (.ishl, 1) := by decide +kernel
theorem dX7_load_14 : decode cX7_load 14 = .ok (.istore_n 2, 1) := by decide +kernel
theorem dX7_load_15 : decode cX7_load 15 = .ok (.aload_n 0, 1) := by decide +kernel
theorem dX7_load_16 : decode cX7_load 16 = .ok (.iconst 0, 1) := by decide +kernel
theorem dX7_load_17 : decode cX7_load 17 = .ok (.putfield 37, 3) := by decide +kernel
theorem dX7_load_20 : decode cX7_load 20 = .ok (.aload_n 0, 1) := by decide +kernel
theorem dX7_load_21 : decode cX7_load 21 = .ok (.iconst 0, 1) := by decide +kernel
theorem dX7_load_22 : decode cX7_load 22 = .ok (.putfield 30, 3) := by decide +kernel
theorem dX7_load_25 : decode cX7_load 25 = .ok (.goto 104, 3) := by decide +kernel
theorem dX7_load_28 : decode cX7_load 28 = .ok (.iload_n 1, 1) := by decide +kernel
theorem dX7_load_29 : decode cX7_load 29 = .ok (.iconst 4, 1) := by decide +kernel
theorem dX7_load_30 : decode cX7_load 30 = .ok (.if_icmp .ne 20, 3) := by decide +kernel
theorem dX7_load_33 : decode cX7_load 33 = .ok (.aload_n 0, 1) := by decide +kernel
theorem dX7_load_34 : decode cX7_load 34 = .ok (.getfield 7, 3) := by decide +kernel
theorem dX7_load_37 : decode cX7_load 37 = .ok (.aload_n 0, 1) := by decide +kernel
theorem dX7_load_38 : decode cX7_load 38 = .ok (.getfield 40, 3) := by decide +kernel
theorem dX7_load_41 : decode cX7_load 41 = .ok (.sipush 255, 3) := by decide +kernel
theorem dX7_load_44 : decode cX7_load 44 = .ok (.iand, 1) := by decide +kernel
theorem dX7_load_45 : decode cX7_load 45 = .ok (.iaload, 1) := by decide +kernel
theorem dX7_load_46 : decode cX7_load 46 = .ok (.istore_n 2, 1) := by decide +kernel
theorem dX7_load_47 : decode cX7_load 47 = .ok (.goto 82, 3) := by decide +kernel
theorem dX7_load_50 : decode cX7_load 50 = .ok (.iload_n 1, 1) := by decide +kernel
theorem dX7_load_51 : decode cX7_load 51 = .ok (.bipush 7, 2) := by decide +kernel
theorem dX7_load_53 : decode cX7_load 53 = .ok (.if_icmp .ne 76, 3) := by decide +kernel
theorem dX7_load_56 : decode cX7_load 56 = .ok (.aload_n 0, 1) := by decide +kernel
theorem dX7_load_57 : decode cX7_load 57 = .ok (.getfield 43, 3) := by decide +kernel
theorem dX7_load_60 : decode cX7_load 60 = .ok (.sipush 16383, 3) := by decide +kernel
theorem dX7_load_63 : decode cX7_load 63 = .ok (.iand, 1) := by decide +kernel
theorem dX7_load_64 : decode cX7_load 64 = .ok (.istore_n 3, 1) := by decide +kernel
theorem dX7_load_65 : decode cX7_load 65 = .ok (.aload_n 0, 1) := by decide +kernel
theorem dX7_load_66 : decode cX7_load 66 = .ok (.iload_n 3, 1) := by decide +kernel
theorem dX7_load_67 : decode cX7_load 67 = .ok (.invokevirtual 46, 3) := by decide +kernel
theorem dX7_load_70 : decode cX7_load 70 = .ok (.istore 4, 2) := by decide +kernel
theorem dX7_load_72 : decode cX7_load 72 = .ok (.iload_n 3, 1) := by decide +kernel
theorem dX7_load_73 : decode cX7_load 73 = .ok (.sipush 16128, 3) := by decide +kernel
theorem dX7_load_76 : decode cX7_load 76 = .ok (.if_icmp .lt 7, 3) := by decide +kernel
theorem dX7_load_79 : decode cX7_load 79 = .ok (.iconst 1, 1) := by decide +kernel
theorem dX7_load_80 : decode cX7_load 80 = .ok (.goto 4, 3) := by decide +kernel
theorem dX7_load_83 : decode cX7_load 83 = .ok (.iconst 0, 1) := by decide +kernel
theorem dX7_load_84 : decode cX7_load 84 = .ok (.istore 5, 2) := by decide +kernel
theorem dX7_load_86 : decode cX7_load 86 = .ok (.iload 5, 2) := by decide +kernel
theorem dX7_load_88 : decode cX7_load 88 = .ok (.ifCond .eq 8, 3) := by decide +kernel
theorem dX7_load_91 : decode cX7_load 91 = .ok (.iload 4, 2) := by decide +kernel
theorem dX7_load_93 : decode cX7_load 93 = .ok (.goto 7, 3) := by decide +kernel
theorem dX7_load_96 : decode cX7_load 96 = .ok (.aload_n 0, 1) := by decide +kernel
theorem dX7_load_97 : decode cX7_load 97 = .ok (.getfield 50, 3) := by decide +kernel
theorem dX7_load_100 : decode cX7_load 100 = .ok (.istore_n 2, 1) := by decide +kernel
theorem dX7_load_101 : decode cX7_load 101 = .ok (.aload_n 0, 1) := by decide +kernel
theorem dX7_load_102 : decode cX7_load 102 = .ok (.iload 5, 2) := by decide +kernel
theorem dX7_load_104 : decode cX7_load 104 = .ok (.ifCond .eq 16, 3) := by decide +kernel
theorem dX7_load_107 : decode cX7_load 107 = .ok (.aload_n 0, 1) := by decide +kernel
theorem dX7_load_108 : decode cX7_load 108 = .ok (.getfield 13, 3) := by decide +kernel
theorem dX7_load_111 : decode cX7_load 111 = .ok (.aload_n 0, 1) := by decide +kernel
theorem dX7_load_112 : decode cX7_load 112 = .ok (.iload_n 3, 1) := by decide +kernel
theorem dX7_load_113 : decode cX7_load 113 = .ok (.invokevirtual 53, 3) := by decide +kernel
theorem dX7_load_116 : decode cX7_load 116 = .ok (.iaload, 1) := by decide +kernel
theorem dX7_load_117 : decode cX7_load 117 = .ok (.goto 5, 3) := by decide +kernel
theorem dX7_load_120 : decode cX7_load 120 = .ok (.iload 4, 2) := by decide +kernel
theorem dX7_load_122 : decode cX7_load 122 = .ok (.putfield 50, 3) := by decide +kernel
theorem dX7_load_125 : decode cX7_load 125 = .ok (.aload_n 0, 1) := by decide +kernel
theorem dX7_load_126 : decode cX7_load 126 = .ok (.invokevirtual 56, 3) := by decide +kernel
theorem dX7_load_129 : decode cX7_load 129 = .ok (.iload_n 2, 1) := by decide +kernel
theorem dX7_load_130 : decode cX7_load 130 = .ok (.ireturn, 1) := by decide +kernel
theorem dX7_store_0 : decode cX7_store 0 = .ok (.iload_n 1, 1) := by decide +kernel
theorem dX7_store_1 : decode cX7_store 1 = .ok (.tableswitch 138 0 7 #[47, 55, 138, 63, 71, 102, 110, 118], 47) := by decide +kernel
theorem dX7_store_48 : decode cX7_store 48 = .ok (.aload_n 0, 1) := by decide +kernel
theorem dX7_store_49 : decode cX7_store 49 = .ok (.iload_n 2, 1) := by decide +kernel
theorem dX7_store_50 : decode cX7_store 50 = .ok (.invokevirtual 59, 3) := by decide +kernel
theorem dX7_store_53 : decode cX7_store 53 = .ok (.goto 86, 3) := by decide +kernel
theorem dX7_store_56 : decode cX7_store 56 = .ok (.aload_n 0, 1) := by decide +kernel
theorem dX7_store_57 : decode cX7_store 57 = .ok (.iload_n 2, 1) := by decide +kernel
theorem dX7_store_58 : decode cX7_store 58 = .ok (.putfield 27, 3) := by decide +kernel
theorem dX7_store_61 : decode cX7_store 61 = .ok (.goto 78, 3) := by decide +kernel
theorem dX7_store_64 : decode cX7_store 64 = .ok (.aload_n 0, 1) := by decide +kernel
theorem dX7_store_65 : decode cX7_store 65 = .ok (.iload_n 2, 1) := by decide +kernel
theorem dX7_store_66 : decode cX7_store 66 = .ok (.putfield 40, 3) := by decide +kernel
theorem dX7_store_69 : decode cX7_store 69 = .ok (.goto 70, 3) := by decide +kernel
theorem dX7_store_72 : decode cX7_store 72 = .ok (.aload_n 0, 1) := by decide +kernel
theorem dX7_store_73 : decode cX7_store 73 = .ok (.getfield 7, 3) := by decide +kernel
theorem dX7_store_76 : decode cX7_store 76 = .ok (.aload_n 0, 1) := by decide +kernel
theorem dX7_store_77 : decode cX7_store 77 = .ok (.getfield 40, 3) := by decide +kernel
theorem dX7_store_80 : decode cX7_store 80 = .ok (.sipush 255, 3) := by decide +kernel
theorem dX7_store_83 : decode cX7_store 83 = .ok (.iand, 1) := by decide +kernel
theorem dX7_store_84 : decode cX7_store 84 = .ok (.iload_n 2, 1) := by decide +kernel
theorem dX7_store_85 : decode cX7_store 85 = .ok (.iastore, 1) := by decide +kernel
theorem dX7_store_86 : decode cX7_store 86 = .ok (.aload_n 0, 1) := by decide +kernel
theorem dX7_store_87 : decode cX7_store 87 = .ok (.aload_n 0, 1) := by decide +kernel
theorem dX7_store_88 : decode cX7_store 88 = .ok (.getfield 40, 3) := by decide +kernel
theorem dX7_store_91 : decode cX7_store 91 = .ok (.iconst 1, 1) := by decide +kernel
theorem dX7_store_92 : decode cX7_store 92 = .ok (.iadd, 1) := by decide +kernel
theorem dX7_store_93 : decode cX7_store 93 = .ok (.sipush 255, 3) := by decide +kernel
theorem dX7_store_96 : decode cX7_store 96 = .ok (.iand, 1) := by decide +kernel
theorem dX7_store_97 : decode cX7_store 97 = .ok (.putfield 40, 3) := by decide +kernel
theorem dX7_store_100 : decode cX7_store 100 = .ok (.goto 39, 3) := by decide +kernel
theorem dX7_store_103 : decode cX7_store 103 = .ok (.aload_n 0, 1) := by decide +kernel
theorem dX7_store_104 : decode cX7_store 104 = .ok (.iload_n 2, 1) := by decide +kernel
theorem dX7_store_105 : decode cX7_store 105 = .ok (.invokevirtual 63, 3) := by decide +kernel
theorem dX7_store_108 : decode cX7_store 108 = .ok (.goto 31, 3) := by decide +kernel
theorem dX7_store_111 : decode cX7_store 111 = .ok (.aload_n 0, 1) := by decide +kernel
theorem dX7_store_112 : decode cX7_store 112 = .ok (.iload_n 2, 1) := by decide +kernel
theorem dX7_store_113 : decode cX7_store 113 = .ok (.invokevirtual 66, 3) := by decide +kernel
theorem dX7_store_116 : decode cX7_store 116 = .ok (.goto 23, 3) := by decide +kernel
theorem dX7_store_119 : decode cX7_store 119 = .ok (.aload_n 0, 1) := by decide +kernel
theorem dX7_store_120 : decode cX7_store 120 = .ok (.aload_n 0, 1) := by decide +kernel
theorem dX7_store_121 : decode cX7_store 121 = .ok (.getfield 43, 3) := by decide +kernel
theorem dX7_store_124 : decode cX7_store 124 = .ok (.sipush 16383, 3) := by decide +kernel
theorem dX7_store_127 : decode cX7_store 127 = .ok (.iand, 1) := by decide +kernel
theorem dX7_store_128 : decode cX7_store 128 = .ok (.iload_n 2, 1) := by decide +kernel
theorem dX7_store_129 : decode cX7_store 129 = .ok (.invokevirtual 69, 3) := by decide +kernel
theorem dX7_store_132 : decode cX7_store 132 = .ok (.aload_n 0, 1) := by decide +kernel
theorem dX7_store_133 : decode cX7_store 133 = .ok (.invokevirtual 56, 3) := by decide +kernel
theorem dX7_store_136 : decode cX7_store 136 = .ok (.goto 3, 3) := by decide +kernel
theorem dX7_store_139 : decode cX7_store 139 = .ok (.return_, 1) := by decide +kernel
theorem dX7_storeControl_0 : decode cX7_storeControl 0 = .ok (.aload_n 0, 1) := by decide +kernel
theorem dX7_storeControl_1 : decode cX7_storeControl 1 = .ok (.getfield 23, 3) := by decide +kernel
theorem dX7_storeControl_4 : decode cX7_storeControl 4 = .ok (.sipush 128, 3) := by decide +kernel
theorem dX7_storeControl_7 : decode cX7_storeControl 7 = .ok (.iand, 1) := by decide +kernel
theorem dX7_storeControl_8 : decode cX7_storeControl 8 = .ok (.ifCond .ne 7, 3) := by decide +kernel
theorem dX7_storeControl_11 : decode cX7_storeControl 11 = .ok (.iconst 1, 1) := by decide +kernel
theorem dX7_storeControl_12 : decode cX7_storeControl 12 = .ok (.goto 4, 3) := by decide +kernel
theorem dX7_storeControl_15 : decode cX7_storeControl 15 = .ok (.iconst 0, 1) := by decide +kernel
theorem dX7_storeControl_16 : decode cX7_storeControl 16 = .ok (.istore_n 2, 1) := by decide +kernel
theorem dX7_storeControl_17 : decode cX7_storeControl 17 = .ok (.aload_n 0, 1) := by decide +kernel
theorem dX7_storeControl_18 : decode cX7_storeControl 18 = .ok (.iload_n 1, 1) := by decide +kernel
theorem dX7_storeControl_19 : decode cX7_storeControl 19 = .ok (.putfield 23, 3) := by decide +kernel
theorem dX7_storeControl_22 : decode cX7_storeControl 22 = .ok (.aload_n 0, 1) := by decide +kernel
theorem dX7_storeControl_23 : decode cX7_storeControl 23 = .ok (.aload_n 0, 1) := by decide +kernel
theorem dX7_storeControl_24 : decode cX7_storeControl 24 = .ok (.getfield 73, 3) := by decide +kernel
theorem dX7_storeControl_27 : decode cX7_storeControl 27 = .ok (.sipush (-3073), 3) := by decide +kernel
theorem dX7_storeControl_30 : decode cX7_storeControl 30 = .ok (.iand, 1) := by decide +kernel
theorem dX7_storeControl_31 : decode cX7_storeControl 31 = .ok (.iload_n 1, 1) := by decide +kernel
theorem dX7_storeControl_32 : decode cX7_storeControl 32 = .ok (.iconst 3, 1) := by decide +kernel
theorem dX7_storeControl_33 : decode cX7_storeControl 33 = .ok (.iand, 1) := by decide +kernel
theorem dX7_storeControl_34 : decode cX7_storeControl 34 = .ok (.bipush 10, 2) := by decide +kernel
theorem dX7_storeControl_36 : decode cX7_storeControl 36 = .ok (.ishl, 1) := by decide +kernel
theorem dX7_storeControl_37 : decode cX7_storeControl 37 = .ok (.ior, 1) := by decide +kernel
theorem dX7_storeControl_38 : decode cX7_storeControl 38 = .ok (.putfield 73, 3) := by decide +kernel
theorem dX7_storeControl_41 : decode cX7_storeControl 41 = .ok (.iload_n 2, 1) := by decide +kernel
theorem dX7_storeControl_42 : decode cX7_storeControl 42 = .ok (.ifCond .eq 24, 3) := by decide +kernel
theorem dX7_storeControl_45 : decode cX7_storeControl 45 = .ok (.iload_n 1, 1) := by decide +kernel
theorem dX7_storeControl_46 : decode cX7_storeControl 46 = .ok (.sipush 128, 3) := by decide +kernel
theorem dX7_storeControl_49 : decode cX7_storeControl 49 = .ok (.iand, 1) := by decide +kernel
theorem dX7_storeControl_50 : decode cX7_storeControl 50 = .ok (.ifCond .eq 16, 3) := by decide +kernel
theorem dX7_storeControl_53 : decode cX7_storeControl 53 = .ok (.aload_n 0, 1) := by decide +kernel
theorem dX7_storeControl_54 : decode cX7_storeControl 54 = .ok (.getfield 37, 3) := by decide +kernel
theorem dX7_storeControl_57 : decode cX7_storeControl 57 = .ok (.iconst 1, 1) := by decide +kernel
theorem dX7_storeControl_58 : decode cX7_storeControl 58 = .ok (.if_icmp .ne 8, 3) := by decide +kernel
theorem dX7_storeControl_61 : decode cX7_storeControl 61 = .ok (.aload_n 0, 1) := by decide +kernel
theorem dX7_storeControl_62 : decode cX7_storeControl 62 = .ok (.iconst 1, 1) := by decide +kernel
theorem dX7_storeControl_63 : decode cX7_storeControl 63 = .ok (.putfield 33, 3) := by decide +kernel
theorem dX7_storeControl_66 : decode cX7_storeControl 66 = .ok (.return_, 1) := by decide +kernel
theorem dX7_storeScroll_0 : decode cX7_storeScroll 0 = .ok (.aload_n 0, 1) := by decide +kernel
theorem dX7_storeScroll_1 : decode cX7_storeScroll 1 = .ok (.getfield 30, 3) := by decide +kernel
theorem dX7_storeScroll_4 : decode cX7_storeScroll 4 = .ok (.ifCond .ne 29, 3) := by decide +kernel
theorem dX7_storeScroll_7 : decode cX7_storeScroll 7 = .ok (.aload_n 0, 1) := by decide +kernel
theorem dX7_storeScroll_8 : decode cX7_storeScroll 8 = .ok (.aload_n 0, 1) := by decide +kernel
theorem dX7_storeScroll_9 : decode cX7_storeScroll 9 = .ok (.getfield 73, 3) := by decide +kernel
theorem dX7_storeScroll_12 : decode cX7_storeScroll 12 = .ok (.bipush (-32), 2) := by decide +kernel
theorem dX7_storeScroll_14 : decode cX7_storeScroll 14 = .ok (.iand, 1) := by decide +kernel
theorem dX7_storeScroll_15 : decode cX7_storeScroll 15 = .ok (.iload_n 1, 1) := by decide +kernel
theorem dX7_storeScroll_16 : decode cX7_storeScroll 16 = .ok (.iconst 3, 1) := by decide +kernel
theorem dX7_storeScroll_17 : decode cX7_storeScroll 17 = .ok (.ishr, 1) := by decide +kernel
theorem dX7_storeScroll_18 : decode cX7_storeScroll 18 = .ok (.ior, 1) := by decide +kernel
theorem dX7_storeScroll_19 : decode cX7_storeScroll 19 = .ok (.putfield 73, 3) := by decide +kernel
theorem dX7_storeScroll_22 : decode cX7_storeScroll 22 = .ok (.aload_n 0, 1) := by decide +kernel
theorem dX7_storeScroll_23 : decode cX7_storeScroll 23 = .ok (.iload_n 1, 1) := by decide +kernel
theorem dX7_storeScroll_24 : decode cX7_storeScroll 24 = .ok (.bipush 7, 2) := by decide +kernel
theorem dX7_storeScroll_26 : decode cX7_storeScroll 26 = .ok (.iand, 1) := by decide +kernel
theorem dX7_storeScroll_27 : decode cX7_storeScroll 27 = .ok (.putfield 76, 3) := by decide +kernel
theorem dX7_storeScroll_30 : decode cX7_storeScroll 30 = .ok (.goto 29, 3) := by decide +kernel
theorem dX7_storeScroll_33 : decode cX7_storeScroll 33 = .ok (.aload_n 0, 1) := by decide +kernel
theorem dX7_storeScroll_34 : decode cX7_storeScroll 34 = .ok (.aload_n 0, 1) := by decide +kernel
theorem dX7_storeScroll_35 : decode cX7_storeScroll 35 = .ok (.getfield 73, 3) := by decide +kernel
theorem dX7_storeScroll_38 : decode cX7_storeScroll 38 = .ok (.sipush (-29665), 3) := by decide +kernel
theorem dX7_storeScroll_41 : decode cX7_storeScroll 41 = .ok (.iand, 1) := by decide +kernel
theorem dX7_storeScroll_42 : decode cX7_storeScroll 42 = .ok (.iload_n 1, 1) := by decide +kernel
theorem dX7_storeScroll_43 : decode cX7_storeScroll 43 = .ok (.bipush 7, 2) := by decide +kernel
theorem dX7_storeScroll_45 : decode cX7_storeScroll 45 = .ok (.iand, 1) := by decide +kernel
theorem dX7_storeScroll_46 : decode cX7_storeScroll 46 = .ok (.bipush 12, 2) := by decide +kernel
theorem dX7_storeScroll_48 : decode cX7_storeScroll 48 = .ok (.ishl, 1) := by decide +kernel
theorem dX7_storeScroll_49 : decode cX7_storeScroll 49 = .ok (.ior, 1) := by decide +kernel
theorem dX7_storeScroll_50 : decode cX7_storeScroll 50 = .ok (.iload_n 1, 1) := by decide +kernel
theorem dX7_storeScroll_51 : decode cX7_storeScroll 51 = .ok (.iconst 3, 1) := by decide +kernel
theorem dX7_storeScroll_52 : decode cX7_storeScroll 52 = .ok (.ishr, 1) := by decide +kernel
theorem dX7_storeScroll_53 : decode cX7_storeScroll 53 = .ok (.iconst 5, 1) := by decide +kernel
theorem dX7_storeScroll_54 : decode cX7_storeScroll 54 = .ok (.ishl, 1) := by decide +kernel
theorem dX7_storeScroll_55 : decode cX7_storeScroll 55 = .ok (.ior, 1) := by decide +kernel
theorem dX7_storeScroll_56 : decode cX7_storeScroll 56 = .ok (.putfield 73, 3) := by decide +kernel
theorem dX7_storeScroll_59 : decode cX7_storeScroll 59 = .ok (.aload_n 0, 1) := by decide +kernel
theorem dX7_storeScroll_60 : decode cX7_storeScroll 60 = .ok (.iconst 1, 1) := by decide +kernel
theorem dX7_storeScroll_61 : decode cX7_storeScroll 61 = .ok (.aload_n 0, 1) := by decide +kernel
theorem dX7_storeScroll_62 : decode cX7_storeScroll 62 = .ok (.getfield 30, 3) := by decide +kernel
theorem dX7_storeScroll_65 : decode cX7_storeScroll 65 = .ok (.isub, 1) := by decide +kernel
theorem dX7_storeScroll_66 : decode cX7_storeScroll 66 = .ok (.putfield 30, 3) := by decide +kernel
theorem dX7_storeScroll_69 : decode cX7_storeScroll 69 = .ok (.return_, 1) := by decide +kernel
theorem dX7_storeAddress_0 : decode cX7_storeAddress 0 = .ok (.aload_n 0, 1) := by decide +kernel
theorem dX7_storeAddress_1 : decode cX7_storeAddress 1 = .ok (.getfield 30, 3) := by decide +kernel
theorem dX7_storeAddress_4 : decode cX7_storeAddress 4 = .ok (.ifCond .ne 26, 3) := by decide +kernel
theorem dX7_storeAddress_7 : decode cX7_storeAddress 7 = .ok (.aload_n 0, 1) := by decide +kernel
theorem dX7_storeAddress_8 : decode cX7_storeAddress 8 = .ok (.aload_n 0, 1) := by decide +kernel
theorem dX7_storeAddress_9 : decode cX7_storeAddress 9 = .ok (.getfield 73, 3) := by decide +kernel
theorem dX7_storeAddress_12 : decode cX7_storeAddress 12 = .ok (.sipush 255, 3) := by decide +kernel
theorem dX7_storeAddress_15 : decode cX7_storeAddress 15 = .ok (.iand, 1) := by decide +kernel
theorem dX7_storeAddress_16 : decode cX7_storeAddress 16 = .ok (.iload_n 1, 1) := by decide +kernel
theorem dX7_storeAddress_17 : decode cX7_storeAddress 17 = .ok (.bipush 63, 2) := by decide +kernel
theorem dX7_storeAddress_19 : decode cX7_storeAddress 19 = .ok (.iand, 1) := by decide +kernel
theorem dX7_storeAddress_20 : decode cX7_storeAddress 20 = .ok (.bipush 8, 2) := by decide +kernel
theorem dX7_storeAddress_22 : decode cX7_storeAddress 22 = .ok (.ishl, 1) := by decide +kernel
theorem dX7_storeAddress_23 : decode cX7_storeAddress 23 = .ok (.ior, 1) := by decide +kernel
theorem dX7_storeAddress_24 : decode cX7_storeAddress 24 = .ok (.putfield 73, 3) := by decide +kernel
theorem dX7_storeAddress_27 : decode cX7_storeAddress 27 = .ok (.goto 25, 3) := by decide +kernel
theorem dX7_storeAddress_30 : decode cX7_storeAddress 30 = .ok (.aload_n 0, 1) := by decide +kernel
theorem dX7_storeAddress_31 : decode cX7_storeAddress 31 = .ok (.aload_n 0, 1) := by decide +kernel
theorem dX7_storeAddress_32 : decode cX7_storeAddress 32 = .ok (.getfield 73, 3) := by decide +kernel
theorem dX7_storeAddress_35 : decode cX7_storeAddress 35 = .ok (.sipush 32512, 3) := by decide +kernel
theorem dX7_storeAddress_38 : decode cX7_storeAddress 38 = .ok (.iand, 1) := by decide +kernel
theorem dX7_storeAddress_39 : decode cX7_storeAddress 39 = .ok (.iload_n 1, 1) := by decide +kernel
theorem dX7_storeAddress_40 : decode cX7_storeAddress 40 = .ok (.ior, 1) := by decide +kernel
theorem dX7_storeAddress_41 : decode cX7_storeAddress 41 = .ok (.putfield 73, 3) := by decide +kernel
theorem dX7_storeAddress_44 : decode cX7_storeAddress 44 = .ok (.aload_n 0, 1) := by decide +kernel
theorem dX7_storeAddress_45 : decode cX7_storeAddress 45 = .ok (.aload_n 0, 1) := by decide +kernel
theorem dX7_storeAddress_46 : decode cX7_storeAddress 46 = .ok (.getfield 73, 3) := by decide +kernel
theorem dX7_storeAddress_49 : decode cX7_storeAddress 49 = .ok (.putfield 43, 3) := by decide +kernel
theorem dX7_storeAddress_52 : decode cX7_storeAddress 52 = .ok (.aload_n 0, 1) := by decide +kernel
theorem dX7_storeAddress_53 : decode cX7_storeAddress 53 = .ok (.iconst 1, 1) := by decide +kernel
theorem dX7_storeAddress_54 : decode cX7_storeAddress 54 = .ok (.aload_n 0, 1) := by decide +kernel
theorem dX7_storeAddress_55 : decode cX7_storeAddress 55 = .ok (.getfield 30, 3) := by decide +kernel
theorem dX7_storeAddress_58 : decode cX7_storeAddress 58 = .ok (.isub, 1) := by decide +kernel
theorem dX7_storeAddress_59 : decode cX7_storeAddress 59 = .ok (.putfield 30, 3) := by decide +kernel
theorem dX7_storeAddress_62 : decode cX7_storeAddress 62 = .ok (.return_, 1) := by decide +kernel
theorem dX7_growV_0 : decode cX7_growV 0 = .ok (.aload_n 0, 1) := by decide +kernel
theorem dX7_growV_1 : decode cX7_growV 1 = .ok (.aload_n 0, 1) := by decide +kernel
theorem dX7_growV_2 : decode cX7_growV 2 = .ok (.getfield 43, 3) := by decide +kernel
theorem dX7_growV_5 : decode cX7_growV 5 = .ok (.aload_n 0, 1) := by decide +kernel
theorem dX7_growV_6 : decode cX7_growV 6 = .ok (.getfield 23, 3) := by decide +kernel
theorem dX7_growV_9 : decode cX7_growV 9 = .ok (.iconst 4, 1) := by decide +kernel
theorem dX7_growV_10 : decode cX7_growV 10 = .ok (.iand, 1) := by decide +kernel
theorem dX7_growV_11 : decode cX7_growV 11 = .ok (.ifCond .ne 7, 3) := by decide +kernel
theorem dX7_growV_14 : decode cX7_growV 14 = .ok (.iconst 1, 1) := by decide +kernel
theorem dX7_growV_15 : decode cX7_growV 15 = .ok (.goto 5, 3) := by decide +kernel
theorem dX7_growV_18 : decode cX7_growV 18 = .ok (.bipush 32, 2) := by decide +kernel
theorem dX7_growV_20 : decode cX7_growV 20 = .ok (.iadd, 1) := by decide +kernel
theorem dX7_growV_21 : decode cX7_growV 21 = .ok (.sipush 32767, 3) := by decide +kernel
theorem dX7_growV_24 : decode cX7_growV 24 = .ok (.iand, 1) := by decide +kernel
theorem dX7_growV_25 : decode cX7_growV 25 = .ok (.putfield 43, 3) := by decide +kernel
theorem dX7_growV_28 : decode cX7_growV 28 = .ok (.return_, 1) := by decide +kernel
theorem dX7_byteAt_0 : decode cX7_byteAt 0 = .ok (.iload_n 1, 1) := by decide +kernel
theorem dX7_byteAt_1 : decode cX7_byteAt 1 = .ok (.sipush 8192, 3) := by decide +kernel
theorem dX7_byteAt_4 : decode cX7_byteAt 4 = .ok (.if_icmp .ge 12, 3) := by decide +kernel
theorem dX7_byteAt_7 : decode cX7_byteAt 7 = .ok (.aload_n 0, 1) := by decide +kernel
theorem dX7_byteAt_8 : decode cX7_byteAt 8 = .ok (.getfield 19, 3) := by decide +kernel
theorem dX7_byteAt_11 : decode cX7_byteAt 11 = .ok (.iload_n 1, 1) := by decide +kernel
theorem dX7_byteAt_12 : decode cX7_byteAt 12 = .ok (.invokevirtual 79, 3) := by decide +kernel
theorem dX7_byteAt_15 : decode cX7_byteAt 15 = .ok (.ireturn, 1) := by decide +kernel
theorem dX7_byteAt_16 : decode cX7_byteAt 16 = .ok (.iload_n 1, 1) := by decide +kernel
theorem dX7_byteAt_17 : decode cX7_byteAt 17 = .ok (.sipush 16128, 3) := by decide +kernel
theorem dX7_byteAt_20 : decode cX7_byteAt 20 = .ok (.if_icmp .ge 14, 3) := by decide +kernel
theorem dX7_byteAt_23 : decode cX7_byteAt 23 = .ok (.aload_n 0, 1) := by decide +kernel
theorem dX7_byteAt_24 : decode cX7_byteAt 24 = .ok (.getfield 13, 3) := by decide +kernel
theorem dX7_byteAt_27 : decode cX7_byteAt 27 = .ok (.aload_n 0, 1) := by decide +kernel
theorem dX7_byteAt_28 : decode cX7_byteAt 28 = .ok (.iload_n 1, 1) := by decide +kernel
theorem dX7_byteAt_29 : decode cX7_byteAt 29 = .ok (.invokevirtual 53, 3) := by decide +kernel
theorem dX7_byteAt_32 : decode cX7_byteAt 32 = .ok (.iaload, 1) := by decide +kernel
theorem dX7_byteAt_33 : decode cX7_byteAt 33 = .ok (.ireturn, 1) := by decide +kernel
theorem dX7_byteAt_34 : decode cX7_byteAt 34 = .ok (.aload_n 0, 1) := by decide +kernel
theorem dX7_byteAt_35 : decode cX7_byteAt 35 = .ok (.getfield 16, 3) := by decide +kernel
theorem dX7_byteAt_38 : decode cX7_byteAt 38 = .ok (.iload_n 1, 1) := by decide +kernel
theorem dX7_byteAt_39 : decode cX7_byteAt 39 = .ok (.invokestatic 84, 3) := by decide +kernel
theorem dX7_byteAt_42 : decode cX7_byteAt 42 = .ok (.iaload, 1) := by decide +kernel
theorem dX7_byteAt_43 : decode cX7_byteAt 43 = .ok (.ireturn, 1) := by decide +kernel
theorem dX7_storeByte_0 : decode cX7_storeByte 0 = .ok (.iload_n 1, 1) := by decide +kernel
theorem dX7_storeByte_1 : decode cX7_storeByte 1 = .ok (.sipush 16128, 3) := by decide +kernel
theorem dX7_storeByte_4 : decode cX7_storeByte 4 = .ok (.if_icmp .lt 16, 3) := by decide +kernel
theorem dX7_storeByte_7 : decode cX7_storeByte 7 = .ok (.aload_n 0, 1) := by decide +kernel
theorem dX7_storeByte_8 : decode cX7_storeByte 8 = .ok (.getfield 16, 3) := by decide +kernel
theorem dX7_storeByte_11 : decode cX7_storeByte 11 = .ok (.iload_n 1, 1) := by decide +kernel
theorem dX7_storeByte_12 : decode cX7_storeByte 12 = .ok (.invokestatic 84, 3) := by decide +kernel
theorem dX7_storeByte_15 : decode cX7_storeByte 15 = .ok (.iload_n 2, 1) := by decide +kernel
theorem dX7_storeByte_16 : decode cX7_storeByte 16 = .ok (.iastore, 1) := by decide +kernel
theorem dX7_storeByte_17 : decode cX7_storeByte 17 = .ok (.goto 21, 3) := by decide +kernel
theorem dX7_storeByte_20 : decode cX7_storeByte 20 = .ok (.iload_n 1, 1) := by decide +kernel
theorem dX7_storeByte_21 : decode cX7_storeByte 21 = .ok (.sipush 8192, 3) := by decide +kernel
theorem dX7_storeByte_24 : decode cX7_storeByte 24 = .ok (.if_icmp .lt 14, 3) := by decide +kernel
theorem dX7_storeByte_27 : decode cX7_storeByte 27 = .ok (.aload_n 0, 1) := by decide +kernel
theorem dX7_storeByte_28 : decode cX7_storeByte 28 = .ok (.getfield 13, 3) := by decide +kernel
theorem dX7_storeByte_31 : decode cX7_storeByte 31 = .ok (.aload_n 0, 1) := by decide +kernel
theorem dX7_storeByte_32 : decode cX7_storeByte 32 = .ok (.iload_n 1, 1) := by decide +kernel
theorem dX7_storeByte_33 : decode cX7_storeByte 33 = .ok (.invokevirtual 53, 3) := by decide +kernel
theorem dX7_storeByte_36 : decode cX7_storeByte 36 = .ok (.iload_n 2, 1) := by decide +kernel
theorem dX7_storeByte_37 : decode cX7_storeByte 37 = .ok (.iastore, 1) := by decide +kernel
theorem dX7_storeByte_38 : decode cX7_storeByte 38 = .ok (.return_, 1) := by decide +kernel
theorem dX7_nameTablePlace_0 : decode cX7_nameTablePlace 0 = .ok (.aload_n 0, 1) := by decide +kernel
theorem dX7_nameTablePlace_1 : decode cX7_nameTablePlace 1 = .ok (.getfield 19, 3) := by decide +kernel
theorem dX7_nameTablePlace_4 : decode cX7_nameTablePlace 4 = .ok (.getfield 87, 3) := by decide +kernel
theorem dX7_nameTablePlace_7 : decode cX7_nameTablePlace 7 = .ok (.tableswitch 45 0 2 #[25, 30, 35], 25) := by decide +kernel
theorem dX7_nameTablePlace_32 : decode cX7_nameTablePlace 32 = .ok (.iconst 0, 1) := by decide +kernel
theorem dX7_nameTablePlace_33 : decode cX7_nameTablePlace 33 = .ok (.istore_n 2, 1) := by decide +kernel
theorem dX7_nameTablePlace_34 : decode cX7_nameTablePlace 34 = .ok (.goto 25, 3) := by decide +kernel
theorem dX7_nameTablePlace_37 : decode cX7_nameTablePlace 37 = .ok (.iconst 1, 1) := by decide +kernel
theorem dX7_nameTablePlace_38 : decode cX7_nameTablePlace 38 = .ok (.istore_n 2, 1) := by decide +kernel
theorem dX7_nameTablePlace_39 : decode cX7_nameTablePlace 39 = .ok (.goto 20, 3) := by decide +kernel
theorem dX7_nameTablePlace_42 : decode cX7_nameTablePlace 42 = .ok (.iload_n 1, 1) := by decide +kernel
theorem dX7_nameTablePlace_43 : decode cX7_nameTablePlace 43 = .ok (.bipush 10, 2) := by decide +kernel
theorem dX7_nameTablePlace_45 : decode cX7_nameTablePlace 45 = .ok (.ishr, 1) := by decide +kernel
theorem dX7_nameTablePlace_46 : decode cX7_nameTablePlace 46 = .ok (.iconst 1, 1) := by decide +kernel
theorem dX7_nameTablePlace_47 : decode cX7_nameTablePlace 47 = .ok (.iand, 1) := by decide +kernel
theorem dX7_nameTablePlace_48 : decode cX7_nameTablePlace 48 = .ok (.istore_n 2, 1) := by decide +kernel
theorem dX7_nameTablePlace_49 : decode cX7_nameTablePlace 49 = .ok (.goto 10, 3) := by decide +kernel
theorem dX7_nameTablePlace_52 : decode cX7_nameTablePlace 52 = .ok (.iload_n 1, 1) := by decide +kernel
theorem dX7_nameTablePlace_53 : decode cX7_nameTablePlace 53 = .ok (.bipush 11, 2) := by decide +kernel
theorem dX7_nameTablePlace_55 : decode cX7_nameTablePlace 55 = .ok (.ishr, 1) := by decide +kernel
theorem dX7_nameTablePlace_56 : decode cX7_nameTablePlace 56 = .ok (.iconst 1, 1) := by decide +kernel
theorem dX7_nameTablePlace_57 : decode cX7_nameTablePlace 57 = .ok (.iand, 1) := by decide +kernel
theorem dX7_nameTablePlace_58 : decode cX7_nameTablePlace 58 = .ok (.istore_n 2, 1) := by decide +kernel
theorem dX7_nameTablePlace_59 : decode cX7_nameTablePlace 59 = .ok (.iload_n 2, 1) := by decide +kernel
theorem dX7_nameTablePlace_60 : decode cX7_nameTablePlace 60 = .ok (.bipush 10, 2) := by decide +kernel
theorem dX7_nameTablePlace_62 : decode cX7_nameTablePlace 62 = .ok (.ishl, 1) := by decide +kernel
theorem dX7_nameTablePlace_63 : decode cX7_nameTablePlace 63 = .ok (.iload_n 1, 1) := by decide +kernel
theorem dX7_nameTablePlace_64 : decode cX7_nameTablePlace 64 = .ok (.sipush 1023, 3) := by decide +kernel
theorem dX7_nameTablePlace_67 : decode cX7_nameTablePlace 67 = .ok (.iand, 1) := by decide +kernel
theorem dX7_nameTablePlace_68 : decode cX7_nameTablePlace 68 = .ok (.ior, 1) := by decide +kernel
theorem dX7_nameTablePlace_69 : decode cX7_nameTablePlace 69 = .ok (.ireturn, 1) := by decide +kernel
theorem dX7_palettePlace_0 : decode cX7_palettePlace 0 = .ok (.iload_n 0, 1) := by decide +kernel
theorem dX7_palettePlace_1 : decode cX7_palettePlace 1 = .ok (.bipush 31, 2) := by decide +kernel
theorem dX7_palettePlace_3 : decode cX7_palettePlace 3 = .ok (.iand, 1) := by decide +kernel
theorem dX7_palettePlace_4 : decode cX7_palettePlace 4 = .ok (.istore_n 1, 1) := by decide +kernel
theorem dX7_palettePlace_5 : decode cX7_palettePlace 5 = .ok (.iload_n 1, 1) := by decide +kernel
theorem dX7_palettePlace_6 : decode cX7_palettePlace 6 = .ok (.iconst 3, 1) := by decide +kernel
theorem dX7_palettePlace_7 : decode cX7_palettePlace 7 = .ok (.iand, 1) := by decide +kernel
theorem dX7_palettePlace_8 : decode cX7_palettePlace 8 = .ok (.ifCond .ne 10, 3) := by decide +kernel
theorem dX7_palettePlace_11 : decode cX7_palettePlace 11 = .ok (.iload_n 1, 1) := by decide +kernel
theorem dX7_palettePlace_12 : decode cX7_palettePlace 12 = .ok (.bipush 15, 2) := by decide +kernel
theorem dX7_palettePlace_14 : decode cX7_palettePlace 14 = .ok (.iand, 1) := by decide +kernel
theorem dX7_palettePlace_15 : decode cX7_palettePlace 15 = .ok (.goto 4, 3) := by decide +kernel
theorem dX7_palettePlace_18 : decode cX7_palettePlace 18 = .ok (.iload_n 1, 1) := by decide +kernel
theorem dX7_palettePlace_19 : decode cX7_palettePlace 19 = .ok (.ireturn, 1) := by decide +kernel
theorem dX7_advance_0 : decode cX7_advance 0 = .ok (.iload_n 1, 1) := by decide +kernel
theorem dX7_advance_1 : decode cX7_advance 1 = .ok (.istore_n 2, 1) := by decide +kernel
theorem dX7_advance_2 : decode cX7_advance 2 = .ok (.iconst 0, 1) := by decide +kernel
theorem dX7_advance_3 : decode cX7_advance 3 = .ok (.istore_n 3, 1) := by decide +kernel
theorem dX7_advance_4 : decode cX7_advance 4 = .ok (.iload_n 3, 1) := by decide +kernel
theorem dX7_advance_5 : decode cX7_advance 5 = .ok (.sipush 1000, 3) := by decide +kernel
theorem dX7_advance_8 : decode cX7_advance 8 = .ok (.if_icmp .ge 126, 3) := by decide +kernel
theorem dX7_advance_11 : decode cX7_advance 11 = .ok (.iload_n 2, 1) := by decide +kernel
theorem dX7_advance_12 : decode cX7_advance 12 = .ok (.ifCond .le 122, 3) := by decide +kernel
theorem dX7_advance_15 : decode cX7_advance 15 = .ok (.iload_n 2, 1) := by decide +kernel
theorem dX7_advance_16 : decode cX7_advance 16 = .ok (.sipush 341, 3) := by decide +kernel
theorem dX7_advance_19 : decode cX7_advance 19 = .ok (.aload_n 0, 1) := by decide +kernel
theorem dX7_advance_20 : decode cX7_advance 20 = .ok (.getfield 90, 3) := by decide +kernel
theorem dX7_advance_23 : decode cX7_advance 23 = .ok (.isub, 1) := by decide +kernel
theorem dX7_advance_24 : decode cX7_advance 24 = .ok (.invokestatic 93, 3) := by decide +kernel
theorem dX7_advance_27 : decode cX7_advance 27 = .ok (.istore 4, 2) := by decide +kernel
theorem dX7_advance_29 : decode cX7_advance 29 = .ok (.aload_n 0, 1) := by decide +kernel
theorem dX7_advance_30 : decode cX7_advance 30 = .ok (.getfield 90, 3) := by decide +kernel
theorem dX7_advance_33 : decode cX7_advance 33 = .ok (.iload 4, 2) := by decide +kernel
theorem dX7_advance_35 : decode cX7_advance 35 = .ok (.iadd, 1) := by decide +kernel
theorem dX7_advance_36 : decode cX7_advance 36 = .ok (.istore 5, 2) := by decide +kernel
theorem dX7_advance_38 : decode cX7_advance 38 = .ok (.aload_n 0, 1) := by decide +kernel
theorem dX7_advance_39 : decode cX7_advance 39 = .ok (.getfield 90, 3) := by decide +kernel
theorem dX7_advance_42 : decode cX7_advance 42 = .ok (.iconst 1, 1) := by decide +kernel
theorem dX7_advance_43 : decode cX7_advance 43 = .ok (.if_icmp .ge 13, 3) := by decide +kernel
theorem dX7_advance_46 : decode cX7_advance 46 = .ok (.iload 5, 2) := by decide +kernel
theorem dX7_advance_48 : decode cX7_advance 48 = .ok (.iconst 1, 1) := by decide +kernel
theorem dX7_advance_49 : decode cX7_advance 49 = .ok (.if_icmp .lt 7, 3) := by decide +kernel
theorem dX7_advance_52 : decode cX7_advance 52 = .ok (.aload_n 0, 1) := by decide +kernel
theorem dX7_advance_53 : decode cX7_advance 53 = .ok (.invokevirtual 99, 3) := by decide +kernel
theorem dX7_advance_56 : decode cX7_advance 56 = .ok (.aload_n 0, 1) := by decide +kernel
theorem dX7_advance_57 : decode cX7_advance 57 = .ok (.getfield 90, 3) := by decide +kernel
theorem dX7_advance_60 : decode cX7_advance 60 = .ok (.sipush 260, 3) := by decide +kernel
theorem dX7_advance_63 : decode cX7_advance 63 = .ok (.if_icmp .ge 15, 3) := by decide +kernel
theorem dX7_advance_66 : decode cX7_advance 66 = .ok (.iload 5, 2) := by decide +kernel
theorem dX7_advance_68 : decode cX7_advance 68 = .ok (.sipush 260, 3) := by decide +kernel
theorem dX7_advance_71 : decode cX7_advance 71 = .ok (.if_icmp .lt 7, 3) := by decide +kernel
theorem dX7_advance_74 : decode cX7_advance 74 = .ok (.aload_n 0, 1) := by decide +kernel
theorem dX7_advance_75 : decode cX7_advance 75 = .ok (.invokevirtual 102, 3) := by decide +kernel
theorem dX7_advance_78 : decode cX7_advance 78 = .ok (.iload_n 2, 1) := by decide +kernel
theorem dX7_advance_79 : decode cX7_advance 79 = .ok (.iload 4, 2) := by decide +kernel
theorem dX7_advance_81 : decode cX7_advance 81 = .ok (.isub, 1) := by decide +kernel
theorem dX7_advance_82 : decode cX7_advance 82 = .ok (.istore_n 2, 1) := by decide +kernel
theorem dX7_advance_83 : decode cX7_advance 83 = .ok (.aload_n 0, 1) := by decide +kernel
theorem dX7_advance_84 : decode cX7_advance 84 = .ok (.iload 5, 2) := by decide +kernel
theorem dX7_advance_86 : decode cX7_advance 86 = .ok (.putfield 90, 3) := by decide +kernel
theorem dX7_advance_89 : decode cX7_advance 89 = .ok (.aload_n 0, 1) := by decide +kernel
theorem dX7_advance_90 : decode cX7_advance 90 = .ok (.getfield 90, 3) := by decide +kernel
theorem dX7_advance_93 : decode cX7_advance 93 = .ok (.sipush 341, 3) := by decide +kernel
theorem dX7_advance_96 : decode cX7_advance 96 = .ok (.if_icmp .ne 32, 3) := by decide +kernel
theorem dX7_advance_99 : decode cX7_advance 99 = .ok (.aload_n 0, 1) := by decide +kernel
theorem dX7_advance_100 : decode cX7_advance 100 = .ok (.iconst 0, 1) := by decide +kernel
theorem dX7_advance_101 : decode cX7_advance 101 = .ok (.putfield 90, 3) := by decide +kernel
theorem dX7_advance_104 : decode cX7_advance 104 = .ok (.aload_n 0, 1) := by decide +kernel
theorem dX7_advance_105 : decode cX7_advance 105 = .ok (.aload_n 0, 1) := by decide +kernel
theorem dX7_advance_106 : decode cX7_advance 106 = .ok (.getfield 105, 3) := by decide +kernel
theorem dX7_advance_109 : decode cX7_advance 109 = .ok (.sipush 261, 3) := by decide +kernel
theorem dX7_advance_112 : decode cX7_advance 112 = .ok (.if_icmp .ne 7, 3) := by decide +kernel
theorem dX7_advance_115 : decode cX7_advance 115 = .ok (.iconst 0, 1) := by decide +kernel
theorem dX7_advance_116 : decode cX7_advance 116 = .ok (.goto 9, 3) := by decide +kernel
theorem dX7_advance_119 : decode cX7_advance 119 = .ok (.aload_n 0, 1) := by decide +kernel
theorem dX7_advance_120 : decode cX7_advance 120 = .ok (.getfield 105, 3) := by decide +kernel
theorem dX7_advance_123 : decode cX7_advance 123 = .ok (.iconst 1, 1) := by decide +kernel
theorem dX7_advance_124 : decode cX7_advance 124 = .ok (.iadd, 1) := by decide +kernel
theorem dX7_advance_125 : decode cX7_advance 125 = .ok (.putfield 105, 3) := by decide +kernel
theorem dX7_advance_128 : decode cX7_advance 128 = .ok (.iinc 3 1, 3) := by decide +kernel
theorem dX7_advance_131 : decode cX7_advance 131 = .ok (.goto (-127), 3) := by decide +kernel
theorem dX7_advance_134 : decode cX7_advance 134 = .ok (.return_, 1) := by decide +kernel
theorem dX7_comeToDotOne_0 : decode cX7_comeToDotOne 0 = .ok (.aload_n 0, 1) := by decide +kernel
theorem dX7_comeToDotOne_1 : decode cX7_comeToDotOne 1 = .ok (.getfield 105, 3) := by decide +kernel
theorem dX7_comeToDotOne_4 : decode cX7_comeToDotOne 4 = .ok (.sipush 241, 3) := by decide +kernel
theorem dX7_comeToDotOne_7 : decode cX7_comeToDotOne 7 = .ok (.if_icmp .ne 27, 3) := by decide +kernel
theorem dX7_comeToDotOne_10 : decode cX7_comeToDotOne 10 = .ok (.aload_n 0, 1) := by decide +kernel
theorem dX7_comeToDotOne_11 : decode cX7_comeToDotOne 11 = .ok (.iconst 1, 1) := by decide +kernel
theorem dX7_comeToDotOne_12 : decode cX7_comeToDotOne 12 = .ok (.putfield 37, 3) := by decide +kernel
theorem dX7_comeToDotOne_15 : decode cX7_comeToDotOne 15 = .ok (.aload_n 0, 1) := by decide +kernel
theorem dX7_comeToDotOne_16 : decode cX7_comeToDotOne 16 = .ok (.getfield 23, 3) := by decide +kernel
theorem dX7_comeToDotOne_19 : decode cX7_comeToDotOne 19 = .ok (.sipush 128, 3) := by decide +kernel
theorem dX7_comeToDotOne_22 : decode cX7_comeToDotOne 22 = .ok (.iand, 1) := by decide +kernel
theorem dX7_comeToDotOne_23 : decode cX7_comeToDotOne 23 = .ok (.ifCond .eq 26, 3) := by decide +kernel
theorem dX7_comeToDotOne_26 : decode cX7_comeToDotOne 26 = .ok (.aload_n 0, 1) := by decide +kernel
theorem dX7_comeToDotOne_27 : decode cX7_comeToDotOne 27 = .ok (.iconst 1, 1) := by decide +kernel
theorem dX7_comeToDotOne_28 : decode cX7_comeToDotOne 28 = .ok (.putfield 33, 3) := by decide +kernel
theorem dX7_comeToDotOne_31 : decode cX7_comeToDotOne 31 = .ok (.goto 18, 3) := by decide +kernel
theorem dX7_comeToDotOne_34 : decode cX7_comeToDotOne 34 = .ok (.aload_n 0, 1) := by decide +kernel
theorem dX7_comeToDotOne_35 : decode cX7_comeToDotOne 35 = .ok (.getfield 105, 3) := by decide +kernel
theorem dX7_comeToDotOne_38 : decode cX7_comeToDotOne 38 = .ok (.sipush 261, 3) := by decide +kernel
theorem dX7_comeToDotOne_41 : decode cX7_comeToDotOne 41 = .ok (.if_icmp .ne 8, 3) := by decide +kernel
theorem dX7_comeToDotOne_44 : decode cX7_comeToDotOne 44 = .ok (.aload_n 0, 1) := by decide +kernel
theorem dX7_comeToDotOne_45 : decode cX7_comeToDotOne 45 = .ok (.iconst 0, 1) := by decide +kernel
theorem dX7_comeToDotOne_46 : decode cX7_comeToDotOne 46 = .ok (.putfield 37, 3) := by decide +kernel
theorem dX7_comeToDotOne_49 : decode cX7_comeToDotOne 49 = .ok (.return_, 1) := by decide +kernel
theorem dX7_tellLine_0 : decode cX7_tellLine 0 = .ok (.aload_n 0, 1) := by decide +kernel
theorem dX7_tellLine_1 : decode cX7_tellLine 1 = .ok (.getfield 105, 3) := by decide +kernel
theorem dX7_tellLine_4 : decode cX7_tellLine 4 = .ok (.sipush 240, 3) := by decide +kernel
theorem dX7_tellLine_7 : decode cX7_tellLine 7 = .ok (.if_icmp .lt 13, 3) := by decide +kernel
theorem dX7_tellLine_10 : decode cX7_tellLine 10 = .ok (.aload_n 0, 1) := by decide +kernel
theorem dX7_tellLine_11 : decode cX7_tellLine 11 = .ok (.getfield 105, 3) := by decide +kernel
theorem dX7_tellLine_14 : decode cX7_tellLine 14 = .ok (.sipush 261, 3) := by decide +kernel
theorem dX7_tellLine_17 : decode cX7_tellLine 17 = .ok (.if_icmp .ne 7, 3) := by decide +kernel
theorem dX7_tellLine_20 : decode cX7_tellLine 20 = .ok (.iconst 1, 1) := by decide +kernel
theorem dX7_tellLine_21 : decode cX7_tellLine 21 = .ok (.goto 4, 3) := by decide +kernel
theorem dX7_tellLine_24 : decode cX7_tellLine 24 = .ok (.iconst 0, 1) := by decide +kernel
theorem dX7_tellLine_25 : decode cX7_tellLine 25 = .ok (.istore_n 1, 1) := by decide +kernel
theorem dX7_tellLine_26 : decode cX7_tellLine 26 = .ok (.iload_n 1, 1) := by decide +kernel
theorem dX7_tellLine_27 : decode cX7_tellLine 27 = .ok (.ifCond .eq 20, 3) := by decide +kernel
theorem dX7_tellLine_30 : decode cX7_tellLine 30 = .ok (.aload_n 0, 1) := by decide +kernel
theorem dX7_tellLine_31 : decode cX7_tellLine 31 = .ok (.getfield 27, 3) := by decide +kernel
theorem dX7_tellLine_34 : decode cX7_tellLine 34 = .ok (.bipush 24, 2) := by decide +kernel
theorem dX7_tellLine_36 : decode cX7_tellLine 36 = .ok (.iand, 1) := by decide +kernel
theorem dX7_tellLine_37 : decode cX7_tellLine 37 = .ok (.ifCond .eq 10, 3) := by decide +kernel
theorem dX7_tellLine_40 : decode cX7_tellLine 40 = .ok (.aload_n 0, 1) := by decide +kernel
theorem dX7_tellLine_41 : decode cX7_tellLine 41 = .ok (.getfield 19, 3) := by decide +kernel
theorem dX7_tellLine_44 : decode cX7_tellLine 44 = .ok (.invokevirtual 108, 3) := by decide +kernel
theorem dX7_tellLine_47 : decode cX7_tellLine 47 = .ok (.return_, 1) := by decide +kernel
theorem dX8_init_0 : decode cX8_init 0 = .ok (.aload_n 0, 1) := by decide +kernel
theorem dX8_init_1 : decode cX8_init 1 = .ok (.invokespecial 1, 3) := by decide +kernel
theorem dX8_init_4 : decode cX8_init 4 = .ok (.aload_n 0, 1) := by decide +kernel
theorem dX8_init_5 : decode cX8_init 5 = .ok (.iconst 4, 1) := by decide +kernel
theorem dX8_init_6 : decode cX8_init 6 = .ok (.newarray .int, 2) := by decide +kernel
theorem dX8_init_8 : decode cX8_init 8 = .ok (.putfield 9, 3) := by decide +kernel
theorem dX8_init_11 : decode cX8_init 11 = .ok (.return_, 1) := by decide +kernel
theorem dX8_restart_0 : decode cX8_restart 0 = .ok (.aload_n 0, 1) := by decide +kernel
theorem dX8_restart_1 : decode cX8_restart 1 = .ok (.iconst 0, 1) := by decide +kernel
theorem dX8_restart_2 : decode cX8_restart 2 = .ok (.invokevirtual 13, 3) := by decide +kernel
theorem dX8_restart_5 : decode cX8_restart 5 = .ok (.aload_n 0, 1) := by decide +kernel
theorem dX8_restart_6 : decode cX8_restart 6 = .ok (.iconst 0, 1) := by decide +kernel
theorem dX8_restart_7 : decode cX8_restart 7 = .ok (.putfield 17, 3) := by decide +kernel
theorem dX8_restart_10 : decode cX8_restart 10 = .ok (.return_, 1) := by decide +kernel
theorem dX8_loadStatus_0 : decode cX8_loadStatus 0 = .ok (.aload_n 0, 1) := by decide +kernel
theorem dX8_loadStatus_1 : decode cX8_loadStatus 1 = .ok (.getfield 17, 3) := by decide +kernel
theorem dX8_loadStatus_4 : decode cX8_loadStatus 4 = .ok (.ifCond .eq 8, 3) := by decide +kernel
theorem dX8_loadStatus_7 : decode cX8_loadStatus 7 = .ok (.bipush 64, 2) := by decide +kernel
theorem dX8_loadStatus_9 : decode cX8_loadStatus 9 = .ok (.goto 4, 3) := by decide +kernel
theorem dX8_loadStatus_12 : decode cX8_loadStatus 12 = .ok (.iconst 0, 1) := by decide +kernel
theorem dX8_loadStatus_13 : decode cX8_loadStatus 13 = .ok (.istore_n 1, 1) := by decide +kernel
theorem dX8_loadStatus_14 : decode cX8_loadStatus 14 = .ok (.aload_n 0, 1) := by decide +kernel
theorem dX8_loadStatus_15 : decode cX8_loadStatus 15 = .ok (.iconst 0, 1) := by decide +kernel
theorem dX8_loadStatus_16 : decode cX8_loadStatus 16 = .ok (.putfield 17, 3) := by decide +kernel
theorem dX8_loadStatus_19 : decode cX8_loadStatus 19 = .ok (.iconst 0, 1) := by decide +kernel
theorem dX8_loadStatus_20 : decode cX8_loadStatus 20 = .ok (.istore_n 2, 1) := by decide +kernel
theorem dX8_loadStatus_21 : decode cX8_loadStatus 21 = .ok (.iload_n 2, 1) := by decide +kernel
theorem dX8_loadStatus_22 : decode cX8_loadStatus 22 = .ok (.iconst 4, 1) := by decide +kernel
theorem dX8_loadStatus_23 : decode cX8_loadStatus 23 = .ok (.if_icmp .ge 24, 3) := by decide +kernel
theorem dX8_loadStatus_26 : decode cX8_loadStatus 26 = .ok (.aload_n 0, 1) := by decide +kernel
theorem dX8_loadStatus_27 : decode cX8_loadStatus 27 = .ok (.getfield 9, 3) := by decide +kernel
theorem dX8_loadStatus_30 : decode cX8_loadStatus 30 = .ok (.iload_n 2, 1) := by decide +kernel
theorem dX8_loadStatus_31 : decode cX8_loadStatus 31 = .ok (.iaload, 1) := by decide +kernel
theorem dX8_loadStatus_32 : decode cX8_loadStatus 32 = .ok (.ifCond .le 9, 3) := by decide +kernel
theorem dX8_loadStatus_35 : decode cX8_loadStatus 35 = .ok (.iload_n 1, 1) := by decide +kernel
theorem dX8_loadStatus_36 : decode cX8_loadStatus 36 = .ok (.iconst 1, 1) := by decide +kernel
theorem dX8_loadStatus_37 : decode cX8_loadStatus 37 = .ok (.iload_n 2, 1) := by decide +kernel
theorem dX8_loadStatus_38 : decode cX8_loadStatus 38 = .ok (.ishl, 1) := by decide +kernel
theorem dX8_loadStatus_39 : decode cX8_loadStatus 39 = .ok (.ior, 1) := by decide +kernel
theorem dX8_loadStatus_40 : decode cX8_loadStatus 40 = .ok (.istore_n 1, 1) := by decide +kernel
theorem dX8_loadStatus_41 : decode cX8_loadStatus 41 = .ok (.iinc 2 1, 3) := by decide +kernel
theorem dX8_loadStatus_44 : decode cX8_loadStatus 44 = .ok (.goto (-23), 3) := by decide +kernel
theorem dX8_loadStatus_47 : decode cX8_loadStatus 47 = .ok (.iload_n 1, 1) := by decide +kernel
theorem dX8_loadStatus_48 : decode cX8_loadStatus 48 = .ok (.ireturn, 1) := by decide +kernel
theorem dX8_store_0 : decode cX8_store 0 = .ok (.iload_n 1, 1) := by decide +kernel
theorem dX8_store_1 : decode cX8_store 1 = .ok (.bipush 21, 2) := by decide +kernel
theorem dX8_store_3 : decode cX8_store 3 = .ok (.if_icmp .ne 14, 3) := by decide +kernel
theorem dX8_store_6 : decode cX8_store 6 = .ok (.aload_n 0, 1) := by decide +kernel
theorem dX8_store_7 : decode cX8_store 7 = .ok (.iload_n 2, 1) := by decide +kernel
theorem dX8_store_8 : decode cX8_store 8 = .ok (.bipush 15, 2) := by decide +kernel
theorem dX8_store_10 : decode cX8_store 10 = .ok (.iand, 1) := by decide +kernel
theorem dX8_store_11 : decode cX8_store 11 = .ok (.invokevirtual 13, 3) := by decide +kernel
theorem dX8_store_14 : decode cX8_store 14 = .ok (.goto 36, 3) := by decide +kernel
theorem dX8_store_17 : decode cX8_store 17 = .ok (.iload_n 1, 1) := by decide +kernel
theorem dX8_store_18 : decode cX8_store 18 = .ok (.bipush 23, 2) := by decide +kernel
theorem dX8_store_20 : decode cX8_store 20 = .ok (.if_icmp .ne 11, 3) := by decide +kernel
theorem dX8_store_23 : decode cX8_store 23 = .ok (.aload_n 0, 1) := by decide +kernel
theorem dX8_store_24 : decode cX8_store 24 = .ok (.iload_n 2, 1) := by decide +kernel
theorem dX8_store_25 : decode cX8_store 25 = .ok (.invokevirtual 21, 3) := by decide +kernel
theorem dX8_store_28 : decode cX8_store 28 = .ok (.goto 22, 3) := by decide +kernel
theorem dX8_store_31 : decode cX8_store 31 = .ok (.iload_n 1, 1) := by decide +kernel
theorem dX8_store_32 : decode cX8_store 32 = .ok (.bipush 16, 2) := by decide +kernel
theorem dX8_store_34 : decode cX8_store 34 = .ok (.if_icmp .ge 16, 3) := by decide +kernel
theorem dX8_store_37 : decode cX8_store 37 = .ok (.aload_n 0, 1) := by decide +kernel
theorem dX8_store_38 : decode cX8_store 38 = .ok (.iload_n 1, 1) := by decide +kernel
theorem dX8_store_39 : decode cX8_store 39 = .ok (.iconst 2, 1) := by decide +kernel
theorem dX8_store_40 : decode cX8_store 40 = .ok (.ishr, 1) := by decide +kernel
theorem dX8_store_41 : decode cX8_store 41 = .ok (.iconst 3, 1) := by decide +kernel
theorem dX8_store_42 : decode cX8_store 42 = .ok (.iand, 1) := by decide +kernel
theorem dX8_store_43 : decode cX8_store 43 = .ok (.iload_n 1, 1) := by decide +kernel
theorem dX8_store_44 : decode cX8_store 44 = .ok (.iconst 3, 1) := by decide +kernel
theorem dX8_store_45 : decode cX8_store 45 = .ok (.iand, 1) := by decide +kernel
theorem dX8_store_46 : decode cX8_store 46 = .ok (.iload_n 2, 1) := by decide +kernel
theorem dX8_store_47 : decode cX8_store 47 = .ok (.invokevirtual 24, 3) := by decide +kernel
theorem dX8_store_50 : decode cX8_store 50 = .ok (.return_, 1) := by decide +kernel
theorem dX8_storeChannel_0 : decode cX8_storeChannel 0 = .ok (.iconst 1, 1) := by decide +kernel
theorem dX8_storeChannel_1 : decode cX8_storeChannel 1 = .ok (.iload_n 1, 1) := by decide +kernel
theorem dX8_storeChannel_2 : decode cX8_storeChannel 2 = .ok (.ishl, 1) := by decide +kernel
theorem dX8_storeChannel_3 : decode cX8_storeChannel 3 = .ok (.istore 4, 2) := by decide +kernel
theorem dX8_storeChannel_5 : decode cX8_storeChannel 5 = .ok (.iload_n 2, 1) := by decide +kernel
theorem dX8_storeChannel_6 : decode cX8_storeChannel 6 = .ok (.ifCond .ne 51, 3) := by decide +kernel
theorem dX8_storeChannel_9 : decode cX8_storeChannel 9 = .ok (.iload_n 1, 1) := by decide +kernel
theorem dX8_storeChannel_10 : decode cX8_storeChannel 10 = .ok (.iconst 2, 1) := by decide +kernel
theorem dX8_storeChannel_11 : decode cX8_storeChannel 11 = .ok (.if_icmp .ne 9, 3) := by decide +kernel
theorem dX8_storeChannel_14 : decode cX8_storeChannel 14 = .ok (.sipush 128, 3) := by decide +kernel
theorem dX8_storeChannel_17 : decode cX8_storeChannel 17 = .ok (.goto 5, 3) := by decide +kernel
theorem dX8_storeChannel_20 : decode cX8_storeChannel 20 = .ok (.bipush 32, 2) := by decide +kernel
theorem dX8_storeChannel_22 : decode cX8_storeChannel 22 = .ok (.istore 5, 2) := by decide +kernel
theorem dX8_storeChannel_24 : decode cX8_storeChannel 24 = .ok (.aload_n 0, 1) := by decide +kernel
theorem dX8_storeChannel_25 : decode cX8_storeChannel 25 = .ok (.iload_n 3, 1) := by decide +kernel
theorem dX8_storeChannel_26 : decode cX8_storeChannel 26 = .ok (.iload 5, 2) := by decide +kernel
theorem dX8_storeChannel_28 : decode cX8_storeChannel 28 = .ok (.iand, 1) := by decide +kernel
theorem dX8_storeChannel_29 : decode cX8_storeChannel 29 = .ok (.ifCond .eq 13, 3) := by decide +kernel
theorem dX8_storeChannel_32 : decode cX8_storeChannel 32 = .ok (.aload_n 0, 1) := by decide +kernel
theorem dX8_storeChannel_33 : decode cX8_storeChannel 33 = .ok (.getfield 28, 3) := by decide +kernel
theorem dX8_storeChannel_36 : decode cX8_storeChannel 36 = .ok (.iload 4, 2) := by decide +kernel
theorem dX8_storeChannel_38 : decode cX8_storeChannel 38 = .ok (.ior, 1) := by decide +kernel
theorem dX8_storeChannel_39 : decode cX8_storeChannel 39 = .ok (.goto 12, 3) := by decide +kernel
theorem dX8_storeChannel_42 : decode cX8_storeChannel 42 = .ok (.aload_n 0, 1) := by decide +kernel
theorem dX8_storeChannel_43 : decode cX8_storeChannel 43 = .ok (.getfield 28, 3) := by decide +kernel
theorem dX8_storeChannel_46 : decode cX8_storeChannel 46 = .ok (.iload 4, 2) := by decide +kernel
theorem dX8_storeChannel_48 : decode cX8_storeChannel 48 = .ok (.iconst (-1), 1) := by decide +kernel
theorem dX8_storeChannel_49 : decode cX8_storeChannel 49 = .ok (.ixor, 1) := by decide +kernel
theorem dX8_storeChannel_50 : decode cX8_storeChannel 50 = .ok (.iand, 1) := by decide +kernel
theorem dX8_storeChannel_51 : decode cX8_storeChannel 51 = .ok (.putfield 28, 3) := by decide +kernel
theorem dX8_storeChannel_54 : decode cX8_storeChannel 54 = .ok (.goto 36, 3) := by decide +kernel
theorem dX8_storeChannel_57 : decode cX8_storeChannel 57 = .ok (.iload_n 2, 1) := by decide +kernel
theorem dX8_storeChannel_58 : decode cX8_storeChannel 58 = .ok (.iconst 3, 1) := by decide +kernel
theorem dX8_storeChannel_59 : decode cX8_storeChannel 59 = .ok (.if_icmp .ne 31, 3) := by decide +kernel
theorem dX8_storeChannel_62 : decode cX8_storeChannel 62 = .ok (.aload_n 0, 1) := by decide +kernel
theorem dX8_storeChannel_63 : decode cX8_storeChannel 63 = .ok (.getfield 32, 3) := by decide +kernel
theorem dX8_storeChannel_66 : decode cX8_storeChannel 66 = .ok (.iload 4, 2) := by decide +kernel
theorem dX8_storeChannel_68 : decode cX8_storeChannel 68 = .ok (.iand, 1) := by decide +kernel
theorem dX8_storeChannel_69 : decode cX8_storeChannel 69 = .ok (.ifCond .eq 21, 3) := by decide +kernel
theorem dX8_storeChannel_72 : decode cX8_storeChannel 72 = .ok (.aload_n 0, 1) := by decide +kernel
theorem dX8_storeChannel_73 : decode cX8_storeChannel 73 = .ok (.getfield 9, 3) := by decide +kernel
theorem dX8_storeChannel_76 : decode cX8_storeChannel 76 = .ok (.iload_n 1, 1) := by decide +kernel
theorem dX8_storeChannel_77 : decode cX8_storeChannel 77 = .ok (.iconst 3, 1) := by decide +kernel
theorem dX8_storeChannel_78 : decode cX8_storeChannel 78 = .ok (.iand, 1) := by decide +kernel
theorem dX8_storeChannel_79 : decode cX8_storeChannel 79 = .ok (.getstatic 35, 3) := by decide +kernel
theorem dX8_storeChannel_82 : decode cX8_storeChannel 82 = .ok (.iload_n 3, 1) := by decide +kernel
theorem dX8_storeChannel_83 : decode cX8_storeChannel 83 = .ok (.iconst 3, 1) := by decide +kernel
theorem dX8_storeChannel_84 : decode cX8_storeChannel 84 = .ok (.ishr, 1) := by decide +kernel
theorem dX8_storeChannel_85 : decode cX8_storeChannel 85 = .ok (.bipush 31, 2) := by decide +kernel
theorem dX8_storeChannel_87 : decode cX8_storeChannel 87 = .ok (.iand, 1) := by decide +kernel
theorem dX8_storeChannel_88 : decode cX8_storeChannel 88 = .ok (.iaload, 1) := by decide +kernel
theorem dX8_storeChannel_89 : decode cX8_storeChannel 89 = .ok (.iastore, 1) := by decide +kernel
theorem dX8_storeChannel_90 : decode cX8_storeChannel 90 = .ok (.return_, 1) := by decide +kernel
theorem dX8_enable_0 : decode cX8_enable 0 = .ok (.aload_n 0, 1) := by decide +kernel
theorem dX8_enable_1 : decode cX8_enable 1 = .ok (.iload_n 1, 1) := by decide +kernel
theorem dX8_enable_2 : decode cX8_enable 2 = .ok (.putfield 32, 3) := by decide +kernel
theorem dX8_enable_5 : decode cX8_enable 5 = .ok (.iconst 0, 1) := by decide +kernel
theorem dX8_enable_6 : decode cX8_enable 6 = .ok (.istore_n 2, 1) := by decide +kernel
theorem dX8_enable_7 : decode cX8_enable 7 = .ok (.iload_n 2, 1) := by decide +kernel
theorem dX8_enable_8 : decode cX8_enable 8 = .ok (.iconst 4, 1) := by decide +kernel
theorem dX8_enable_9 : decode cX8_enable 9 = .ok (.if_icmp .ge 24, 3) := by decide +kernel
theorem dX8_enable_12 : decode cX8_enable 12 = .ok (.iload_n 1, 1) := by decide +kernel
theorem dX8_enable_13 : decode cX8_enable 13 = .ok (.iload_n 2, 1) := by decide +kernel
theorem dX8_enable_14 : decode cX8_enable 14 = .ok (.ishr, 1) := by decide +kernel
theorem dX8_enable_15 : decode cX8_enable 15 = .ok (.iconst 1, 1) := by decide +kernel
theorem dX8_enable_16 : decode cX8_enable 16 = .ok (.iand, 1) := by decide +kernel
theorem dX8_enable_17 : decode cX8_enable 17 = .ok (.ifCond .ne 10, 3) := by decide +kernel
theorem dX8_enable_20 : decode cX8_enable 20 = .ok (.aload_n 0, 1) := by decide +kernel
theorem dX8_enable_21 : decode cX8_enable 21 = .ok (.getfield 9, 3) := by decide +kernel
theorem dX8_enable_24 : decode cX8_enable 24 = .ok (.iload_n 2, 1) := by decide +kernel
theorem dX8_enable_25 : decode cX8_enable 25 = .ok (.iconst 0, 1) := by decide +kernel
theorem dX8_enable_26 : decode cX8_enable 26 = .ok (.iastore, 1) := by decide +kernel
theorem dX8_enable_27 : decode cX8_enable 27 = .ok (.iinc 2 1, 3) := by decide +kernel
theorem dX8_enable_30 : decode cX8_enable 30 = .ok (.goto (-23), 3) := by decide +kernel
theorem dX8_enable_33 : decode cX8_enable 33 = .ok (.return_, 1) := by decide +kernel
theorem dX8_restartFrame_0 : decode cX8_restartFrame 0 = .ok (.aload_n 0, 1) := by decide +kernel
theorem dX8_restartFrame_1 : decode cX8_restartFrame 1 = .ok (.iload_n 1, 1) := by decide +kernel
theorem dX8_restartFrame_2 : decode cX8_restartFrame 2 = .ok (.sipush 128, 3) := by decide +kernel
theorem dX8_restartFrame_5 : decode cX8_restartFrame 5 = .ok (.iand, 1) := by decide +kernel
theorem dX8_restartFrame_6 : decode cX8_restartFrame 6 = .ok (.ifCond .eq 7, 3) := by decide +kernel
theorem dX8_restartFrame_9 : decode cX8_restartFrame 9 = .ok (.iconst 1, 1) := by decide +kernel
theorem dX8_restartFrame_10 : decode cX8_restartFrame 10 = .ok (.goto 4, 3) := by decide +kernel
theorem dX8_restartFrame_13 : decode cX8_restartFrame 13 = .ok (.iconst 0, 1) := by decide +kernel
theorem dX8_restartFrame_14 : decode cX8_restartFrame 14 = .ok (.putfield 38, 3) := by decide +kernel
theorem dX8_restartFrame_17 : decode cX8_restartFrame 17 = .ok (.aload_n 0, 1) := by decide +kernel
theorem dX8_restartFrame_18 : decode cX8_restartFrame 18 = .ok (.iload_n 1, 1) := by decide +kernel
theorem dX8_restartFrame_19 : decode cX8_restartFrame 19 = .ok (.bipush 64, 2) := by decide +kernel
theorem dX8_restartFrame_21 : decode cX8_restartFrame 21 = .ok (.iand, 1) := by decide +kernel
theorem dX8_restartFrame_22 : decode cX8_restartFrame 22 = .ok (.ifCond .eq 7, 3) := by decide +kernel
theorem dX8_restartFrame_25 : decode cX8_restartFrame 25 = .ok (.iconst 1, 1) := by decide +kernel
theorem dX8_restartFrame_26 : decode cX8_restartFrame 26 = .ok (.goto 4, 3) := by decide +kernel
theorem dX8_restartFrame_29 : decode cX8_restartFrame 29 = .ok (.iconst 0, 1) := by decide +kernel
theorem dX8_restartFrame_30 : decode cX8_restartFrame 30 = .ok (.putfield 41, 3) := by decide +kernel
theorem dX8_restartFrame_33 : decode cX8_restartFrame 33 = .ok (.aload_n 0, 1) := by decide +kernel
theorem dX8_restartFrame_34 : decode cX8_restartFrame 34 = .ok (.getfield 41, 3) := by decide +kernel
theorem dX8_restartFrame_37 : decode cX8_restartFrame 37 = .ok (.ifCond .eq 8, 3) := by decide +kernel
theorem dX8_restartFrame_40 : decode cX8_restartFrame 40 = .ok (.aload_n 0, 1) := by decide +kernel
theorem dX8_restartFrame_41 : decode cX8_restartFrame 41 = .ok (.iconst 0, 1) := by decide +kernel
theorem dX8_restartFrame_42 : decode cX8_restartFrame 42 = .ok (.putfield 17, 3) := by decide +kernel
theorem dX8_restartFrame_45 : decode cX8_restartFrame 45 = .ok (.aload_n 0, 1) := by decide +kernel
theorem dX8_restartFrame_46 : decode cX8_restartFrame 46 = .ok (.iconst 0, 1) := by decide +kernel
theorem dX8_restartFrame_47 : decode cX8_restartFrame 47 = .ok (.putfield 44, 3) := by decide +kernel
theorem dX8_restartFrame_50 : decode cX8_restartFrame 50 = .ok (.aload_n 0, 1) := by decide +kernel
theorem dX8_restartFrame_51 : decode cX8_restartFrame 51 = .ok (.getfield 38, 3) := by decide +kernel
theorem dX8_restartFrame_54 : decode cX8_restartFrame 54 = .ok (.ifCond .eq 7, 3) := by decide +kernel
theorem dX8_restartFrame_57 : decode cX8_restartFrame 57 = .ok (.aload_n 0, 1) := by decide +kernel
theorem dX8_restartFrame_58 : decode cX8_restartFrame 58 = .ok (.invokevirtual 47, 3) := by decide +kernel
theorem dX8_restartFrame_61 : decode cX8_restartFrame 61 = .ok (.return_, 1) := by decide +kernel
theorem dX8_countLengths_0 : decode cX8_countLengths 0 = .ok (.iconst 0, 1) := by decide +kernel
theorem dX8_countLengths_1 : decode cX8_countLengths 1 = .ok (.istore_n 1, 1) := by decide +kernel
theorem dX8_countLengths_2 : decode cX8_countLengths 2 = .ok (.iload_n 1, 1) := by decide +kernel
theorem dX8_countLengths_3 : decode cX8_countLengths 3 = .ok (.iconst 4, 1) := by decide +kernel
theorem dX8_countLengths_4 : decode cX8_countLengths 4 = .ok (.if_icmp .ge 39, 3) := by decide +kernel
theorem dX8_countLengths_7 : decode cX8_countLengths 7 = .ok (.aload_n 0, 1) := by decide +kernel
theorem dX8_countLengths_8 : decode cX8_countLengths 8 = .ok (.getfield 9, 3) := by decide +kernel
theorem dX8_countLengths_11 : decode cX8_countLengths 11 = .ok (.iload_n 1, 1) := by decide +kernel
theorem dX8_countLengths_12 : decode cX8_countLengths 12 = .ok (.iaload, 1) := by decide +kernel
theorem dX8_countLengths_13 : decode cX8_countLengths 13 = .ok (.ifCond .le 24, 3) := by decide +kernel
theorem dX8_countLengths_16 : decode cX8_countLengths 16 = .ok (.aload_n 0, 1) := by decide +kernel
theorem dX8_countLengths_17 : decode cX8_countLengths 17 = .ok (.getfield 28, 3) := by decide +kernel
theorem dX8_countLengths_20 : decode cX8_countLengths 20 = .ok (.iload_n 1, 1) := by decide +kernel
theorem dX8_countLengths_21 : decode cX8_countLengths 21 = .ok (.ishr, 1) := by decide +kernel
theorem dX8_countLengths_22 : decode cX8_countLengths 22 = .ok (.iconst 1, 1) := by decide +kernel
theorem dX8_countLengths_23 : decode cX8_countLengths 23 = .ok (.iand, 1) := by decide +kernel
theorem dX8_countLengths_24 : decode cX8_countLengths 24 = .ok (.ifCond .ne 13, 3) := by decide +kernel
theorem dX8_countLengths_27 : decode cX8_countLengths 27 = .ok (.aload_n 0, 1) := by decide +kernel
theorem dX8_countLengths_28 : decode cX8_countLengths 28 = .ok (.getfield 9, 3) := by decide +kernel
theorem dX8_countLengths_31 : decode cX8_countLengths 31 = .ok (.iload_n 1, 1) := by decide +kernel
theorem dX8_countLengths_32 : decode cX8_countLengths 32 = .ok (.dup2, 1) := by decide +kernel
theorem dX8_countLengths_33 : decode cX8_countLengths 33 = .ok (.iaload, 1) := by decide +kernel
theorem dX8_countLengths_34 : decode cX8_countLengths 34 = .ok (.iconst 1, 1) := by decide +kernel
theorem dX8_countLengths_35 : decode cX8_countLengths 35 = .ok (.isub, 1) := by decide +kernel
theorem dX8_countLengths_36 : decode cX8_countLengths 36 = .ok (.iastore, 1) := by decide +kernel
theorem dX8_countLengths_37 : decode cX8_countLengths 37 = .ok (.iinc 1 1, 3) := by decide +kernel
theorem dX8_countLengths_40 : decode cX8_countLengths 40 = .ok (.goto (-38), 3) := by decide +kernel
theorem dX8_countLengths_43 : decode cX8_countLengths 43 = .ok (.return_, 1) := by decide +kernel
theorem dX8_advance_0 : decode cX8_advance 0 = .ok (.iload_n 1, 1) := by decide +kernel
theorem dX8_advance_1 : decode cX8_advance 1 = .ok (.istore_n 2, 1) := by decide +kernel
theorem dX8_advance_2 : decode cX8_advance 2 = .ok (.iconst 0, 1) := by decide +kernel
theorem dX8_advance_3 : decode cX8_advance 3 = .ok (.istore_n 3, 1) := by decide +kernel
theorem dX8_advance_4 : decode cX8_advance 4 = .ok (.iload_n 3, 1) := by decide +kernel
theorem dX8_advance_5 : decode cX8_advance 5 = .ok (.sipush 1000, 3) := by decide +kernel
theorem dX8_advance_8 : decode cX8_advance 8 = .ok (.if_icmp .ge 61, 3) := by decide +kernel
theorem dX8_advance_11 : decode cX8_advance 11 = .ok (.iload_n 2, 1) := by decide +kernel
theorem dX8_advance_12 : decode cX8_advance 12 = .ok (.ifCond .le 57, 3) := by decide +kernel
theorem dX8_advance_15 : decode cX8_advance 15 = .ok (.aload_n 0, 1) := by decide +kernel
theorem dX8_advance_16 : decode cX8_advance 16 = .ok (.invokevirtual 50, 3) := by decide +kernel
theorem dX8_advance_19 : decode cX8_advance 19 = .ok (.istore 4, 2) := by decide +kernel
theorem dX8_advance_21 : decode cX8_advance 21 = .ok (.iload_n 2, 1) := by decide +kernel
theorem dX8_advance_22 : decode cX8_advance 22 = .ok (.iload 4, 2) := by decide +kernel
theorem dX8_advance_24 : decode cX8_advance 24 = .ok (.aload_n 0, 1) := by decide +kernel
theorem dX8_advance_25 : decode cX8_advance 25 = .ok (.getfield 44, 3) := by decide +kernel
theorem dX8_advance_28 : decode cX8_advance 28 = .ok (.isub, 1) := by decide +kernel
theorem dX8_advance_29 : decode cX8_advance 29 = .ok (.invokestatic 54, 3) := by decide +kernel
theorem dX8_advance_32 : decode cX8_advance 32 = .ok (.istore 5, 2) := by decide +kernel
theorem dX8_advance_34 : decode cX8_advance 34 = .ok (.iload_n 2, 1) := by decide +kernel
theorem dX8_advance_35 : decode cX8_advance 35 = .ok (.iload 5, 2) := by decide +kernel
theorem dX8_advance_37 : decode cX8_advance 37 = .ok (.isub, 1) := by decide +kernel
theorem dX8_advance_38 : decode cX8_advance 38 = .ok (.istore_n 2, 1) := by decide +kernel
theorem dX8_advance_39 : decode cX8_advance 39 = .ok (.aload_n 0, 1) := by decide +kernel
theorem dX8_advance_40 : decode cX8_advance 40 = .ok (.dup, 1) := by decide +kernel
theorem dX8_advance_41 : decode cX8_advance 41 = .ok (.getfield 44, 3) := by decide +kernel
theorem dX8_advance_44 : decode cX8_advance 44 = .ok (.iload 5, 2) := by decide +kernel
theorem dX8_advance_46 : decode cX8_advance 46 = .ok (.iadd, 1) := by decide +kernel
theorem dX8_advance_47 : decode cX8_advance 47 = .ok (.putfield 44, 3) := by decide +kernel
theorem dX8_advance_50 : decode cX8_advance 50 = .ok (.aload_n 0, 1) := by decide +kernel
theorem dX8_advance_51 : decode cX8_advance 51 = .ok (.getfield 44, 3) := by decide +kernel
theorem dX8_advance_54 : decode cX8_advance 54 = .ok (.iload 4, 2) := by decide +kernel
theorem dX8_advance_56 : decode cX8_advance 56 = .ok (.if_icmp .ne 7, 3) := by decide +kernel
theorem dX8_advance_59 : decode cX8_advance 59 = .ok (.aload_n 0, 1) := by decide +kernel
theorem dX8_advance_60 : decode cX8_advance 60 = .ok (.invokevirtual 60, 3) := by decide +kernel
theorem dX8_advance_63 : decode cX8_advance 63 = .ok (.iinc 3 1, 3) := by decide +kernel
theorem dX8_advance_66 : decode cX8_advance 66 = .ok (.goto (-62), 3) := by decide +kernel
theorem dX8_advance_69 : decode cX8_advance 69 = .ok (.return_, 1) := by decide +kernel
theorem dX8_frameEnd_0 : decode cX8_frameEnd 0 = .ok (.aload_n 0, 1) := by decide +kernel
theorem dX8_frameEnd_1 : decode cX8_frameEnd 1 = .ok (.getfield 38, 3) := by decide +kernel
theorem dX8_frameEnd_4 : decode cX8_frameEnd 4 = .ok (.ifCond .eq 8, 3) := by decide +kernel
theorem dX8_frameEnd_7 : decode cX8_frameEnd 7 = .ok (.ldc 63, 2) := by decide +kernel
theorem dX8_frameEnd_9 : decode cX8_frameEnd 9 = .ok (.goto 6, 3) := by decide +kernel
theorem dX8_frameEnd_12 : decode cX8_frameEnd 12 = .ok (.sipush 29829, 3) := by decide +kernel
theorem dX8_frameEnd_15 : decode cX8_frameEnd 15 = .ok (.ireturn, 1) := by decide +kernel
theorem dX8_nextMark_0 : decode cX8_nextMark 0 = .ok (.aload_n 0, 1) := by decide +kernel
theorem dX8_nextMark_1 : decode cX8_nextMark 1 = .ok (.getfield 44, 3) := by decide +kernel
theorem dX8_nextMark_4 : decode cX8_nextMark 4 = .ok (.sipush 14913, 3) := by decide +kernel
theorem dX8_nextMark_7 : decode cX8_nextMark 7 = .ok (.if_icmp .ge 7, 3) := by decide +kernel
theorem dX8_nextMark_10 : decode cX8_nextMark 10 = .ok (.sipush 14913, 3) := by decide +kernel
theorem dX8_nextMark_13 : decode cX8_nextMark 13 = .ok (.ireturn, 1) := by decide +kernel
theorem dX8_nextMark_14 : decode cX8_nextMark 14 = .ok (.aload_n 0, 1) := by decide +kernel
theorem dX8_nextMark_15 : decode cX8_nextMark 15 = .ok (.getfield 44, 3) := by decide +kernel
theorem dX8_nextMark_18 : decode cX8_nextMark 18 = .ok (.aload_n 0, 1) := by decide +kernel
theorem dX8_nextMark_19 : decode cX8_nextMark 19 = .ok (.invokevirtual 64, 3) := by decide +kernel
theorem dX8_nextMark_22 : decode cX8_nextMark 22 = .ok (.if_icmp .ge 10, 3) := by decide +kernel
theorem dX8_nextMark_25 : decode cX8_nextMark 25 = .ok (.aload_n 0, 1) := by decide +kernel
theorem dX8_nextMark_26 : decode cX8_nextMark 26 = .ok (.invokevirtual 64, 3) := by decide +kernel
theorem dX8_nextMark_29 : decode cX8_nextMark 29 = .ok (.goto 9, 3) := by decide +kernel
theorem dX8_nextMark_32 : decode cX8_nextMark 32 = .ok (.aload_n 0, 1) := by decide +kernel
theorem dX8_nextMark_33 : decode cX8_nextMark 33 = .ok (.invokevirtual 64, 3) := by decide +kernel
theorem dX8_nextMark_36 : decode cX8_nextMark 36 = .ok (.iconst 1, 1) := by decide +kernel
theorem dX8_nextMark_37 : decode cX8_nextMark 37 = .ok (.iadd, 1) := by decide +kernel
theorem dX8_nextMark_38 : decode cX8_nextMark 38 = .ok (.ireturn, 1) := by decide +kernel
theorem dX8_comeToMark_0 : decode cX8_comeToMark 0 = .ok (.aload_n 0, 1) := by decide +kernel
theorem dX8_comeToMark_1 : decode cX8_comeToMark 1 = .ok (.getfield 44, 3) := by decide +kernel
theorem dX8_comeToMark_4 : decode cX8_comeToMark 4 = .ok (.aload_n 0, 1) := by decide +kernel
theorem dX8_comeToMark_5 : decode cX8_comeToMark 5 = .ok (.invokevirtual 64, 3) := by decide +kernel
theorem dX8_comeToMark_8 : decode cX8_comeToMark 8 = .ok (.if_icmp .le 9, 3) := by decide +kernel
theorem dX8_comeToMark_11 : decode cX8_comeToMark 11 = .ok (.aload_n 0, 1) := by decide +kernel
theorem dX8_comeToMark_12 : decode cX8_comeToMark 12 = .ok (.iconst 0, 1) := by decide +kernel
theorem dX8_comeToMark_13 : decode cX8_comeToMark 13 = .ok (.putfield 44, 3) := by decide +kernel
theorem dX8_comeToMark_16 : decode cX8_comeToMark 16 = .ok (.return_, 1) := by decide +kernel
theorem dX8_comeToMark_17 : decode cX8_comeToMark 17 = .ok (.aload_n 0, 1) := by decide +kernel
theorem dX8_comeToMark_18 : decode cX8_comeToMark 18 = .ok (.invokevirtual 47, 3) := by decide +kernel
theorem dX8_comeToMark_21 : decode cX8_comeToMark 21 = .ok (.aload_n 0, 1) := by decide +kernel
theorem dX8_comeToMark_22 : decode cX8_comeToMark 22 = .ok (.getfield 44, 3) := by decide +kernel
theorem dX8_comeToMark_25 : decode cX8_comeToMark 25 = .ok (.aload_n 0, 1) := by decide +kernel
theorem dX8_comeToMark_26 : decode cX8_comeToMark 26 = .ok (.invokevirtual 64, 3) := by decide +kernel
theorem dX8_comeToMark_29 : decode cX8_comeToMark 29 = .ok (.if_icmp .ne 22, 3) := by decide +kernel
theorem dX8_comeToMark_32 : decode cX8_comeToMark 32 = .ok (.aload_n 0, 1) := by decide +kernel
theorem dX8_comeToMark_33 : decode cX8_comeToMark 33 = .ok (.getfield 38, 3) := by decide +kernel
theorem dX8_comeToMark_36 : decode cX8_comeToMark 36 = .ok (.ifCond .ne 15, 3) := by decide +kernel
theorem dX8_comeToMark_39 : decode cX8_comeToMark 39 = .ok (.aload_n 0, 1) := by decide +kernel
theorem dX8_comeToMark_40 : decode cX8_comeToMark 40 = .ok (.getfield 41, 3) := by decide +kernel
theorem dX8_comeToMark_43 : decode cX8_comeToMark 43 = .ok (.ifCond .ne 8, 3) := by decide +kernel
theorem dX8_comeToMark_46 : decode cX8_comeToMark 46 = .ok (.aload_n 0, 1) := by decide +kernel
theorem dX8_comeToMark_47 : decode cX8_comeToMark 47 = .ok (.iconst 1, 1) := by decide +kernel
theorem dX8_comeToMark_48 : decode cX8_comeToMark 48 = .ok (.putfield 17, 3) := by decide +kernel
theorem dX8_comeToMark_51 : decode cX8_comeToMark 51 = .ok (.return_, 1) := by decide +kernel
theorem dX9_init_0 : decode cX9_init 0 = .ok (.aload_n 0, 1) := by decide +kernel
theorem dX9_init_1 : decode cX9_init 1 = .ok (.invokespecial 1, 3) := by decide +kernel
theorem dX9_init_4 : decode cX9_init 4 = .ok (.iload_n 1, 1) := by decide +kernel
theorem dX9_init_5 : decode cX9_init 5 = .ok (.iconst 1, 1) := by decide +kernel
theorem dX9_init_6 : decode cX9_init 6 = .ok (.iand, 1) := by decide +kernel
theorem dX9_init_7 : decode cX9_init 7 = .ok (.iconst 1, 1) := by decide +kernel
theorem dX9_init_8 : decode cX9_init 8 = .ok (.if_icmp .ne 17, 3) := by decide +kernel
theorem dX9_init_11 : decode cX9_init 11 = .ok (.aload_n 0, 1) := by decide +kernel
theorem dX9_init_12 : decode cX9_init 12 = .ok (.new 7, 3) := by decide +kernel
theorem dX9_init_15 : decode cX9_init 15 = .ok (.dup, 1) := by decide +kernel
theorem dX9_init_16 : decode cX9_init 16 = .ok (.invokespecial 9, 3) := by decide +kernel
theorem dX9_init_19 : decode cX9_init 19 = .ok (.putfield 10, 3) := by decide +kernel
theorem dX9_init_22 : decode cX9_init 22 = .ok (.goto 14, 3) := by decide +kernel
theorem dX9_init_25 : decode cX9_init 25 = .ok (.aload_n 0, 1) := by decide +kernel
theorem dX9_init_26 : decode cX9_init 26 = .ok (.new 16, 3) := by decide +kernel
theorem dX9_init_29 : decode cX9_init 29 = .ok (.dup, 1) := by decide +kernel
theorem dX9_init_30 : decode cX9_init 30 = .ok (.invokespecial 18, 3) := by decide +kernel
theorem dX9_init_33 : decode cX9_init 33 = .ok (.putfield 10, 3) := by decide +kernel
theorem dX9_init_36 : decode cX9_init 36 = .ok (.aload_n 0, 1) := by decide +kernel
theorem dX9_init_37 : decode cX9_init 37 = .ok (.new 19, 3) := by decide +kernel
theorem dX9_init_40 : decode cX9_init 40 = .ok (.dup, 1) := by decide +kernel
theorem dX9_init_41 : decode cX9_init 41 = .ok (.aload_n 0, 1) := by decide +kernel
theorem dX9_init_42 : decode cX9_init 42 = .ok (.getfield 10, 3) := by decide +kernel
theorem dX9_init_45 : decode cX9_init 45 = .ok (.invokespecial 21, 3) := by decide +kernel
theorem dX9_init_48 : decode cX9_init 48 = .ok (.putfield 24, 3) := by decide +kernel
theorem dX9_init_51 : decode cX9_init 51 = .ok (.aload_n 0, 1) := by decide +kernel
theorem dX9_init_52 : decode cX9_init 52 = .ok (.new 28, 3) := by decide +kernel
theorem dX9_init_55 : decode cX9_init 55 = .ok (.dup, 1) := by decide +kernel
theorem dX9_init_56 : decode cX9_init 56 = .ok (.invokespecial 30, 3) := by decide +kernel
theorem dX9_init_59 : decode cX9_init 59 = .ok (.putfield 31, 3) := by decide +kernel
theorem dX9_init_62 : decode cX9_init 62 = .ok (.aload_n 0, 1) := by decide +kernel
theorem dX9_init_63 : decode cX9_init 63 = .ok (.new 35, 3) := by decide +kernel
theorem dX9_init_66 : decode cX9_init 66 = .ok (.dup, 1) := by decide +kernel
theorem dX9_init_67 : decode cX9_init 67 = .ok (.invokespecial 37, 3) := by decide +kernel
theorem dX9_init_70 : decode cX9_init 70 = .ok (.putfield 38, 3) := by decide +kernel
theorem dX9_init_73 : decode cX9_init 73 = .ok (.aload_n 0, 1) := by decide +kernel
theorem dX9_init_74 : decode cX9_init 74 = .ok (.new 42, 3) := by decide +kernel
theorem dX9_init_77 : decode cX9_init 77 = .ok (.dup, 1) := by decide +kernel
theorem dX9_init_78 : decode cX9_init 78 = .ok (.aload_n 0, 1) := by decide +kernel
theorem dX9_init_79 : decode cX9_init 79 = .ok (.getfield 24, 3) := by decide +kernel
theorem dX9_init_82 : decode cX9_init 82 = .ok (.aload_n 0, 1) := by decide +kernel
theorem dX9_init_83 : decode cX9_init 83 = .ok (.getfield 31, 3) := by decide +kernel
theorem dX9_init_86 : decode cX9_init 86 = .ok (.aload_n 0, 1) := by decide +kernel
theorem dX9_init_87 : decode cX9_init 87 = .ok (.getfield 38, 3) := by decide +kernel
theorem dX9_init_90 : decode cX9_init 90 = .ok (.aload_n 0, 1) := by decide +kernel
theorem dX9_init_91 : decode cX9_init 91 = .ok (.getfield 10, 3) := by decide +kernel
theorem dX9_init_94 : decode cX9_init 94 = .ok (.invokespecial 44, 3) := by decide +kernel
theorem dX9_init_97 : decode cX9_init 97 = .ok (.putfield 47, 3) := by decide +kernel
theorem dX9_init_100 : decode cX9_init 100 = .ok (.aload_n 0, 1) := by decide +kernel
theorem dX9_init_101 : decode cX9_init 101 = .ok (.new 51, 3) := by decide +kernel
theorem dX9_init_104 : decode cX9_init 104 = .ok (.dup, 1) := by decide +kernel
theorem dX9_init_105 : decode cX9_init 105 = .ok (.aload_n 0, 1) := by decide +kernel
theorem dX9_init_106 : decode cX9_init 106 = .ok (.getfield 47, 3) := by decide +kernel
theorem dX9_init_109 : decode cX9_init 109 = .ok (.invokespecial 53, 3) := by decide +kernel
theorem dX9_init_112 : decode cX9_init 112 = .ok (.putfield 56, 3) := by decide +kernel
theorem dX9_init_115 : decode cX9_init 115 = .ok (.return_, 1) := by decide +kernel
theorem dX9_rom_0 : decode cX9_rom 0 = .ok (.iload_n 1, 1) := by decide +kernel
theorem dX9_rom_1 : decode cX9_rom 1 = .ok (.ifCond .lt 10, 3) := by decide +kernel
theorem dX9_rom_4 : decode cX9_rom 4 = .ok (.iload_n 1, 1) := by decide +kernel
theorem dX9_rom_5 : decode cX9_rom 5 = .ok (.sipush 512, 3) := by decide +kernel
theorem dX9_rom_8 : decode cX9_rom 8 = .ok (.if_icmp .lt 13, 3) := by decide +kernel
theorem dX9_rom_11 : decode cX9_rom 11 = .ok (.new 60, 3) := by decide +kernel
theorem dX9_rom_14 : decode cX9_rom 14 = .ok (.dup, 1) := by decide +kernel
theorem dX9_rom_15 : decode cX9_rom 15 = .ok (.ldc 62, 2) := by decide +kernel
theorem dX9_rom_17 : decode cX9_rom 17 = .ok (.invokespecial 64, 3) := by decide +kernel
theorem dX9_rom_20 : decode cX9_rom 20 = .ok (.athrow, 1) := by decide +kernel
theorem dX9_rom_21 : decode cX9_rom 21 = .ok (.aload_n 0, 1) := by decide +kernel
theorem dX9_rom_22 : decode cX9_rom 22 = .ok (.getfield 10, 3) := by decide +kernel
theorem dX9_rom_25 : decode cX9_rom 25 = .ok (.getfield 67, 3) := by decide +kernel
theorem dX9_rom_28 : decode cX9_rom 28 = .ok (.iload_n 1, 1) := by decide +kernel
theorem dX9_rom_29 : decode cX9_rom 29 = .ok (.iload_n 2, 1) := by decide +kernel
theorem dX9_rom_30 : decode cX9_rom 30 = .ok (.sipush 255, 3) := by decide +kernel
theorem dX9_rom_33 : decode cX9_rom 33 = .ok (.iand, 1) := by decide +kernel
theorem dX9_rom_34 : decode cX9_rom 34 = .ok (.iastore, 1) := by decide +kernel
theorem dX9_rom_35 : decode cX9_rom 35 = .ok (.return_, 1) := by decide +kernel
theorem dX9_chr_0 : decode cX9_chr 0 = .ok (.iload_n 1, 1) := by decide +kernel
theorem dX9_chr_1 : decode cX9_chr 1 = .ok (.ifCond .lt 10, 3) := by decide +kernel
theorem dX9_chr_4 : decode cX9_chr 4 = .ok (.iload_n 1, 1) := by decide +kernel
theorem dX9_chr_5 : decode cX9_chr 5 = .ok (.sipush 128, 3) := by decide +kernel
theorem dX9_chr_8 : decode cX9_chr 8 = .ok (.if_icmp .lt 13, 3) := by decide +kernel
theorem dX9_chr_11 : decode cX9_chr 11 = .ok (.new 60, 3) := by decide +kernel
theorem dX9_chr_14 : decode cX9_chr 14 = .ok (.dup, 1) := by decide +kernel
theorem dX9_chr_15 : decode cX9_chr 15 = .ok (.ldc 73, 2) := by decide +kernel
theorem dX9_chr_17 : decode cX9_chr 17 = .ok (.invokespecial 64, 3) := by decide +kernel
theorem dX9_chr_20 : decode cX9_chr 20 = .ok (.athrow, 1) := by decide +kernel
theorem dX9_chr_21 : decode cX9_chr 21 = .ok (.aload_n 0, 1) := by decide +kernel
theorem dX9_chr_22 : decode cX9_chr 22 = .ok (.getfield 10, 3) := by decide +kernel
theorem dX9_chr_25 : decode cX9_chr 25 = .ok (.getfield 75, 3) := by decide +kernel
theorem dX9_chr_28 : decode cX9_chr 28 = .ok (.iload_n 1, 1) := by decide +kernel
theorem dX9_chr_29 : decode cX9_chr 29 = .ok (.iload_n 2, 1) := by decide +kernel
theorem dX9_chr_30 : decode cX9_chr 30 = .ok (.sipush 255, 3) := by decide +kernel
theorem dX9_chr_33 : decode cX9_chr 33 = .ok (.iand, 1) := by decide +kernel
theorem dX9_chr_34 : decode cX9_chr 34 = .ok (.iastore, 1) := by decide +kernel
theorem dX9_chr_35 : decode cX9_chr 35 = .ok (.return_, 1) := by decide +kernel
theorem dX9_reset_0 : decode cX9_reset 0 = .ok (.aload_n 0, 1) := by decide +kernel
theorem dX9_reset_1 : decode cX9_reset 1 = .ok (.getfield 10, 3) := by decide +kernel
theorem dX9_reset_4 : decode cX9_reset 4 = .ok (.invokevirtual 78, 3) := by decide +kernel
theorem dX9_reset_7 : decode cX9_reset 7 = .ok (.aload_n 0, 1) := by decide +kernel
theorem dX9_reset_8 : decode cX9_reset 8 = .ok (.getfield 24, 3) := by decide +kernel
theorem dX9_reset_11 : decode cX9_reset 11 = .ok (.invokevirtual 81, 3) := by decide +kernel
theorem dX9_reset_14 : decode cX9_reset 14 = .ok (.aload_n 0, 1) := by decide +kernel
theorem dX9_reset_15 : decode cX9_reset 15 = .ok (.getfield 31, 3) := by decide +kernel
theorem dX9_reset_18 : decode cX9_reset 18 = .ok (.invokevirtual 84, 3) := by decide +kernel
theorem dX9_reset_21 : decode cX9_reset 21 = .ok (.aload_n 0, 1) := by decide +kernel
theorem dX9_reset_22 : decode cX9_reset 22 = .ok (.getfield 56, 3) := by decide +kernel
theorem dX9_reset_25 : decode cX9_reset 25 = .ok (.invokevirtual 85, 3) := by decide +kernel
theorem dX9_reset_28 : decode cX9_reset 28 = .ok (.return_, 1) := by decide +kernel
theorem dX9_step_0 : decode cX9_step 0 = .ok (.aload_n 0, 1) := by decide +kernel
theorem dX9_step_1 : decode cX9_step 1 = .ok (.aload_n 0, 1) := by decide +kernel
theorem dX9_step_2 : decode cX9_step 2 = .ok (.getfield 56, 3) := by decide +kernel
theorem dX9_step_5 : decode cX9_step 5 = .ok (.aload_n 0, 1) := by decide +kernel
theorem dX9_step_6 : decode cX9_step 6 = .ok (.getfield 24, 3) := by decide +kernel
theorem dX9_step_9 : decode cX9_step 9 = .ok (.invokevirtual 86, 3) := by decide +kernel
theorem dX9_step_12 : decode cX9_step 12 = .ok (.aload_n 0, 1) := by decide +kernel
theorem dX9_step_13 : decode cX9_step 13 = .ok (.invokevirtual 90, 3) := by decide +kernel
theorem dX9_step_16 : decode cX9_step 16 = .ok (.ifCond .eq 7, 3) := by decide +kernel
theorem dX9_step_19 : decode cX9_step 19 = .ok (.iconst 1, 1) := by decide +kernel
theorem dX9_step_20 : decode cX9_step 20 = .ok (.goto 4, 3) := by decide +kernel
theorem dX9_step_23 : decode cX9_step 23 = .ok (.iconst 0, 1) := by decide +kernel
theorem dX9_step_24 : decode cX9_step 24 = .ok (.invokevirtual 94, 3) := by decide +kernel
theorem dX9_step_27 : decode cX9_step 27 = .ok (.invokevirtual 98, 3) := by decide +kernel
theorem dX9_step_30 : decode cX9_step 30 = .ok (.ireturn, 1) := by decide +kernel
theorem dX9_run_0 : decode cX9_run 0 = .ok (.iload_n 1, 1) := by decide +kernel
theorem dX9_run_1 : decode cX9_run 1 = .ok (.ifCond .lt 10, 3) := by decide +kernel
theorem dX9_run_4 : decode cX9_run 4 = .ok (.iload_n 1, 1) := by decide +kernel
theorem dX9_run_5 : decode cX9_run 5 = .ok (.sipush 200, 3) := by decide +kernel
theorem dX9_run_8 : decode cX9_run 8 = .ok (.if_icmp .le 5, 3) := by decide +kernel
theorem dX9_run_11 : decode cX9_run 11 = .ok (.iconst (-1), 1) := by decide +kernel
theorem dX9_run_12 : decode cX9_run 12 = .ok (.ireturn, 1) := by decide +kernel
theorem dX9_run_13 : decode cX9_run 13 = .ok (.iconst 0, 1) := by decide +kernel
theorem dX9_run_14 : decode cX9_run 14 = .ok (.istore_n 2, 1) := by decide +kernel
theorem dX9_run_15 : decode cX9_run 15 = .ok (.iconst 0, 1) := by decide +kernel
theorem dX9_run_16 : decode cX9_run 16 = .ok (.istore_n 3, 1) := by decide +kernel
theorem dX9_run_17 : decode cX9_run 17 = .ok (.iload_n 3, 1) := by decide +kernel
theorem dX9_run_18 : decode cX9_run 18 = .ok (.iload_n 1, 1) := by decide +kernel
theorem dX9_run_19 : decode cX9_run 19 = .ok (.if_icmp .ge 42, 3) := by decide +kernel
theorem dX9_run_22 : decode cX9_run 22 = .ok (.iload_n 2, 1) := by decide +kernel
theorem dX9_run_23 : decode cX9_run 23 = .ok (.aload_n 0, 1) := by decide +kernel
theorem dX9_run_24 : decode cX9_run 24 = .ok (.aload_n 0, 1) := by decide +kernel
theorem dX9_run_25 : decode cX9_run 25 = .ok (.getfield 56, 3) := by decide +kernel
theorem dX9_run_28 : decode cX9_run 28 = .ok (.aload_n 0, 1) := by decide +kernel
theorem dX9_run_29 : decode cX9_run 29 = .ok (.getfield 24, 3) := by decide +kernel
theorem dX9_run_32 : decode cX9_run 32 = .ok (.invokevirtual 86, 3) := by decide +kernel
theorem dX9_run_35 : decode cX9_run 35 = .ok (.aload_n 0, 1) := by decide +kernel
theorem dX9_run_36 : decode cX9_run 36 = .ok (.invokevirtual 90, 3) := by decide +kernel
theorem dX9_run_39 : decode cX9_run 39 = .ok (.ifCond .eq 7, 3) := by decide +kernel
theorem dX9_run_42 : decode cX9_run 42 = .ok (.iconst 1, 1) := by decide +kernel
theorem dX9_run_43 : decode cX9_run 43 = .ok (.goto 4, 3) := by decide +kernel
theorem dX9_run_46 : decode cX9_run 46 = .ok (.iconst 0, 1) := by decide +kernel
theorem dX9_run_47 : decode cX9_run 47 = .ok (.invokevirtual 94, 3) := by decide +kernel
theorem dX9_run_50 : decode cX9_run 50 = .ok (.invokevirtual 98, 3) := by decide +kernel
theorem dX9_run_53 : decode cX9_run 53 = .ok (.iadd, 1) := by decide +kernel
theorem dX9_run_54 : decode cX9_run 54 = .ok (.istore_n 2, 1) := by decide +kernel
theorem dX9_run_55 : decode cX9_run 55 = .ok (.iinc 3 1, 3) := by decide +kernel
theorem dX9_run_58 : decode cX9_run 58 = .ok (.goto (-41), 3) := by decide +kernel
theorem dX9_run_61 : decode cX9_run 61 = .ok (.iload_n 2, 1) := by decide +kernel
theorem dX9_run_62 : decode cX9_run 62 = .ok (.ireturn, 1) := by decide +kernel
theorem dX9_pass_0 : decode cX9_pass 0 = .ok (.iload_n 1, 1) := by decide +kernel
theorem dX9_pass_1 : decode cX9_pass 1 = .ok (.ifCond .lt 10, 3) := by decide +kernel
theorem dX9_pass_4 : decode cX9_pass 4 = .ok (.iload_n 1, 1) := by decide +kernel
theorem dX9_pass_5 : decode cX9_pass 5 = .ok (.sipush 30000, 3) := by decide +kernel
theorem dX9_pass_8 : decode cX9_pass 8 = .ok (.if_icmp .le 5, 3) := by decide +kernel
theorem dX9_pass_11 : decode cX9_pass 11 = .ok (.iconst 0, 1) := by decide +kernel
theorem dX9_pass_12 : decode cX9_pass 12 = .ok (.ireturn, 1) := by decide +kernel
theorem dX9_pass_13 : decode cX9_pass 13 = .ok (.aload_n 0, 1) := by decide +kernel
theorem dX9_pass_14 : decode cX9_pass 14 = .ok (.iload_n 1, 1) := by decide +kernel
theorem dX9_pass_15 : decode cX9_pass 15 = .ok (.invokevirtual 102, 3) := by decide +kernel
theorem dX9_pass_18 : decode cX9_pass 18 = .ok (.iconst 1, 1) := by decide +kernel
theorem dX9_pass_19 : decode cX9_pass 19 = .ok (.ireturn, 1) := by decide +kernel
theorem dX9_read_0 : decode cX9_read 0 = .ok (.aload_n 0, 1) := by decide +kernel
theorem dX9_read_1 : decode cX9_read 1 = .ok (.getfield 47, 3) := by decide +kernel
theorem dX9_read_4 : decode cX9_read 4 = .ok (.iload_n 1, 1) := by decide +kernel
theorem dX9_read_5 : decode cX9_read 5 = .ok (.ldc 106, 2) := by decide +kernel
theorem dX9_read_7 : decode cX9_read 7 = .ok (.iand, 1) := by decide +kernel
theorem dX9_read_8 : decode cX9_read 8 = .ok (.invokevirtual 107, 3) := by decide +kernel
theorem dX9_read_11 : decode cX9_read 11 = .ok (.ireturn, 1) := by decide +kernel
theorem dX9_write_0 : decode cX9_write 0 = .ok (.aload_n 0, 1) := by decide +kernel
theorem dX9_write_1 : decode cX9_write 1 = .ok (.getfield 47, 3) := by decide +kernel
theorem dX9_write_4 : decode cX9_write 4 = .ok (.iload_n 1, 1) := by decide +kernel
theorem dX9_write_5 : decode cX9_write 5 = .ok (.ldc 106, 2) := by decide +kernel
theorem dX9_write_7 : decode cX9_write 7 = .ok (.iand, 1) := by decide +kernel
theorem dX9_write_8 : decode cX9_write 8 = .ok (.iload_n 2, 1) := by decide +kernel
theorem dX9_write_9 : decode cX9_write 9 = .ok (.sipush 255, 3) := by decide +kernel
theorem dX9_write_12 : decode cX9_write 12 = .ok (.iand, 1) := by decide +kernel
theorem dX9_write_13 : decode cX9_write 13 = .ok (.invokevirtual 110, 3) := by decide +kernel
theorem dX9_write_16 : decode cX9_write 16 = .ok (.aload_n 0, 1) := by decide +kernel
theorem dX9_write_17 : decode cX9_write 17 = .ok (.iconst 0, 1) := by decide +kernel
theorem dX9_write_18 : decode cX9_write 18 = .ok (.invokevirtual 98, 3) := by decide +kernel
theorem dX9_write_21 : decode cX9_write 21 = .ok (.pop, 1) := by decide +kernel
theorem dX9_write_22 : decode cX9_write 22 = .ok (.return_, 1) := by decide +kernel
theorem dX9_pad_0 : decode cX9_pad 0 = .ok (.iload_n 1, 1) := by decide +kernel
theorem dX9_pad_1 : decode cX9_pad 1 = .ok (.ifCond .lt 8, 3) := by decide +kernel
theorem dX9_pad_4 : decode cX9_pad 4 = .ok (.iload_n 1, 1) := by decide +kernel
theorem dX9_pad_5 : decode cX9_pad 5 = .ok (.iconst 1, 1) := by decide +kernel
theorem dX9_pad_6 : decode cX9_pad 6 = .ok (.if_icmp .le 13, 3) := by decide +kernel
theorem dX9_pad_9 : decode cX9_pad 9 = .ok (.new 114, 3) := by decide +kernel
theorem dX9_pad_12 : decode cX9_pad 12 = .ok (.dup, 1) := by decide +kernel
theorem dX9_pad_13 : decode cX9_pad 13 = .ok (.ldc 116, 2) := by decide +kernel
theorem dX9_pad_15 : decode cX9_pad 15 = .ok (.invokespecial 118, 3) := by decide +kernel
theorem dX9_pad_18 : decode cX9_pad 18 = .ok (.athrow, 1) := by decide +kernel
theorem dX9_pad_19 : decode cX9_pad 19 = .ok (.aload_n 0, 1) := by decide +kernel
theorem dX9_pad_20 : decode cX9_pad 20 = .ok (.getfield 38, 3) := by decide +kernel
theorem dX9_pad_23 : decode cX9_pad 23 = .ok (.getfield 119, 3) := by decide +kernel
theorem dX9_pad_26 : decode cX9_pad 26 = .ok (.iload_n 1, 1) := by decide +kernel
theorem dX9_pad_27 : decode cX9_pad 27 = .ok (.iload_n 2, 1) := by decide +kernel
theorem dX9_pad_28 : decode cX9_pad 28 = .ok (.sipush 255, 3) := by decide +kernel
theorem dX9_pad_31 : decode cX9_pad 31 = .ok (.iand, 1) := by decide +kernel
theorem dX9_pad_32 : decode cX9_pad 32 = .ok (.iastore, 1) := by decide +kernel
theorem dX9_pad_33 : decode cX9_pad 33 = .ok (.return_, 1) := by decide +kernel
theorem dX9_core_0 : decode cX9_core 0 = .ok (.iload_n 1, 1) := by decide +kernel
theorem dX9_core_1 : decode cX9_core 1 = .ok (.tableswitch 125 0 8 #[51, 59, 67, 75, 83, 91, 99, 104, 120], 51) := by decide +kernel
theorem dX9_core_52 : decode cX9_core 52 = .ok (.aload_n 0, 1) := by decide +kernel
theorem dX9_core_53 : decode cX9_core 53 = .ok (.getfield 56, 3) := by decide +kernel
theorem dX9_core_56 : decode cX9_core 56 = .ok (.getfield 122, 3) := by decide +kernel
theorem dX9_core_59 : decode cX9_core 59 = .ok (.ireturn, 1) := by decide +kernel
theorem dX9_core_60 : decode cX9_core 60 = .ok (.aload_n 0, 1) := by decide +kernel
theorem dX9_core_61 : decode cX9_core 61 = .ok (.getfield 56, 3) := by decide +kernel
theorem dX9_core_64 : decode cX9_core 64 = .ok (.getfield 126, 3) := by decide +kernel
theorem dX9_core_67 : decode cX9_core 67 = .ok (.ireturn, 1) := by decide +kernel
theorem dX9_core_68 : decode cX9_core 68 = .ok (.aload_n 0, 1) := by decide +kernel
theorem dX9_core_69 : decode cX9_core 69 = .ok (.getfield 56, 3) := by decide +kernel
theorem dX9_core_72 : decode cX9_core 72 = .ok (.getfield 129, 3) := by decide +kernel
theorem dX9_core_75 : decode cX9_core 75 = .ok (.ireturn, 1) := by decide +kernel
theorem dX9_core_76 : decode cX9_core 76 = .ok (.aload_n 0, 1) := by decide +kernel
theorem dX9_core_77 : decode cX9_core 77 = .ok (.getfield 56, 3) := by decide +kernel
theorem dX9_core_80 : decode cX9_core 80 = .ok (.getfield 132, 3) := by decide +kernel
theorem dX9_core_83 : decode cX9_core 83 = .ok (.ireturn, 1) := by decide +kernel
theorem dX9_core_84 : decode cX9_core 84 = .ok (.aload_n 0, 1) := by decide +kernel
theorem dX9_core_85 : decode cX9_core 85 = .ok (.getfield 56, 3) := by decide +kernel
theorem dX9_core_88 : decode cX9_core 88 = .ok (.getfield 135, 3) := by decide +kernel
theorem dX9_core_91 : decode cX9_core 91 = .ok (.ireturn, 1) := by decide +kernel
theorem dX9_core_92 : decode cX9_core 92 = .ok (.aload_n 0, 1) := by decide +kernel
theorem dX9_core_93 : decode cX9_core 93 = .ok (.getfield 56, 3) := by decide +kernel
theorem dX9_core_96 : decode cX9_core 96 = .ok (.getfield 138, 3) := by decide +kernel
theorem dX9_core_99 : decode cX9_core 99 = .ok (.ireturn, 1) := by decide +kernel
theorem dX9_core_100 : decode cX9_core 100 = .ok (.aload_n 0, 1) := by decide +kernel
theorem dX9_core_101 : decode cX9_core 101 = .ok (.getfield 141, 3) := by decide +kernel
theorem dX9_core_104 : decode cX9_core 104 = .ok (.ireturn, 1) := by decide +kernel
theorem dX9_core_105 : decode cX9_core 105 = .ok (.aload_n 0, 1) := by decide +kernel
theorem dX9_core_106 : decode cX9_core 106 = .ok (.getfield 24, 3) := by decide +kernel
theorem dX9_core_109 : decode cX9_core 109 = .ok (.getfield 144, 3) := by decide +kernel
theorem dX9_core_112 : decode cX9_core 112 = .ok (.ifCond .eq 7, 3) := by decide +kernel
theorem dX9_core_115 : decode cX9_core 115 = .ok (.iconst 1, 1) := by decide +kernel
theorem dX9_core_116 : decode cX9_core 116 = .ok (.goto 4, 3) := by decide +kernel
theorem dX9_core_119 : decode cX9_core 119 = .ok (.iconst 0, 1) := by decide +kernel
theorem dX9_core_120 : decode cX9_core 120 = .ok (.ireturn, 1) := by decide +kernel
theorem dX9_core_121 : decode cX9_core 121 = .ok (.aload_n 0, 1) := by decide +kernel
theorem dX9_core_122 : decode cX9_core 122 = .ok (.invokevirtual 90, 3) := by decide +kernel
theorem dX9_core_125 : decode cX9_core 125 = .ok (.ireturn, 1) := by decide +kernel
theorem dX9_core_126 : decode cX9_core 126 = .ok (.new 114, 3) := by decide +kernel
theorem dX9_core_129 : decode cX9_core 129 = .ok (.dup, 1) := by decide +kernel
theorem dX9_core_130 : decode cX9_core 130 = .ok (.ldc 148, 2) := by decide +kernel
theorem dX9_core_132 : decode cX9_core 132 = .ok (.invokespecial 118, 3) := by decide +kernel
theorem dX9_core_135 : decode cX9_core 135 = .ok (.athrow, 1) := by decide +kernel
theorem dX9_picture_0 : decode cX9_picture 0 = .ok (.iload_n 1, 1) := by decide +kernel
theorem dX9_picture_1 : decode cX9_picture 1 = .ok (.tableswitch 147 0 10 #[59, 67, 75, 83, 91, 99, 107, 115, 123, 131, 139], 59) := by decide +kernel
theorem dX9_picture_60 : decode cX9_picture 60 = .ok (.aload_n 0, 1) := by decide +kernel
theorem dX9_picture_61 : decode cX9_picture 61 = .ok (.getfield 24, 3) := by decide +kernel
theorem dX9_picture_64 : decode cX9_picture 64 = .ok (.getfield 150, 3) := by decide +kernel
theorem dX9_picture_67 : decode cX9_picture 67 = .ok (.ireturn, 1) := by decide +kernel
theorem dX9_picture_68 : decode cX9_picture 68 = .ok (.aload_n 0, 1) := by decide +kernel
theorem dX9_picture_69 : decode cX9_picture 69 = .ok (.getfield 24, 3) := by decide +kernel
theorem dX9_picture_72 : decode cX9_picture 72 = .ok (.getfield 153, 3) := by decide +kernel
theorem dX9_picture_75 : decode cX9_picture 75 = .ok (.ireturn, 1) := by decide +kernel
theorem dX9_picture_76 : decode cX9_picture 76 = .ok (.aload_n 0, 1) := by decide +kernel
theorem dX9_picture_77 : decode cX9_picture 77 = .ok (.getfield 24, 3) := by decide +kernel
theorem dX9_picture_80 : decode cX9_picture 80 = .ok (.getfield 156, 3) := by decide +kernel
theorem dX9_picture_83 : decode cX9_picture 83 = .ok (.ireturn, 1) := by decide +kernel
theorem dX9_picture_84 : decode cX9_picture 84 = .ok (.aload_n 0, 1) := by decide +kernel
theorem dX9_picture_85 : decode cX9_picture 85 = .ok (.getfield 24, 3) := by decide +kernel
theorem dX9_picture_88 : decode cX9_picture 88 = .ok (.getfield 157, 3) := by decide +kernel
theorem dX9_picture_91 : decode cX9_picture 91 = .ok (.ireturn, 1) := by decide +kernel
theorem dX9_picture_92 : decode cX9_picture 92 = .ok (.aload_n 0, 1) := by decide +kernel
theorem dX9_picture_93 : decode cX9_picture 93 = .ok (.getfield 24, 3) := by decide +kernel
theorem dX9_picture_96 : decode cX9_picture 96 = .ok (.getfield 160, 3) := by decide +kernel
theorem dX9_picture_99 : decode cX9_picture 99 = .ok (.ireturn, 1) := by decide +kernel
theorem dX9_picture_100 : decode cX9_picture 100 = .ok (.aload_n 0, 1) := by decide +kernel
theorem dX9_picture_101 : decode cX9_picture 101 = .ok (.getfield 24, 3) := by decide +kernel
theorem dX9_picture_104 : decode cX9_picture 104 = .ok (.getfield 163, 3) := by decide +kernel
theorem dX9_picture_107 : decode cX9_picture 107 = .ok (.ireturn, 1) := by decide +kernel
theorem dX9_picture_108 : decode cX9_picture 108 = .ok (.aload_n 0, 1) := by decide +kernel
theorem dX9_picture_109 : decode cX9_picture 109 = .ok (.getfield 24, 3) := by decide +kernel
theorem dX9_picture_112 : decode cX9_picture 112 = .ok (.getfield 166, 3) := by decide +kernel
theorem dX9_picture_115 : decode cX9_picture 115 = .ok (.ireturn, 1) := by decide +kernel
theorem dX9_picture_116 : decode cX9_picture 116 = .ok (.aload_n 0, 1) := by decide +kernel
theorem dX9_picture_117 : decode cX9_picture 117 = .ok (.getfield 24, 3) := by decide +kernel
theorem dX9_picture_120 : decode cX9_picture 120 = .ok (.getfield 169, 3) := by decide +kernel
theorem dX9_picture_123 : decode cX9_picture 123 = .ok (.ireturn, 1) := by decide +kernel
theorem dX9_picture_124 : decode cX9_picture 124 = .ok (.aload_n 0, 1) := by decide +kernel
theorem dX9_picture_125 : decode cX9_picture 125 = .ok (.getfield 24, 3) := by decide +kernel
theorem dX9_picture_128 : decode cX9_picture 128 = .ok (.getfield 172, 3) := by decide +kernel
theorem dX9_picture_131 : decode cX9_picture 131 = .ok (.ireturn, 1) := by decide +kernel
theorem dX9_picture_132 : decode cX9_picture 132 = .ok (.aload_n 0, 1) := by decide +kernel
theorem dX9_picture_133 : decode cX9_picture 133 = .ok (.getfield 24, 3) := by decide +kernel
theorem dX9_picture_136 : decode cX9_picture 136 = .ok (.getfield 175, 3) := by decide +kernel
theorem dX9_picture_139 : decode cX9_picture 139 = .ok (.ireturn, 1) := by decide +kernel
theorem dX9_picture_140 : decode cX9_picture 140 = .ok (.aload_n 0, 1) := by decide +kernel
theorem dX9_picture_141 : decode cX9_picture 141 = .ok (.getfield 24, 3) := by decide +kernel
theorem dX9_picture_144 : decode cX9_picture 144 = .ok (.getfield 178, 3) := by decide +kernel
theorem dX9_picture_147 : decode cX9_picture 147 = .ok (.ireturn, 1) := by decide +kernel
theorem dX9_picture_148 : decode cX9_picture 148 = .ok (.new 114, 3) := by decide +kernel
theorem dX9_picture_151 : decode cX9_picture 151 = .ok (.dup, 1) := by decide +kernel
theorem dX9_picture_152 : decode cX9_picture 152 = .ok (.ldc 181, 2) := by decide +kernel
theorem dX9_picture_154 : decode cX9_picture 154 = .ok (.invokespecial 118, 3) := by decide +kernel
theorem dX9_picture_157 : decode cX9_picture 157 = .ok (.athrow, 1) := by decide +kernel
theorem dX9_memory_0 : decode cX9_memory 0 = .ok (.aload_n 0, 1) := by decide +kernel
theorem dX9_memory_1 : decode cX9_memory 1 = .ok (.getfield 24, 3) := by decide +kernel
theorem dX9_memory_4 : decode cX9_memory 4 = .ok (.iload_n 1, 1) := by decide +kernel
theorem dX9_memory_5 : decode cX9_memory 5 = .ok (.sipush 16383, 3) := by decide +kernel
theorem dX9_memory_8 : decode cX9_memory 8 = .ok (.iand, 1) := by decide +kernel
theorem dX9_memory_9 : decode cX9_memory 9 = .ok (.invokevirtual 183, 3) := by decide +kernel
theorem dX9_memory_12 : decode cX9_memory 12 = .ok (.ireturn, 1) := by decide +kernel
theorem dX9_oam_0 : decode cX9_oam 0 = .ok (.iload_n 1, 1) := by decide +kernel
theorem dX9_oam_1 : decode cX9_oam 1 = .ok (.ifCond .lt 10, 3) := by decide +kernel
theorem dX9_oam_4 : decode cX9_oam 4 = .ok (.iload_n 1, 1) := by decide +kernel
theorem dX9_oam_5 : decode cX9_oam 5 = .ok (.sipush 256, 3) := by decide +kernel
theorem dX9_oam_8 : decode cX9_oam 8 = .ok (.if_icmp .lt 13, 3) := by decide +kernel
theorem dX9_oam_11 : decode cX9_oam 11 = .ok (.new 114, 3) := by decide +kernel
theorem dX9_oam_14 : decode cX9_oam 14 = .ok (.dup, 1) := by decide +kernel
theorem dX9_oam_15 : decode cX9_oam 15 = .ok (.ldc 186, 2) := by decide +kernel
theorem dX9_oam_17 : decode cX9_oam 17 = .ok (.invokespecial 118, 3) := by decide +kernel
theorem dX9_oam_20 : decode cX9_oam 20 = .ok (.athrow, 1) := by decide +kernel
theorem dX9_oam_21 : decode cX9_oam 21 = .ok (.aload_n 0, 1) := by decide +kernel
theorem dX9_oam_22 : decode cX9_oam 22 = .ok (.getfield 24, 3) := by decide +kernel
theorem dX9_oam_25 : decode cX9_oam 25 = .ok (.getfield 188, 3) := by decide +kernel
theorem dX9_oam_28 : decode cX9_oam 28 = .ok (.iload_n 1, 1) := by decide +kernel
theorem dX9_oam_29 : decode cX9_oam 29 = .ok (.iaload, 1) := by decide +kernel
theorem dX9_oam_30 : decode cX9_oam 30 = .ok (.ireturn, 1) := by decide +kernel
theorem dX9_cartridge_0 : decode cX9_cartridge 0 = .ok (.iload_n 1, 1) := by decide +kernel
theorem dX9_cartridge_1 : decode cX9_cartridge 1 = .ok (.ifCond .lt 9, 3) := by decide +kernel
theorem dX9_cartridge_4 : decode cX9_cartridge 4 = .ok (.iload_n 1, 1) := by decide +kernel
theorem dX9_cartridge_5 : decode cX9_cartridge 5 = .ok (.bipush 13, 2) := by decide +kernel
theorem dX9_cartridge_7 : decode cX9_cartridge 7 = .ok (.if_icmp .le 13, 3) := by decide +kernel
theorem dX9_cartridge_10 : decode cX9_cartridge 10 = .ok (.new 114, 3) := by decide +kernel
theorem dX9_cartridge_13 : decode cX9_cartridge 13 = .ok (.dup, 1) := by decide +kernel
theorem dX9_cartridge_14 : decode cX9_cartridge 14 = .ok (.ldc 191, 2) := by decide +kernel
theorem dX9_cartridge_16 : decode cX9_cartridge 16 = .ok (.invokespecial 118, 3) := by decide +kernel
theorem dX9_cartridge_19 : decode cX9_cartridge 19 = .ok (.athrow, 1) := by decide +kernel
theorem dX9_cartridge_20 : decode cX9_cartridge 20 = .ok (.iload_n 1, 1) := by decide +kernel
theorem dX9_cartridge_21 : decode cX9_cartridge 21 = .ok (.iconst 4, 1) := by decide +kernel
theorem dX9_cartridge_22 : decode cX9_cartridge 22 = .ok (.if_icmp .ge 13, 3) := by decide +kernel
theorem dX9_cartridge_25 : decode cX9_cartridge 25 = .ok (.aload_n 0, 1) := by decide +kernel
theorem dX9_cartridge_26 : decode cX9_cartridge 26 = .ok (.getfield 10, 3) := by decide +kernel
theorem dX9_cartridge_29 : decode cX9_cartridge 29 = .ok (.getfield 193, 3) := by decide +kernel
theorem dX9_cartridge_32 : decode cX9_cartridge 32 = .ok (.iload_n 1, 1) := by decide +kernel
theorem dX9_cartridge_33 : decode cX9_cartridge 33 = .ok (.iaload, 1) := by decide +kernel
theorem dX9_cartridge_34 : decode cX9_cartridge 34 = .ok (.ireturn, 1) := by decide +kernel
theorem dX9_cartridge_35 : decode cX9_cartridge 35 = .ok (.iload_n 1, 1) := by decide +kernel
theorem dX9_cartridge_36 : decode cX9_cartridge 36 = .ok (.bipush 12, 2) := by decide +kernel
theorem dX9_cartridge_38 : decode cX9_cartridge 38 = .ok (.if_icmp .ge 15, 3) := by decide +kernel
theorem dX9_cartridge_41 : decode cX9_cartridge 41 = .ok (.aload_n 0, 1) := by decide +kernel
theorem dX9_cartridge_42 : decode cX9_cartridge 42 = .ok (.getfield 10, 3) := by decide +kernel
theorem dX9_cartridge_45 : decode cX9_cartridge 45 = .ok (.getfield 196, 3) := by decide +kernel
theorem dX9_cartridge_48 : decode cX9_cartridge 48 = .ok (.iload_n 1, 1) := by decide +kernel
theorem dX9_cartridge_49 : decode cX9_cartridge 49 = .ok (.iconst 4, 1) := by decide +kernel
theorem dX9_cartridge_50 : decode cX9_cartridge 50 = .ok (.isub, 1) := by decide +kernel
theorem dX9_cartridge_51 : decode cX9_cartridge 51 = .ok (.iaload, 1) := by decide +kernel
theorem dX9_cartridge_52 : decode cX9_cartridge 52 = .ok (.ireturn, 1) := by decide +kernel
theorem dX9_cartridge_53 : decode cX9_cartridge 53 = .ok (.iload_n 1, 1) := by decide +kernel
theorem dX9_cartridge_54 : decode cX9_cartridge 54 = .ok (.bipush 12, 2) := by decide +kernel
theorem dX9_cartridge_56 : decode cX9_cartridge 56 = .ok (.if_icmp .ne 13, 3) := by decide +kernel
theorem dX9_cartridge_59 : decode cX9_cartridge 59 = .ok (.aload_n 0, 1) := by decide +kernel
theorem dX9_cartridge_60 : decode cX9_cartridge 60 = .ok (.getfield 10, 3) := by decide +kernel
theorem dX9_cartridge_63 : decode cX9_cartridge 63 = .ok (.getfield 199, 3) := by decide +kernel
theorem dX9_cartridge_66 : decode cX9_cartridge 66 = .ok (.goto 10, 3) := by decide +kernel
theorem dX9_cartridge_69 : decode cX9_cartridge 69 = .ok (.aload_n 0, 1) := by decide +kernel
theorem dX9_cartridge_70 : decode cX9_cartridge 70 = .ok (.getfield 10, 3) := by decide +kernel
theorem dX9_cartridge_73 : decode cX9_cartridge 73 = .ok (.invokevirtual 202, 3) := by decide +kernel
theorem dX9_cartridge_76 : decode cX9_cartridge 76 = .ok (.ireturn, 1) := by decide +kernel
theorem dX9_sound_0 : decode cX9_sound 0 = .ok (.iload_n 1, 1) := by decide +kernel
theorem dX9_sound_1 : decode cX9_sound 1 = .ok (.ifCond .lt 8, 3) := by decide +kernel
theorem dX9_sound_4 : decode cX9_sound 4 = .ok (.iload_n 1, 1) := by decide +kernel
theorem dX9_sound_5 : decode cX9_sound 5 = .ok (.iconst 4, 1) := by decide +kernel
theorem dX9_sound_6 : decode cX9_sound 6 = .ok (.if_icmp .le 13, 3) := by decide +kernel
theorem dX9_sound_9 : decode cX9_sound 9 = .ok (.new 114, 3) := by decide +kernel
theorem dX9_sound_12 : decode cX9_sound 12 = .ok (.dup, 1) := by decide +kernel
theorem dX9_sound_13 : decode cX9_sound 13 = .ok (.ldc 205, 2) := by decide +kernel
theorem dX9_sound_15 : decode cX9_sound 15 = .ok (.invokespecial 118, 3) := by decide +kernel
theorem dX9_sound_18 : decode cX9_sound 18 = .ok (.athrow, 1) := by decide +kernel
theorem dX9_sound_19 : decode cX9_sound 19 = .ok (.iload_n 1, 1) := by decide +kernel
theorem dX9_sound_20 : decode cX9_sound 20 = .ok (.iconst 4, 1) := by decide +kernel
theorem dX9_sound_21 : decode cX9_sound 21 = .ok (.if_icmp .ne 13, 3) := by decide +kernel
theorem dX9_sound_24 : decode cX9_sound 24 = .ok (.aload_n 0, 1) := by decide +kernel
theorem dX9_sound_25 : decode cX9_sound 25 = .ok (.getfield 31, 3) := by decide +kernel
theorem dX9_sound_28 : decode cX9_sound 28 = .ok (.getfield 207, 3) := by decide +kernel
theorem dX9_sound_31 : decode cX9_sound 31 = .ok (.goto 12, 3) := by decide +kernel
theorem dX9_sound_34 : decode cX9_sound 34 = .ok (.aload_n 0, 1) := by decide +kernel
theorem dX9_sound_35 : decode cX9_sound 35 = .ok (.getfield 31, 3) := by decide +kernel
theorem dX9_sound_38 : decode cX9_sound 38 = .ok (.getfield 210, 3) := by decide +kernel
theorem dX9_sound_41 : decode cX9_sound 41 = .ok (.iload_n 1, 1) := by decide +kernel
theorem dX9_sound_42 : decode cX9_sound 42 = .ok (.iaload, 1) := by decide +kernel
theorem dX9_sound_43 : decode cX9_sound 43 = .ok (.ireturn, 1) := by decide +kernel
theorem dX9_irqLines_0 : decode cX9_irqLines 0 = .ok (.aload_n 0, 1) := by decide +kernel
theorem dX9_irqLines_1 : decode cX9_irqLines 1 = .ok (.getfield 31, 3) := by decide +kernel
theorem dX9_irqLines_4 : decode cX9_irqLines 4 = .ok (.getfield 213, 3) := by decide +kernel
theorem dX9_irqLines_7 : decode cX9_irqLines 7 = .ok (.ifCond .eq 7, 3) := by decide +kernel
theorem dX9_irqLines_10 : decode cX9_irqLines 10 = .ok (.iconst 1, 1) := by decide +kernel
theorem dX9_irqLines_11 : decode cX9_irqLines 11 = .ok (.goto 4, 3) := by decide +kernel
theorem dX9_irqLines_14 : decode cX9_irqLines 14 = .ok (.iconst 0, 1) := by decide +kernel
theorem dX9_irqLines_15 : decode cX9_irqLines 15 = .ok (.aload_n 0, 1) := by decide +kernel
theorem dX9_irqLines_16 : decode cX9_irqLines 16 = .ok (.getfield 10, 3) := by decide +kernel
theorem dX9_irqLines_19 : decode cX9_irqLines 19 = .ok (.getfield 216, 3) := by decide +kernel
theorem dX9_irqLines_22 : decode cX9_irqLines 22 = .ok (.ifCond .eq 7, 3) := by decide +kernel
theorem dX9_irqLines_25 : decode cX9_irqLines 25 = .ok (.iconst 2, 1) := by decide +kernel
theorem dX9_irqLines_26 : decode cX9_irqLines 26 = .ok (.goto 4, 3) := by decide +kernel
theorem dX9_irqLines_29 : decode cX9_irqLines 29 = .ok (.iconst 0, 1) := by decide +kernel
theorem dX9_irqLines_30 : decode cX9_irqLines 30 = .ok (.ior, 1) := by decide +kernel
theorem dX9_irqLines_31 : decode cX9_irqLines 31 = .ok (.ireturn, 1) := by decide +kernel
theorem dX9_settle_0 : decode cX9_settle 0 = .ok (.iload_n 1, 1) := by decide +kernel
theorem dX9_settle_1 : decode cX9_settle 1 = .ok (.aload_n 0, 1) := by decide +kernel
theorem dX9_settle_2 : decode cX9_settle 2 = .ok (.getfield 47, 3) := by decide +kernel
theorem dX9_settle_5 : decode cX9_settle 5 = .ok (.aload_n 0, 1) := by decide +kernel
theorem dX9_settle_6 : decode cX9_settle 6 = .ok (.getfield 141, 3) := by decide +kernel
theorem dX9_settle_9 : decode cX9_settle 9 = .ok (.iconst 1, 1) := by decide +kernel
theorem dX9_settle_10 : decode cX9_settle 10 = .ok (.iand, 1) := by decide +kernel
theorem dX9_settle_11 : decode cX9_settle 11 = .ok (.invokevirtual 217, 3) := by decide +kernel
theorem dX9_settle_14 : decode cX9_settle 14 = .ok (.iadd, 1) := by decide +kernel
theorem dX9_settle_15 : decode cX9_settle 15 = .ok (.istore_n 2, 1) := by decide +kernel
theorem dX9_settle_16 : decode cX9_settle 16 = .ok (.aload_n 0, 1) := by decide +kernel
theorem dX9_settle_17 : decode cX9_settle 17 = .ok (.iload_n 2, 1) := by decide +kernel
theorem dX9_settle_18 : decode cX9_settle 18 = .ok (.invokevirtual 102, 3) := by decide +kernel
theorem dX9_settle_21 : decode cX9_settle 21 = .ok (.iload_n 2, 1) := by decide +kernel
theorem dX9_settle_22 : decode cX9_settle 22 = .ok (.ireturn, 1) := by decide +kernel
theorem dX9_letTimePass_0 : decode cX9_letTimePass 0 = .ok (.aload_n 0, 1) := by decide +kernel
theorem dX9_letTimePass_1 : decode cX9_letTimePass 1 = .ok (.aload_n 0, 1) := by decide +kernel
theorem dX9_letTimePass_2 : decode cX9_letTimePass 2 = .ok (.getfield 141, 3) := by decide +kernel
theorem dX9_letTimePass_5 : decode cX9_letTimePass 5 = .ok (.iload_n 1, 1) := by decide +kernel
theorem dX9_letTimePass_6 : decode cX9_letTimePass 6 = .ok (.iadd, 1) := by decide +kernel
theorem dX9_letTimePass_7 : decode cX9_letTimePass 7 = .ok (.ldc 106, 2) := by decide +kernel
theorem dX9_letTimePass_9 : decode cX9_letTimePass 9 = .ok (.iand, 1) := by decide +kernel
theorem dX9_letTimePass_10 : decode cX9_letTimePass 10 = .ok (.putfield 141, 3) := by decide +kernel
theorem dX9_letTimePass_13 : decode cX9_letTimePass 13 = .ok (.aload_n 0, 1) := by decide +kernel
theorem dX9_letTimePass_14 : decode cX9_letTimePass 14 = .ok (.getfield 24, 3) := by decide +kernel
theorem dX9_letTimePass_17 : decode cX9_letTimePass 17 = .ok (.iconst 3, 1) := by decide +kernel
theorem dX9_letTimePass_18 : decode cX9_letTimePass 18 = .ok (.iload_n 1, 1) := by decide +kernel
theorem dX9_letTimePass_19 : decode cX9_letTimePass 19 = .ok (.imul, 1) := by decide +kernel
theorem dX9_letTimePass_20 : decode cX9_letTimePass 20 = .ok (.invokevirtual 220, 3) := by decide +kernel
theorem dX9_letTimePass_23 : decode cX9_letTimePass 23 = .ok (.aload_n 0, 1) := by decide +kernel
theorem dX9_letTimePass_24 : decode cX9_letTimePass 24 = .ok (.getfield 31, 3) := by decide +kernel
theorem dX9_letTimePass_27 : decode cX9_letTimePass 27 = .ok (.iload_n 1, 1) := by decide +kernel
theorem dX9_letTimePass_28 : decode cX9_letTimePass 28 = .ok (.invokevirtual 223, 3) := by decide +kernel
theorem dX9_letTimePass_31 : decode cX9_letTimePass 31 = .ok (.return_, 1) := by decide +kernel
end
section
theorem dX10_init_0 : decode cX10_init 0 = .ok (.aload_n 0, 1) := by decide +kernel
theorem dX10_init_1 : decode cX10_init 1 = .ok (.invokespecial 1, 3) := by decide +kernel
theorem dX10_init_4 : decode cX10_init 4 = .ok (.aload_n 0, 1) := by decide +kernel
theorem dX10_init_5 : decode cX10_init 5 = .ok (.sipush 2048, 3) := by decide +kernel
theorem dX10_init_8 : decode cX10_init 8 = .ok (.newarray .int, 2) := by decide +kernel
theorem dX10_init_10 : decode cX10_init 10 = .ok (.putfield 7, 3) := by decide +kernel
theorem dX10_init_13 : decode cX10_init 13 = .ok (.aload_n 0, 1) := by decide +kernel
theorem dX10_init_14 : decode cX10_init 14 = .ok (.sipush 256, 3) := by decide +kernel
theorem dX10_init_17 : decode cX10_init 17 = .ok (.newarray .int, 2) := by decide +kernel
theorem dX10_init_19 : decode cX10_init 19 = .ok (.putfield 13, 3) := by decide +kernel
theorem dX10_init_22 : decode cX10_init 22 = .ok (.aload_n 0, 1) := by decide +kernel
theorem dX10_init_23 : decode cX10_init 23 = .ok (.sipush 512, 3) := by decide +kernel
theorem dX10_init_26 : decode cX10_init 26 = .ok (.newarray .int, 2) := by decide +kernel
theorem dX10_init_28 : decode cX10_init 28 = .ok (.putfield 16, 3) := by decide +kernel
theorem dX10_init_31 : decode cX10_init 31 = .ok (.aload_n 0, 1) := by decide +kernel
theorem dX10_init_32 : decode cX10_init 32 = .ok (.sipush 128, 3) := by decide +kernel
theorem dX10_init_35 : decode cX10_init 35 = .ok (.newarray .int, 2) := by decide +kernel
theorem dX10_init_37 : decode cX10_init 37 = .ok (.putfield 19, 3) := by decide +kernel
theorem dX10_init_40 : decode cX10_init 40 = .ok (.aload_n 0, 1) := by decide +kernel
theorem dX10_init_41 : decode cX10_init 41 = .ok (.bipush 32, 2) := by decide +kernel
theorem dX10_init_43 : decode cX10_init 43 = .ok (.putfield 22, 3) := by decide +kernel
theorem dX10_init_46 : decode cX10_init 46 = .ok (.aload_n 0, 1) := by decide +kernel
theorem dX10_init_47 : decode cX10_init 47 = .ok (.sipush 256, 3) := by decide +kernel
theorem dX10_init_50 : decode cX10_init 50 = .ok (.newarray .int, 2) := by decide +kernel
theorem dX10_init_52 : decode cX10_init 52 = .ok (.putfield 26, 3) := by decide +kernel
theorem dX10_init_55 : decode cX10_init 55 = .ok (.aload_n 0, 1) := by decide +kernel
theorem dX10_init_56 : decode cX10_init 56 = .ok (.sipush 2048, 3) := by decide +kernel
theorem dX10_init_59 : decode cX10_init 59 = .ok (.newarray .int, 2) := by decide +kernel
theorem dX10_init_61 : decode cX10_init 61 = .ok (.putfield 29, 3) := by decide +kernel
theorem dX10_init_64 : decode cX10_init 64 = .ok (.aload_n 0, 1) := by decide +kernel
theorem dX10_init_65 : decode cX10_init 65 = .ok (.bipush 32, 2) := by decide +kernel
theorem dX10_init_67 : decode cX10_init 67 = .ok (.newarray .int, 2) := by decide +kernel
theorem dX10_init_69 : decode cX10_init 69 = .ok (.putfield 32, 3) := by decide +kernel
theorem dX10_init_72 : decode cX10_init 72 = .ok (.aload_n 0, 1) := by decide +kernel
theorem dX10_init_73 : decode cX10_init 73 = .ok (.bipush 8, 2) := by decide +kernel
theorem dX10_init_75 : decode cX10_init 75 = .ok (.newarray .int, 2) := by decide +kernel
theorem dX10_init_77 : decode cX10_init 77 = .ok (.putfield 35, 3) := by decide +kernel
theorem dX10_init_80 : decode cX10_init 80 = .ok (.aload_n 0, 1) := by decide +kernel
theorem dX10_init_81 : decode cX10_init 81 = .ok (.iconst 4, 1) := by decide +kernel
theorem dX10_init_82 : decode cX10_init 82 = .ok (.newarray .int, 2) := by decide +kernel
theorem dX10_init_84 : decode cX10_init 84 = .ok (.putfield 38, 3) := by decide +kernel
theorem dX10_init_87 : decode cX10_init 87 = .ok (.aload_n 0, 1) := by decide +kernel
theorem dX10_init_88 : decode cX10_init 88 = .ok (.iconst 4, 1) := by decide +kernel
theorem dX10_init_89 : decode cX10_init 89 = .ok (.newarray .boolean, 2) := by decide +kernel
theorem dX10_init_91 : decode cX10_init 91 = .ok (.putfield 41, 3) := by decide +kernel
theorem dX10_init_94 : decode cX10_init 94 = .ok (.aload_n 0, 1) := by decide +kernel
theorem dX10_init_95 : decode cX10_init 95 = .ok (.iconst 2, 1) := by decide +kernel
theorem dX10_init_96 : decode cX10_init 96 = .ok (.newarray .int, 2) := by decide +kernel
theorem dX10_init_98 : decode cX10_init 98 = .ok (.putfield 45, 3) := by decide +kernel
theorem dX10_init_101 : decode cX10_init 101 = .ok (.aload_n 0, 1) := by decide +kernel
theorem dX10_init_102 : decode cX10_init 102 = .ok (.iconst 2, 1) := by decide +kernel
theorem dX10_init_103 : decode cX10_init 103 = .ok (.newarray .int, 2) := by decide +kernel
theorem dX10_init_105 : decode cX10_init 105 = .ok (.putfield 48, 3) := by decide +kernel
theorem dX10_init_108 : decode cX10_init 108 = .ok (.aload_n 0, 1) := by decide +kernel
theorem dX10_init_109 : decode cX10_init 109 = .ok (.iload_n 1, 1) := by decide +kernel
theorem dX10_init_110 : decode cX10_init 110 = .ok (.iconst 1, 1) := by decide +kernel
theorem dX10_init_111 : decode cX10_init 111 = .ok (.iand, 1) := by decide +kernel
theorem dX10_init_112 : decode cX10_init 112 = .ok (.iconst 1, 1) := by decide +kernel
theorem dX10_init_113 : decode cX10_init 113 = .ok (.if_icmp .ne 7, 3) := by decide +kernel
theorem dX10_init_116 : decode cX10_init 116 = .ok (.iconst 1, 1) := by decide +kernel
theorem dX10_init_117 : decode cX10_init 117 = .ok (.goto 4, 3) := by decide +kernel
theorem dX10_init_120 : decode cX10_init 120 = .ok (.iconst 0, 1) := by decide +kernel
theorem dX10_init_121 : decode cX10_init 121 = .ok (.putfield 51, 3) := by decide +kernel
theorem dX10_init_124 : decode cX10_init 124 = .ok (.aload_n 0, 1) := by decide +kernel
theorem dX10_init_125 : decode cX10_init 125 = .ok (.aload_n 0, 1) := by decide +kernel
theorem dX10_init_126 : decode cX10_init 126 = .ok (.getfield 51, 3) := by decide +kernel
theorem dX10_init_129 : decode cX10_init 129 = .ok (.ifCond .eq 7, 3) := by decide +kernel
theorem dX10_init_132 : decode cX10_init 132 = .ok (.iconst 2, 1) := by decide +kernel
theorem dX10_init_133 : decode cX10_init 133 = .ok (.goto 4, 3) := by decide +kernel
theorem dX10_init_136 : decode cX10_init 136 = .ok (.iconst 0, 1) := by decide +kernel
theorem dX10_init_137 : decode cX10_init 137 = .ok (.putfield 55, 3) := by decide +kernel
theorem dX10_init_140 : decode cX10_init 140 = .ok (.aload_n 0, 1) := by decide +kernel
theorem dX10_init_141 : decode cX10_init 141 = .ok (.bipush 12, 2) := by decide +kernel
theorem dX10_init_143 : decode cX10_init 143 = .ok (.putfield 58, 3) := by decide +kernel
theorem dX10_init_146 : decode cX10_init 146 = .ok (.aload_n 0, 1) := by decide +kernel
theorem dX10_init_147 : decode cX10_init 147 = .ok (.getfield 48, 3) := by decide +kernel
theorem dX10_init_150 : decode cX10_init 150 = .ok (.iconst 0, 1) := by decide +kernel
theorem dX10_init_151 : decode cX10_init 151 = .ok (.sipush 255, 3) := by decide +kernel
theorem dX10_init_154 : decode cX10_init 154 = .ok (.iastore, 1) := by decide +kernel
theorem dX10_init_155 : decode cX10_init 155 = .ok (.aload_n 0, 1) := by decide +kernel
theorem dX10_init_156 : decode cX10_init 156 = .ok (.getfield 48, 3) := by decide +kernel
theorem dX10_init_159 : decode cX10_init 159 = .ok (.iconst 1, 1) := by decide +kernel
theorem dX10_init_160 : decode cX10_init 160 = .ok (.sipush 255, 3) := by decide +kernel
theorem dX10_init_163 : decode cX10_init 163 = .ok (.iastore, 1) := by decide +kernel
theorem dX10_init_164 : decode cX10_init 164 = .ok (.return_, 1) := by decide +kernel
theorem dX10_thrown_0 : decode cX10_thrown 0 = .ok (.aload_n 0, 1) := by decide +kernel
theorem dX10_thrown_1 : decode cX10_thrown 1 = .ok (.getfield 61, 3) := by decide +kernel
theorem dX10_thrown_4 : decode cX10_thrown 4 = .ok (.ireturn, 1) := by decide +kernel
theorem dX10_fail_0 : decode cX10_fail 0 = .ok (.aload_n 0, 1) := by decide +kernel
theorem dX10_fail_1 : decode cX10_fail 1 = .ok (.iconst 1, 1) := by decide +kernel
theorem dX10_fail_2 : decode cX10_fail 2 = .ok (.putfield 61, 3) := by decide +kernel
theorem dX10_fail_5 : decode cX10_fail 5 = .ok (.iconst 0, 1) := by decide +kernel
theorem dX10_fail_6 : decode cX10_fail 6 = .ok (.ireturn, 1) := by decide +kernel
theorem dX10_rom_0 : decode cX10_rom 0 = .ok (.aload_n 0, 1) := by decide +kernel
theorem dX10_rom_1 : decode cX10_rom 1 = .ok (.iload_n 1, 1) := by decide +kernel
theorem dX10_rom_2 : decode cX10_rom 2 = .ok (.ifCond .lt 10, 3) := by decide +kernel
theorem dX10_rom_5 : decode cX10_rom 5 = .ok (.iload_n 1, 1) := by decide +kernel
theorem dX10_rom_6 : decode cX10_rom 6 = .ok (.sipush 511, 3) := by decide +kernel
theorem dX10_rom_9 : decode cX10_rom 9 = .ok (.if_icmp .le 7, 3) := by decide +kernel
theorem dX10_rom_12 : decode cX10_rom 12 = .ok (.iconst 1, 1) := by decide +kernel
theorem dX10_rom_13 : decode cX10_rom 13 = .ok (.goto 4, 3) := by decide +kernel
theorem dX10_rom_16 : decode cX10_rom 16 = .ok (.iconst 0, 1) := by decide +kernel
theorem dX10_rom_17 : decode cX10_rom 17 = .ok (.putfield 61, 3) := by decide +kernel
theorem dX10_rom_20 : decode cX10_rom 20 = .ok (.aload_n 0, 1) := by decide +kernel
theorem dX10_rom_21 : decode cX10_rom 21 = .ok (.getfield 61, 3) := by decide +kernel
theorem dX10_rom_24 : decode cX10_rom 24 = .ok (.ifCond .ne 14, 3) := by decide +kernel
theorem dX10_rom_27 : decode cX10_rom 27 = .ok (.aload_n 0, 1) := by decide +kernel
theorem dX10_rom_28 : decode cX10_rom 28 = .ok (.getfield 16, 3) := by decide +kernel
theorem dX10_rom_31 : decode cX10_rom 31 = .ok (.iload_n 1, 1) := by decide +kernel
theorem dX10_rom_32 : decode cX10_rom 32 = .ok (.iload_n 2, 1) := by decide +kernel
theorem dX10_rom_33 : decode cX10_rom 33 = .ok (.sipush 255, 3) := by decide +kernel
theorem dX10_rom_36 : decode cX10_rom 36 = .ok (.iand, 1) := by decide +kernel
theorem dX10_rom_37 : decode cX10_rom 37 = .ok (.iastore, 1) := by decide +kernel
theorem dX10_rom_38 : decode cX10_rom 38 = .ok (.return_, 1) := by decide +kernel
theorem dX10_chr_0 : decode cX10_chr 0 = .ok (.aload_n 0, 1) := by decide +kernel
theorem dX10_chr_1 : decode cX10_chr 1 = .ok (.iload_n 1, 1) := by decide +kernel
theorem dX10_chr_2 : decode cX10_chr 2 = .ok (.ifCond .lt 9, 3) := by decide +kernel
theorem dX10_chr_5 : decode cX10_chr 5 = .ok (.iload_n 1, 1) := by decide +kernel
theorem dX10_chr_6 : decode cX10_chr 6 = .ok (.bipush 127, 2) := by decide +kernel
theorem dX10_chr_8 : decode cX10_chr 8 = .ok (.if_icmp .le 7, 3) := by decide +kernel
theorem dX10_chr_11 : decode cX10_chr 11 = .ok (.iconst 1, 1) := by decide +kernel
theorem dX10_chr_12 : decode cX10_chr 12 = .ok (.goto 4, 3) := by decide +kernel
theorem dX10_chr_15 : decode cX10_chr 15 = .ok (.iconst 0, 1) := by decide +kernel
theorem dX10_chr_16 : decode cX10_chr 16 = .ok (.putfield 61, 3) := by decide +kernel
theorem dX10_chr_19 : decode cX10_chr 19 = .ok (.aload_n 0, 1) := by decide +kernel
theorem dX10_chr_20 : decode cX10_chr 20 = .ok (.getfield 61, 3) := by decide +kernel
theorem dX10_chr_23 : decode cX10_chr 23 = .ok (.ifCond .ne 14, 3) := by decide +kernel
theorem dX10_chr_26 : decode cX10_chr 26 = .ok (.aload_n 0, 1) := by decide +kernel
theorem dX10_chr_27 : decode cX10_chr 27 = .ok (.getfield 19, 3) := by decide +kernel
theorem dX10_chr_30 : decode cX10_chr 30 = .ok (.iload_n 1, 1) := by decide +kernel
theorem dX10_chr_31 : decode cX10_chr 31 = .ok (.iload_n 2, 1) := by decide +kernel
theorem dX10_chr_32 : decode cX10_chr 32 = .ok (.sipush 255, 3) := by decide +kernel
theorem dX10_chr_35 : decode cX10_chr 35 = .ok (.iand, 1) := by decide +kernel
theorem dX10_chr_36 : decode cX10_chr 36 = .ok (.iastore, 1) := by decide +kernel
theorem dX10_chr_37 : decode cX10_chr 37 = .ok (.return_, 1) := by decide +kernel
theorem dX10_prgBank_0 : decode cX10_prgBank 0 = .ok (.iconst 2, 1) := by decide +kernel
theorem dX10_prgBank_1 : decode cX10_prgBank 1 = .ok (.aload_n 0, 1) := by decide +kernel
theorem dX10_prgBank_2 : decode cX10_prgBank 2 = .ok (.getfield 64, 3) := by decide +kernel
theorem dX10_prgBank_5 : decode cX10_prgBank 5 = .ok (.iconst 3, 1) := by decide +kernel
theorem dX10_prgBank_6 : decode cX10_prgBank 6 = .ok (.iand, 1) := by decide +kernel
theorem dX10_prgBank_7 : decode cX10_prgBank 7 = .ok (.imul, 1) := by decide +kernel
theorem dX10_prgBank_8 : decode cX10_prgBank 8 = .ok (.istore_n 2, 1) := by decide +kernel
theorem dX10_prgBank_9 : decode cX10_prgBank 9 = .ok (.aload_n 0, 1) := by decide +kernel
theorem dX10_prgBank_10 : decode cX10_prgBank 10 = .ok (.getfield 51, 3) := by decide +kernel
theorem dX10_prgBank_13 : decode cX10_prgBank 13 = .ok (.ifCond .eq 77, 3) := by decide +kernel
theorem dX10_prgBank_16 : decode cX10_prgBank 16 = .ok (.aload_n 0, 1) := by decide +kernel
theorem dX10_prgBank_17 : decode cX10_prgBank 17 = .ok (.getfield 67, 3) := by decide +kernel
theorem dX10_prgBank_20 : decode cX10_prgBank 20 = .ok (.bipush 64, 2) := by decide +kernel
theorem dX10_prgBank_22 : decode cX10_prgBank 22 = .ok (.iand, 1) := by decide +kernel
theorem dX10_prgBank_23 : decode cX10_prgBank 23 = .ok (.ifCond .eq 7, 3) := by decide +kernel
theorem dX10_prgBank_26 : decode cX10_prgBank 26 = .ok (.iconst 1, 1) := by decide +kernel
theorem dX10_prgBank_27 : decode cX10_prgBank 27 = .ok (.goto 4, 3) := by decide +kernel
theorem dX10_prgBank_30 : decode cX10_prgBank 30 = .ok (.iconst 0, 1) := by decide +kernel
theorem dX10_prgBank_31 : decode cX10_prgBank 31 = .ok (.istore_n 3, 1) := by decide +kernel
theorem dX10_prgBank_32 : decode cX10_prgBank 32 = .ok (.iload_n 1, 1) := by decide +kernel
theorem dX10_prgBank_33 : decode cX10_prgBank 33 = .ok (.iconst 1, 1) := by decide +kernel
theorem dX10_prgBank_34 : decode cX10_prgBank 34 = .ok (.if_icmp .ne 13, 3) := by decide +kernel
theorem dX10_prgBank_37 : decode cX10_prgBank 37 = .ok (.aload_n 0, 1) := by decide +kernel
theorem dX10_prgBank_38 : decode cX10_prgBank 38 = .ok (.getfield 35, 3) := by decide +kernel
theorem dX10_prgBank_41 : decode cX10_prgBank 41 = .ok (.bipush 7, 2) := by decide +kernel
theorem dX10_prgBank_43 : decode cX10_prgBank 43 = .ok (.iaload, 1) := by decide +kernel
theorem dX10_prgBank_44 : decode cX10_prgBank 44 = .ok (.goto 38, 3) := by decide +kernel
theorem dX10_prgBank_47 : decode cX10_prgBank 47 = .ok (.iload_n 1, 1) := by decide +kernel
theorem dX10_prgBank_48 : decode cX10_prgBank 48 = .ok (.iconst 3, 1) := by decide +kernel
theorem dX10_prgBank_49 : decode cX10_prgBank 49 = .ok (.if_icmp .ne 8, 3) := by decide +kernel
theorem dX10_prgBank_52 : decode cX10_prgBank 52 = .ok (.bipush 7, 2) := by decide +kernel
theorem dX10_prgBank_54 : decode cX10_prgBank 54 = .ok (.goto 28, 3) := by decide +kernel
theorem dX10_prgBank_57 : decode cX10_prgBank 57 = .ok (.iload_n 1, 1) := by decide +kernel
theorem dX10_prgBank_58 : decode cX10_prgBank 58 = .ok (.ifCond .ne 7, 3) := by decide +kernel
theorem dX10_prgBank_61 : decode cX10_prgBank 61 = .ok (.iconst 1, 1) := by decide +kernel
theorem dX10_prgBank_62 : decode cX10_prgBank 62 = .ok (.goto 4, 3) := by decide +kernel
theorem dX10_prgBank_65 : decode cX10_prgBank 65 = .ok (.iconst 0, 1) := by decide +kernel
theorem dX10_prgBank_66 : decode cX10_prgBank 66 = .ok (.iload_n 3, 1) := by decide +kernel
theorem dX10_prgBank_67 : decode cX10_prgBank 67 = .ok (.if_icmp .eq 13, 3) := by decide +kernel
theorem dX10_prgBank_70 : decode cX10_prgBank 70 = .ok (.aload_n 0, 1) := by decide +kernel
theorem dX10_prgBank_71 : decode cX10_prgBank 71 = .ok (.getfield 35, 3) := by decide +kernel
theorem dX10_prgBank_74 : decode cX10_prgBank 74 = .ok (.bipush 6, 2) := by decide +kernel
theorem dX10_prgBank_76 : decode cX10_prgBank 76 = .ok (.iaload, 1) := by decide +kernel
theorem dX10_prgBank_77 : decode cX10_prgBank 77 = .ok (.goto 5, 3) := by decide +kernel
theorem dX10_prgBank_80 : decode cX10_prgBank 80 = .ok (.bipush 6, 2) := by decide +kernel
theorem dX10_prgBank_82 : decode cX10_prgBank 82 = .ok (.istore 4, 2) := by decide +kernel
theorem dX10_prgBank_84 : decode cX10_prgBank 84 = .ok (.iload 4, 2) := by decide +kernel
theorem dX10_prgBank_86 : decode cX10_prgBank 86 = .ok (.bipush 7, 2) := by decide +kernel
theorem dX10_prgBank_88 : decode cX10_prgBank 88 = .ok (.iand, 1) := by decide +kernel
theorem dX10_prgBank_89 : decode cX10_prgBank 89 = .ok (.ireturn, 1) := by decide +kernel
theorem dX10_prgBank_90 : decode cX10_prgBank 90 = .ok (.aload_n 0, 1) := by decide +kernel
theorem dX10_prgBank_91 : decode cX10_prgBank 91 = .ok (.getfield 58, 3) := by decide +kernel
theorem dX10_prgBank_94 : decode cX10_prgBank 94 = .ok (.iconst 2, 1) := by decide +kernel
theorem dX10_prgBank_95 : decode cX10_prgBank 95 = .ok (.ishr, 1) := by decide +kernel
theorem dX10_prgBank_96 : decode cX10_prgBank 96 = .ok (.iconst 3, 1) := by decide +kernel
theorem dX10_prgBank_97 : decode cX10_prgBank 97 = .ok (.iand, 1) := by decide +kernel
theorem dX10_prgBank_98 : decode cX10_prgBank 98 = .ok (.istore_n 3, 1) := by decide +kernel
theorem dX10_prgBank_99 : decode cX10_prgBank 99 = .ok (.iload_n 3, 1) := by decide +kernel
theorem dX10_prgBank_100 : decode cX10_prgBank 100 = .ok (.iconst 2, 1) := by decide +kernel
theorem dX10_prgBank_101 : decode cX10_prgBank 101 = .ok (.if_icmp .ge 16, 3) := by decide +kernel
theorem dX10_prgBank_104 : decode cX10_prgBank 104 = .ok (.iconst 4, 1) := by decide +kernel
theorem dX10_prgBank_105 : decode cX10_prgBank 105 = .ok (.aload_n 0, 1) := by decide +kernel
theorem dX10_prgBank_106 : decode cX10_prgBank 106 = .ok (.getfield 64, 3) := by decide +kernel
theorem dX10_prgBank_109 : decode cX10_prgBank 109 = .ok (.iconst 1, 1) := by decide +kernel
theorem dX10_prgBank_110 : decode cX10_prgBank 110 = .ok (.ishr, 1) := by decide +kernel
theorem dX10_prgBank_111 : decode cX10_prgBank 111 = .ok (.iconst 1, 1) := by decide +kernel
theorem dX10_prgBank_112 : decode cX10_prgBank 112 = .ok (.iand, 1) := by decide +kernel
theorem dX10_prgBank_113 : decode cX10_prgBank 113 = .ok (.imul, 1) := by decide +kernel
theorem dX10_prgBank_114 : decode cX10_prgBank 114 = .ok (.iload_n 1, 1) := by decide +kernel
theorem dX10_prgBank_115 : decode cX10_prgBank 115 = .ok (.iadd, 1) := by decide +kernel
theorem dX10_prgBank_116 : decode cX10_prgBank 116 = .ok (.ireturn, 1) := by decide +kernel
theorem dX10_prgBank_117 : decode cX10_prgBank 117 = .ok (.iload_n 3, 1) := by decide +kernel
theorem dX10_prgBank_118 : decode cX10_prgBank 118 = .ok (.iconst 2, 1) := by decide +kernel
theorem dX10_prgBank_119 : decode cX10_prgBank 119 = .ok (.if_icmp .ne 18, 3) := by decide +kernel
theorem dX10_prgBank_122 : decode cX10_prgBank 122 = .ok (.iload_n 1, 1) := by decide +kernel
theorem dX10_prgBank_123 : decode cX10_prgBank 123 = .ok (.iconst 2, 1) := by decide +kernel
theorem dX10_prgBank_124 : decode cX10_prgBank 124 = .ok (.if_icmp .ge 7, 3) := by decide +kernel
theorem dX10_prgBank_127 : decode cX10_prgBank 127 = .ok (.iload_n 1, 1) := by decide +kernel
theorem dX10_prgBank_128 : decode cX10_prgBank 128 = .ok (.goto 8, 3) := by decide +kernel
theorem dX10_prgBank_131 : decode cX10_prgBank 131 = .ok (.iload_n 2, 1) := by decide +kernel
theorem dX10_prgBank_132 : decode cX10_prgBank 132 = .ok (.iload_n 1, 1) := by decide +kernel
theorem dX10_prgBank_133 : decode cX10_prgBank 133 = .ok (.iadd, 1) := by decide +kernel
theorem dX10_prgBank_134 : decode cX10_prgBank 134 = .ok (.iconst 2, 1) := by decide +kernel
theorem dX10_prgBank_135 : decode cX10_prgBank 135 = .ok (.isub, 1) := by decide +kernel
theorem dX10_prgBank_136 : decode cX10_prgBank 136 = .ok (.ireturn, 1) := by decide +kernel
theorem dX10_prgBank_137 : decode cX10_prgBank 137 = .ok (.iload_n 1, 1) := by decide +kernel
theorem dX10_prgBank_138 : decode cX10_prgBank 138 = .ok (.iconst 2, 1) := by decide +kernel
theorem dX10_prgBank_139 : decode cX10_prgBank 139 = .ok (.if_icmp .ge 9, 3) := by decide +kernel
theorem dX10_prgBank_142 : decode cX10_prgBank 142 = .ok (.iload_n 2, 1) := by decide +kernel
theorem dX10_prgBank_143 : decode cX10_prgBank 143 = .ok (.iload_n 1, 1) := by decide +kernel
theorem dX10_prgBank_144 : decode cX10_prgBank 144 = .ok (.iadd, 1) := by decide +kernel
theorem dX10_prgBank_145 : decode cX10_prgBank 145 = .ok (.goto 6, 3) := by decide +kernel
theorem dX10_prgBank_148 : decode cX10_prgBank 148 = .ok (.iconst 4, 1) := by decide +kernel
theorem dX10_prgBank_149 : decode cX10_prgBank 149 = .ok (.iload_n 1, 1) := by decide +kernel
theorem dX10_prgBank_150 : decode cX10_prgBank 150 = .ok (.iadd, 1) := by decide +kernel
theorem dX10_prgBank_151 : decode cX10_prgBank 151 = .ok (.ireturn, 1) := by decide +kernel
theorem dX10_chrBank_0 : decode cX10_chrBank 0 = .ok (.aload_n 0, 1) := by decide +kernel
theorem dX10_chrBank_1 : decode cX10_chrBank 1 = .ok (.getfield 51, 3) := by decide +kernel
theorem dX10_chrBank_4 : decode cX10_chrBank 4 = .ok (.ifCond .ne 40, 3) := by decide +kernel
theorem dX10_chrBank_7 : decode cX10_chrBank 7 = .ok (.aload_n 0, 1) := by decide +kernel
theorem dX10_chrBank_8 : decode cX10_chrBank 8 = .ok (.getfield 58, 3) := by decide +kernel
theorem dX10_chrBank_11 : decode cX10_chrBank 11 = .ok (.bipush 16, 2) := by decide +kernel
theorem dX10_chrBank_13 : decode cX10_chrBank 13 = .ok (.iand, 1) := by decide +kernel
theorem dX10_chrBank_14 : decode cX10_chrBank 14 = .ok (.ifCond .ne 5, 3) := by decide +kernel
theorem dX10_chrBank_17 : decode cX10_chrBank 17 = .ok (.iload_n 1, 1) := by decide +kernel
theorem dX10_chrBank_18 : decode cX10_chrBank 18 = .ok (.ireturn, 1) := by decide +kernel
theorem dX10_chrBank_19 : decode cX10_chrBank 19 = .ok (.iconst 4, 1) := by decide +kernel
theorem dX10_chrBank_20 : decode cX10_chrBank 20 = .ok (.iload_n 1, 1) := by decide +kernel
theorem dX10_chrBank_21 : decode cX10_chrBank 21 = .ok (.iconst 4, 1) := by decide +kernel
theorem dX10_chrBank_22 : decode cX10_chrBank 22 = .ok (.if_icmp .ge 10, 3) := by decide +kernel
theorem dX10_chrBank_25 : decode cX10_chrBank 25 = .ok (.aload_n 0, 1) := by decide +kernel
theorem dX10_chrBank_26 : decode cX10_chrBank 26 = .ok (.getfield 70, 3) := by decide +kernel
theorem dX10_chrBank_29 : decode cX10_chrBank 29 = .ok (.goto 7, 3) := by decide +kernel
theorem dX10_chrBank_32 : decode cX10_chrBank 32 = .ok (.aload_n 0, 1) := by decide +kernel
theorem dX10_chrBank_33 : decode cX10_chrBank 33 = .ok (.getfield 73, 3) := by decide +kernel
theorem dX10_chrBank_36 : decode cX10_chrBank 36 = .ok (.iconst 1, 1) := by decide +kernel
theorem dX10_chrBank_37 : decode cX10_chrBank 37 = .ok (.iand, 1) := by decide +kernel
theorem dX10_chrBank_38 : decode cX10_chrBank 38 = .ok (.imul, 1) := by decide +kernel
theorem dX10_chrBank_39 : decode cX10_chrBank 39 = .ok (.iload_n 1, 1) := by decide +kernel
theorem dX10_chrBank_40 : decode cX10_chrBank 40 = .ok (.iconst 3, 1) := by decide +kernel
theorem dX10_chrBank_41 : decode cX10_chrBank 41 = .ok (.iand, 1) := by decide +kernel
theorem dX10_chrBank_42 : decode cX10_chrBank 42 = .ok (.iadd, 1) := by decide +kernel
theorem dX10_chrBank_43 : decode cX10_chrBank 43 = .ok (.ireturn, 1) := by decide +kernel
theorem dX10_chrBank_44 : decode cX10_chrBank 44 = .ok (.aload_n 0, 1) := by decide +kernel
theorem dX10_chrBank_45 : decode cX10_chrBank 45 = .ok (.getfield 67, 3) := by decide +kernel
theorem dX10_chrBank_48 : decode cX10_chrBank 48 = .ok (.sipush 128, 3) := by decide +kernel
theorem dX10_chrBank_51 : decode cX10_chrBank 51 = .ok (.iand, 1) := by decide +kernel
theorem dX10_chrBank_52 : decode cX10_chrBank 52 = .ok (.ifCond .eq 9, 3) := by decide +kernel
theorem dX10_chrBank_55 : decode cX10_chrBank 55 = .ok (.iload_n 1, 1) := by decide +kernel
theorem dX10_chrBank_56 : decode cX10_chrBank 56 = .ok (.iconst 4, 1) := by decide +kernel
theorem dX10_chrBank_57 : decode cX10_chrBank 57 = .ok (.ixor, 1) := by decide +kernel
theorem dX10_chrBank_58 : decode cX10_chrBank 58 = .ok (.goto 4, 3) := by decide +kernel
theorem dX10_chrBank_61 : decode cX10_chrBank 61 = .ok (.iload_n 1, 1) := by decide +kernel
theorem dX10_chrBank_62 : decode cX10_chrBank 62 = .ok (.istore_n 2, 1) := by decide +kernel
theorem dX10_chrBank_63 : decode cX10_chrBank 63 = .ok (.iload_n 2, 1) := by decide +kernel
theorem dX10_chrBank_64 : decode cX10_chrBank 64 = .ok (.iconst 4, 1) := by decide +kernel
theorem dX10_chrBank_65 : decode cX10_chrBank 65 = .ok (.if_icmp .ge 22, 3) := by decide +kernel
theorem dX10_chrBank_68 : decode cX10_chrBank 68 = .ok (.aload_n 0, 1) := by decide +kernel
theorem dX10_chrBank_69 : decode cX10_chrBank 69 = .ok (.getfield 35, 3) := by decide +kernel
theorem dX10_chrBank_72 : decode cX10_chrBank 72 = .ok (.iload_n 2, 1) := by decide +kernel
theorem dX10_chrBank_73 : decode cX10_chrBank 73 = .ok (.iconst 2, 1) := by decide +kernel
theorem dX10_chrBank_74 : decode cX10_chrBank 74 = .ok (.idiv, 1) := by decide +kernel
theorem dX10_chrBank_75 : decode cX10_chrBank 75 = .ok (.iaload, 1) := by decide +kernel
theorem dX10_chrBank_76 : decode cX10_chrBank 76 = .ok (.sipush 254, 3) := by decide +kernel
theorem dX10_chrBank_79 : decode cX10_chrBank 79 = .ok (.iand, 1) := by decide +kernel
theorem dX10_chrBank_80 : decode cX10_chrBank 80 = .ok (.iload_n 2, 1) := by decide +kernel
theorem dX10_chrBank_81 : decode cX10_chrBank 81 = .ok (.iconst 1, 1) := by decide +kernel
theorem dX10_chrBank_82 : decode cX10_chrBank 82 = .ok (.iand, 1) := by decide +kernel
theorem dX10_chrBank_83 : decode cX10_chrBank 83 = .ok (.ior, 1) := by decide +kernel
theorem dX10_chrBank_84 : decode cX10_chrBank 84 = .ok (.goto 11, 3) := by decide +kernel
theorem dX10_chrBank_87 : decode cX10_chrBank 87 = .ok (.aload_n 0, 1) := by decide +kernel
theorem dX10_chrBank_88 : decode cX10_chrBank 88 = .ok (.getfield 35, 3) := by decide +kernel
theorem dX10_chrBank_91 : decode cX10_chrBank 91 = .ok (.iload_n 2, 1) := by decide +kernel
theorem dX10_chrBank_92 : decode cX10_chrBank 92 = .ok (.iconst 2, 1) := by decide +kernel
theorem dX10_chrBank_93 : decode cX10_chrBank 93 = .ok (.isub, 1) := by decide +kernel
theorem dX10_chrBank_94 : decode cX10_chrBank 94 = .ok (.iaload, 1) := by decide +kernel
theorem dX10_chrBank_95 : decode cX10_chrBank 95 = .ok (.istore_n 3, 1) := by decide +kernel
theorem dX10_chrBank_96 : decode cX10_chrBank 96 = .ok (.iload_n 3, 1) := by decide +kernel
theorem dX10_chrBank_97 : decode cX10_chrBank 97 = .ok (.bipush 7, 2) := by decide +kernel
theorem dX10_chrBank_99 : decode cX10_chrBank 99 = .ok (.iand, 1) := by decide +kernel
theorem dX10_chrBank_100 : decode cX10_chrBank 100 = .ok (.ireturn, 1) := by decide +kernel
theorem dX10_writeOne_0 : decode cX10_writeOne 0 = .ok (.iload_n 2, 1) := by decide +kernel
theorem dX10_writeOne_1 : decode cX10_writeOne 1 = .ok (.sipush 128, 3) := by decide +kernel
theorem dX10_writeOne_4 : decode cX10_writeOne 4 = .ok (.iand, 1) := by decide +kernel
theorem dX10_writeOne_5 : decode cX10_writeOne 5 = .ok (.ifCond .eq 25, 3) := by decide +kernel
theorem dX10_writeOne_8 : decode cX10_writeOne 8 = .ok (.aload_n 0, 1) := by decide +kernel
theorem dX10_writeOne_9 : decode cX10_writeOne 9 = .ok (.iconst 0, 1) := by decide +kernel
theorem dX10_writeOne_10 : decode cX10_writeOne 10 = .ok (.putfield 76, 3) := by decide +kernel
theorem dX10_writeOne_13 : decode cX10_writeOne 13 = .ok (.aload_n 0, 1) := by decide +kernel
theorem dX10_writeOne_14 : decode cX10_writeOne 14 = .ok (.iconst 0, 1) := by decide +kernel
theorem dX10_writeOne_15 : decode cX10_writeOne 15 = .ok (.putfield 79, 3) := by decide +kernel
theorem dX10_writeOne_18 : decode cX10_writeOne 18 = .ok (.aload_n 0, 1) := by decide +kernel
theorem dX10_writeOne_19 : decode cX10_writeOne 19 = .ok (.dup, 1) := by decide +kernel
theorem dX10_writeOne_20 : decode cX10_writeOne 20 = .ok (.getfield 58, 3) := by decide +kernel
theorem dX10_writeOne_23 : decode cX10_writeOne 23 = .ok (.bipush 12, 2) := by decide +kernel
theorem dX10_writeOne_25 : decode cX10_writeOne 25 = .ok (.ior, 1) := by decide +kernel
theorem dX10_writeOne_26 : decode cX10_writeOne 26 = .ok (.putfield 58, 3) := by decide +kernel
theorem dX10_writeOne_29 : decode cX10_writeOne 29 = .ok (.return_, 1) := by decide +kernel
theorem dX10_writeOne_30 : decode cX10_writeOne 30 = .ok (.aload_n 0, 1) := by decide +kernel
theorem dX10_writeOne_31 : decode cX10_writeOne 31 = .ok (.dup, 1) := by decide +kernel
theorem dX10_writeOne_32 : decode cX10_writeOne 32 = .ok (.getfield 79, 3) := by decide +kernel
theorem dX10_writeOne_35 : decode cX10_writeOne 35 = .ok (.iload_n 2, 1) := by decide +kernel
theorem dX10_writeOne_36 : decode cX10_writeOne 36 = .ok (.iconst 1, 1) := by decide +kernel
theorem dX10_writeOne_37 : decode cX10_writeOne 37 = .ok (.iand, 1) := by decide +kernel
theorem dX10_writeOne_38 : decode cX10_writeOne 38 = .ok (.aload_n 0, 1) := by decide +kernel
theorem dX10_writeOne_39 : decode cX10_writeOne 39 = .ok (.getfield 76, 3) := by decide +kernel
theorem dX10_writeOne_42 : decode cX10_writeOne 42 = .ok (.ishl, 1) := by decide +kernel
theorem dX10_writeOne_43 : decode cX10_writeOne 43 = .ok (.ior, 1) := by decide +kernel
theorem dX10_writeOne_44 : decode cX10_writeOne 44 = .ok (.putfield 79, 3) := by decide +kernel
theorem dX10_writeOne_47 : decode cX10_writeOne 47 = .ok (.aload_n 0, 1) := by decide +kernel
theorem dX10_writeOne_48 : decode cX10_writeOne 48 = .ok (.dup, 1) := by decide +kernel
theorem dX10_writeOne_49 : decode cX10_writeOne 49 = .ok (.getfield 76, 3) := by decide +kernel
theorem dX10_writeOne_52 : decode cX10_writeOne 52 = .ok (.iconst 1, 1) := by decide +kernel
theorem dX10_writeOne_53 : decode cX10_writeOne 53 = .ok (.iadd, 1) := by decide +kernel
theorem dX10_writeOne_54 : decode cX10_writeOne 54 = .ok (.putfield 76, 3) := by decide +kernel
theorem dX10_writeOne_57 : decode cX10_writeOne 57 = .ok (.aload_n 0, 1) := by decide +kernel
theorem dX10_writeOne_58 : decode cX10_writeOne 58 = .ok (.getfield 76, 3) := by decide +kernel
theorem dX10_writeOne_61 : decode cX10_writeOne 61 = .ok (.iconst 5, 1) := by decide +kernel
theorem dX10_writeOne_62 : decode cX10_writeOne 62 = .ok (.if_icmp .ge 4, 3) := by decide +kernel
theorem dX10_writeOne_65 : decode cX10_writeOne 65 = .ok (.return_, 1) := by decide +kernel
theorem dX10_writeOne_66 : decode cX10_writeOne 66 = .ok (.iload_n 1, 1) := by decide +kernel
theorem dX10_writeOne_67 : decode cX10_writeOne 67 = .ok (.bipush 13, 2) := by decide +kernel
theorem dX10_writeOne_69 : decode cX10_writeOne 69 = .ok (.ishr, 1) := by decide +kernel
theorem dX10_writeOne_70 : decode cX10_writeOne 70 = .ok (.iconst 3, 1) := by decide +kernel
theorem dX10_writeOne_71 : decode cX10_writeOne 71 = .ok (.iand, 1) := by decide +kernel
theorem dX10_writeOne_72 : decode cX10_writeOne 72 = .ok (.tableswitch 71 0 2 #[28, 49, 60], 28) := by decide +kernel
theorem dX10_writeOne_100 : decode cX10_writeOne 100 = .ok (.aload_n 0, 1) := by decide +kernel
theorem dX10_writeOne_101 : decode cX10_writeOne 101 = .ok (.aload_n 0, 1) := by decide +kernel
theorem dX10_writeOne_102 : decode cX10_writeOne 102 = .ok (.getfield 79, 3) := by decide +kernel
theorem dX10_writeOne_105 : decode cX10_writeOne 105 = .ok (.putfield 58, 3) := by decide +kernel
theorem dX10_writeOne_108 : decode cX10_writeOne 108 = .ok (.aload_n 0, 1) := by decide +kernel
theorem dX10_writeOne_109 : decode cX10_writeOne 109 = .ok (.aload_n 0, 1) := by decide +kernel
theorem dX10_writeOne_110 : decode cX10_writeOne 110 = .ok (.getfield 79, 3) := by decide +kernel
theorem dX10_writeOne_113 : decode cX10_writeOne 113 = .ok (.iconst 3, 1) := by decide +kernel
theorem dX10_writeOne_114 : decode cX10_writeOne 114 = .ok (.iand, 1) := by decide +kernel
theorem dX10_writeOne_115 : decode cX10_writeOne 115 = .ok (.putfield 55, 3) := by decide +kernel
theorem dX10_writeOne_118 : decode cX10_writeOne 118 = .ok (.goto 33, 3) := by decide +kernel
theorem dX10_writeOne_121 : decode cX10_writeOne 121 = .ok (.aload_n 0, 1) := by decide +kernel
theorem dX10_writeOne_122 : decode cX10_writeOne 122 = .ok (.aload_n 0, 1) := by decide +kernel
theorem dX10_writeOne_123 : decode cX10_writeOne 123 = .ok (.getfield 79, 3) := by decide +kernel
theorem dX10_writeOne_126 : decode cX10_writeOne 126 = .ok (.putfield 70, 3) := by decide +kernel
theorem dX10_writeOne_129 : decode cX10_writeOne 129 = .ok (.goto 22, 3) := by decide +kernel
theorem dX10_writeOne_132 : decode cX10_writeOne 132 = .ok (.aload_n 0, 1) := by decide +kernel
theorem dX10_writeOne_133 : decode cX10_writeOne 133 = .ok (.aload_n 0, 1) := by decide +kernel
theorem dX10_writeOne_134 : decode cX10_writeOne 134 = .ok (.getfield 79, 3) := by decide +kernel
theorem dX10_writeOne_137 : decode cX10_writeOne 137 = .ok (.putfield 73, 3) := by decide +kernel
theorem dX10_writeOne_140 : decode cX10_writeOne 140 = .ok (.goto 11, 3) := by decide +kernel
theorem dX10_writeOne_143 : decode cX10_writeOne 143 = .ok (.aload_n 0, 1) := by decide +kernel
theorem dX10_writeOne_144 : decode cX10_writeOne 144 = .ok (.aload_n 0, 1) := by decide +kernel
theorem dX10_writeOne_145 : decode cX10_writeOne 145 = .ok (.getfield 79, 3) := by decide +kernel
theorem dX10_writeOne_148 : decode cX10_writeOne 148 = .ok (.putfield 64, 3) := by decide +kernel
theorem dX10_writeOne_151 : decode cX10_writeOne 151 = .ok (.aload_n 0, 1) := by decide +kernel
theorem dX10_writeOne_152 : decode cX10_writeOne 152 = .ok (.iconst 0, 1) := by decide +kernel
theorem dX10_writeOne_153 : decode cX10_writeOne 153 = .ok (.putfield 76, 3) := by decide +kernel
theorem dX10_writeOne_156 : decode cX10_writeOne 156 = .ok (.aload_n 0, 1) := by decide +kernel
theorem dX10_writeOne_157 : decode cX10_writeOne 157 = .ok (.iconst 0, 1) := by decide +kernel
theorem dX10_writeOne_158 : decode cX10_writeOne 158 = .ok (.putfield 79, 3) := by decide +kernel
theorem dX10_writeOne_161 : decode cX10_writeOne 161 = .ok (.return_, 1) := by decide +kernel
theorem dX10_writeThree_0 : decode cX10_writeThree 0 = .ok (.iload_n 1, 1) := by decide +kernel
theorem dX10_writeThree_1 : decode cX10_writeThree 1 = .ok (.iconst 1, 1) := by decide +kernel
theorem dX10_writeThree_2 : decode cX10_writeThree 2 = .ok (.iand, 1) := by decide +kernel
theorem dX10_writeThree_3 : decode cX10_writeThree 3 = .ok (.iconst 1, 1) := by decide +kernel
theorem dX10_writeThree_4 : decode cX10_writeThree 4 = .ok (.if_icmp .ne 7, 3) := by decide +kernel
theorem dX10_writeThree_7 : decode cX10_writeThree 7 = .ok (.iconst 1, 1) := by decide +kernel
theorem dX10_writeThree_8 : decode cX10_writeThree 8 = .ok (.goto 4, 3) := by decide +kernel
theorem dX10_writeThree_11 : decode cX10_writeThree 11 = .ok (.iconst 0, 1) := by decide +kernel
theorem dX10_writeThree_12 : decode cX10_writeThree 12 = .ok (.istore_n 3, 1) := by decide +kernel
theorem dX10_writeThree_13 : decode cX10_writeThree 13 = .ok (.iload_n 1, 1) := by decide +kernel
theorem dX10_writeThree_14 : decode cX10_writeThree 14 = .ok (.bipush 13, 2) := by decide +kernel
theorem dX10_writeThree_16 : decode cX10_writeThree 16 = .ok (.ishr, 1) := by decide +kernel
theorem dX10_writeThree_17 : decode cX10_writeThree 17 = .ok (.iconst 3, 1) := by decide +kernel
theorem dX10_writeThree_18 : decode cX10_writeThree 18 = .ok (.iand, 1) := by decide +kernel
theorem dX10_writeThree_19 : decode cX10_writeThree 19 = .ok (.tableswitch 89 0 2 #[25, 53, 69], 25) := by decide +kernel
theorem dX10_writeThree_44 : decode cX10_writeThree 44 = .ok (.iload_n 3, 1) := by decide +kernel
theorem dX10_writeThree_45 : decode cX10_writeThree 45 = .ok (.ifCond .eq 19, 3) := by decide +kernel
theorem dX10_writeThree_48 : decode cX10_writeThree 48 = .ok (.aload_n 0, 1) := by decide +kernel
theorem dX10_writeThree_49 : decode cX10_writeThree 49 = .ok (.getfield 35, 3) := by decide +kernel
theorem dX10_writeThree_52 : decode cX10_writeThree 52 = .ok (.aload_n 0, 1) := by decide +kernel
theorem dX10_writeThree_53 : decode cX10_writeThree 53 = .ok (.getfield 67, 3) := by decide +kernel
theorem dX10_writeThree_56 : decode cX10_writeThree 56 = .ok (.bipush 7, 2) := by decide +kernel
theorem dX10_writeThree_58 : decode cX10_writeThree 58 = .ok (.iand, 1) := by decide +kernel
theorem dX10_writeThree_59 : decode cX10_writeThree 59 = .ok (.iload_n 2, 1) := by decide +kernel
theorem dX10_writeThree_60 : decode cX10_writeThree 60 = .ok (.iastore, 1) := by decide +kernel
theorem dX10_writeThree_61 : decode cX10_writeThree 61 = .ok (.goto 61, 3) := by decide +kernel
theorem dX10_writeThree_64 : decode cX10_writeThree 64 = .ok (.aload_n 0, 1) := by decide +kernel
theorem dX10_writeThree_65 : decode cX10_writeThree 65 = .ok (.iload_n 2, 1) := by decide +kernel
theorem dX10_writeThree_66 : decode cX10_writeThree 66 = .ok (.putfield 67, 3) := by decide +kernel
theorem dX10_writeThree_69 : decode cX10_writeThree 69 = .ok (.goto 53, 3) := by decide +kernel
theorem dX10_writeThree_72 : decode cX10_writeThree 72 = .ok (.iload_n 3, 1) := by decide +kernel
theorem dX10_writeThree_73 : decode cX10_writeThree 73 = .ok (.ifCond .ne 49, 3) := by decide +kernel
theorem dX10_writeThree_76 : decode cX10_writeThree 76 = .ok (.aload_n 0, 1) := by decide +kernel
theorem dX10_writeThree_77 : decode cX10_writeThree 77 = .ok (.iconst 2, 1) := by decide +kernel
theorem dX10_writeThree_78 : decode cX10_writeThree 78 = .ok (.iload_n 2, 1) := by decide +kernel
theorem dX10_writeThree_79 : decode cX10_writeThree 79 = .ok (.iconst 1, 1) := by decide +kernel
theorem dX10_writeThree_80 : decode cX10_writeThree 80 = .ok (.iand, 1) := by decide +kernel
theorem dX10_writeThree_81 : decode cX10_writeThree 81 = .ok (.iadd, 1) := by decide +kernel
theorem dX10_writeThree_82 : decode cX10_writeThree 82 = .ok (.putfield 55, 3) := by decide +kernel
theorem dX10_writeThree_85 : decode cX10_writeThree 85 = .ok (.goto 37, 3) := by decide +kernel
theorem dX10_writeThree_88 : decode cX10_writeThree 88 = .ok (.iload_n 3, 1) := by decide +kernel
theorem dX10_writeThree_89 : decode cX10_writeThree 89 = .ok (.ifCond .eq 11, 3) := by decide +kernel
theorem dX10_writeThree_92 : decode cX10_writeThree 92 = .ok (.aload_n 0, 1) := by decide +kernel
theorem dX10_writeThree_93 : decode cX10_writeThree 93 = .ok (.iconst 0, 1) := by decide +kernel
theorem dX10_writeThree_94 : decode cX10_writeThree 94 = .ok (.putfield 82, 3) := by decide +kernel
theorem dX10_writeThree_97 : decode cX10_writeThree 97 = .ok (.goto 25, 3) := by decide +kernel
theorem dX10_writeThree_100 : decode cX10_writeThree 100 = .ok (.aload_n 0, 1) := by decide +kernel
theorem dX10_writeThree_101 : decode cX10_writeThree 101 = .ok (.iload_n 2, 1) := by decide +kernel
theorem dX10_writeThree_102 : decode cX10_writeThree 102 = .ok (.putfield 85, 3) := by decide +kernel
theorem dX10_writeThree_105 : decode cX10_writeThree 105 = .ok (.goto 17, 3) := by decide +kernel
theorem dX10_writeThree_108 : decode cX10_writeThree 108 = .ok (.aload_n 0, 1) := by decide +kernel
theorem dX10_writeThree_109 : decode cX10_writeThree 109 = .ok (.iload_n 3, 1) := by decide +kernel
theorem dX10_writeThree_110 : decode cX10_writeThree 110 = .ok (.putfield 88, 3) := by decide +kernel
theorem dX10_writeThree_113 : decode cX10_writeThree 113 = .ok (.iload_n 3, 1) := by decide +kernel
theorem dX10_writeThree_114 : decode cX10_writeThree 114 = .ok (.ifCond .ne 8, 3) := by decide +kernel
theorem dX10_writeThree_117 : decode cX10_writeThree 117 = .ok (.aload_n 0, 1) := by decide +kernel
theorem dX10_writeThree_118 : decode cX10_writeThree 118 = .ok (.iconst 0, 1) := by decide +kernel
theorem dX10_writeThree_119 : decode cX10_writeThree 119 = .ok (.putfield 91, 3) := by decide +kernel
theorem dX10_writeThree_122 : decode cX10_writeThree 122 = .ok (.return_, 1) := by decide +kernel
theorem dX10_tellLine_0 : decode cX10_tellLine 0 = .ok (.aload_n 0, 1) := by decide +kernel
theorem dX10_tellLine_1 : decode cX10_tellLine 1 = .ok (.getfield 51, 3) := by decide +kernel
theorem dX10_tellLine_4 : decode cX10_tellLine 4 = .ok (.ifCond .ne 4, 3) := by decide +kernel
theorem dX10_tellLine_7 : decode cX10_tellLine 7 = .ok (.return_, 1) := by decide +kernel
theorem dX10_tellLine_8 : decode cX10_tellLine 8 = .ok (.aload_n 0, 1) := by decide +kernel
theorem dX10_tellLine_9 : decode cX10_tellLine 9 = .ok (.aload_n 0, 1) := by decide +kernel
theorem dX10_tellLine_10 : decode cX10_tellLine 10 = .ok (.getfield 82, 3) := by decide +kernel
theorem dX10_tellLine_13 : decode cX10_tellLine 13 = .ok (.ifCond .ne 10, 3) := by decide +kernel
theorem dX10_tellLine_16 : decode cX10_tellLine 16 = .ok (.aload_n 0, 1) := by decide +kernel
theorem dX10_tellLine_17 : decode cX10_tellLine 17 = .ok (.getfield 85, 3) := by decide +kernel
theorem dX10_tellLine_20 : decode cX10_tellLine 20 = .ok (.goto 9, 3) := by decide +kernel
theorem dX10_tellLine_23 : decode cX10_tellLine 23 = .ok (.aload_n 0, 1) := by decide +kernel
theorem dX10_tellLine_24 : decode cX10_tellLine 24 = .ok (.getfield 82, 3) := by decide +kernel
theorem dX10_tellLine_27 : decode cX10_tellLine 27 = .ok (.iconst 1, 1) := by decide +kernel
theorem dX10_tellLine_28 : decode cX10_tellLine 28 = .ok (.isub, 1) := by decide +kernel
theorem dX10_tellLine_29 : decode cX10_tellLine 29 = .ok (.putfield 82, 3) := by decide +kernel
theorem dX10_tellLine_32 : decode cX10_tellLine 32 = .ok (.aload_n 0, 1) := by decide +kernel
theorem dX10_tellLine_33 : decode cX10_tellLine 33 = .ok (.getfield 82, 3) := by decide +kernel
theorem dX10_tellLine_36 : decode cX10_tellLine 36 = .ok (.ifCond .ne 15, 3) := by decide +kernel
theorem dX10_tellLine_39 : decode cX10_tellLine 39 = .ok (.aload_n 0, 1) := by decide +kernel
theorem dX10_tellLine_40 : decode cX10_tellLine 40 = .ok (.getfield 88, 3) := by decide +kernel
theorem dX10_tellLine_43 : decode cX10_tellLine 43 = .ok (.ifCond .eq 8, 3) := by decide +kernel
theorem dX10_tellLine_46 : decode cX10_tellLine 46 = .ok (.aload_n 0, 1) := by decide +kernel
theorem dX10_tellLine_47 : decode cX10_tellLine 47 = .ok (.iconst 1, 1) := by decide +kernel
theorem dX10_tellLine_48 : decode cX10_tellLine 48 = .ok (.putfield 91, 3) := by decide +kernel
theorem dX10_tellLine_51 : decode cX10_tellLine 51 = .ok (.return_, 1) := by decide +kernel
theorem dX10_tablePlace_0 : decode cX10_tablePlace 0 = .ok (.aload_n 0, 1) := by decide +kernel
theorem dX10_tablePlace_1 : decode cX10_tablePlace 1 = .ok (.getfield 55, 3) := by decide +kernel
theorem dX10_tablePlace_4 : decode cX10_tablePlace 4 = .ok (.ifCond .ne 7, 3) := by decide +kernel
theorem dX10_tablePlace_7 : decode cX10_tablePlace 7 = .ok (.iconst 0, 1) := by decide +kernel
theorem dX10_tablePlace_8 : decode cX10_tablePlace 8 = .ok (.goto 38, 3) := by decide +kernel
theorem dX10_tablePlace_11 : decode cX10_tablePlace 11 = .ok (.aload_n 0, 1) := by decide +kernel
theorem dX10_tablePlace_12 : decode cX10_tablePlace 12 = .ok (.getfield 55, 3) := by decide +kernel
theorem dX10_tablePlace_15 : decode cX10_tablePlace 15 = .ok (.iconst 1, 1) := by decide +kernel
theorem dX10_tablePlace_16 : decode cX10_tablePlace 16 = .ok (.if_icmp .ne 7, 3) := by decide +kernel
theorem dX10_tablePlace_19 : decode cX10_tablePlace 19 = .ok (.iconst 1, 1) := by decide +kernel
theorem dX10_tablePlace_20 : decode cX10_tablePlace 20 = .ok (.goto 26, 3) := by decide +kernel
theorem dX10_tablePlace_23 : decode cX10_tablePlace 23 = .ok (.aload_n 0, 1) := by decide +kernel
theorem dX10_tablePlace_24 : decode cX10_tablePlace 24 = .ok (.getfield 55, 3) := by decide +kernel
theorem dX10_tablePlace_27 : decode cX10_tablePlace 27 = .ok (.iconst 2, 1) := by decide +kernel
theorem dX10_tablePlace_28 : decode cX10_tablePlace 28 = .ok (.if_icmp .ne 12, 3) := by decide +kernel
theorem dX10_tablePlace_31 : decode cX10_tablePlace 31 = .ok (.iload_n 1, 1) := by decide +kernel
theorem dX10_tablePlace_32 : decode cX10_tablePlace 32 = .ok (.bipush 10, 2) := by decide +kernel
theorem dX10_tablePlace_34 : decode cX10_tablePlace 34 = .ok (.ishr, 1) := by decide +kernel
theorem dX10_tablePlace_35 : decode cX10_tablePlace 35 = .ok (.iconst 1, 1) := by decide +kernel
theorem dX10_tablePlace_36 : decode cX10_tablePlace 36 = .ok (.iand, 1) := by decide +kernel
theorem dX10_tablePlace_37 : decode cX10_tablePlace 37 = .ok (.goto 9, 3) := by decide +kernel
theorem dX10_tablePlace_40 : decode cX10_tablePlace 40 = .ok (.iload_n 1, 1) := by decide +kernel
theorem dX10_tablePlace_41 : decode cX10_tablePlace 41 = .ok (.bipush 11, 2) := by decide +kernel
theorem dX10_tablePlace_43 : decode cX10_tablePlace 43 = .ok (.ishr, 1) := by decide +kernel
theorem dX10_tablePlace_44 : decode cX10_tablePlace 44 = .ok (.iconst 1, 1) := by decide +kernel
theorem dX10_tablePlace_45 : decode cX10_tablePlace 45 = .ok (.iand, 1) := by decide +kernel
theorem dX10_tablePlace_46 : decode cX10_tablePlace 46 = .ok (.istore_n 2, 1) := by decide +kernel
theorem dX10_tablePlace_47 : decode cX10_tablePlace 47 = .ok (.sipush 1024, 3) := by decide +kernel
theorem dX10_tablePlace_50 : decode cX10_tablePlace 50 = .ok (.iload_n 2, 1) := by decide +kernel
theorem dX10_tablePlace_51 : decode cX10_tablePlace 51 = .ok (.imul, 1) := by decide +kernel
theorem dX10_tablePlace_52 : decode cX10_tablePlace 52 = .ok (.iload_n 1, 1) := by decide +kernel
theorem dX10_tablePlace_53 : decode cX10_tablePlace 53 = .ok (.sipush 1023, 3) := by decide +kernel
theorem dX10_tablePlace_56 : decode cX10_tablePlace 56 = .ok (.iand, 1) := by decide +kernel
theorem dX10_tablePlace_57 : decode cX10_tablePlace 57 = .ok (.iadd, 1) := by decide +kernel
theorem dX10_tablePlace_58 : decode cX10_tablePlace 58 = .ok (.ireturn, 1) := by decide +kernel
theorem dX10_palettePlace_0 : decode cX10_palettePlace 0 = .ok (.iload_n 0, 1) := by decide +kernel
theorem dX10_palettePlace_1 : decode cX10_palettePlace 1 = .ok (.bipush 31, 2) := by decide +kernel
theorem dX10_palettePlace_3 : decode cX10_palettePlace 3 = .ok (.iand, 1) := by decide +kernel
theorem dX10_palettePlace_4 : decode cX10_palettePlace 4 = .ok (.istore_n 1, 1) := by decide +kernel
theorem dX10_palettePlace_5 : decode cX10_palettePlace 5 = .ok (.iload_n 1, 1) := by decide +kernel
theorem dX10_palettePlace_6 : decode cX10_palettePlace 6 = .ok (.bipush 19, 2) := by decide +kernel
theorem dX10_palettePlace_8 : decode cX10_palettePlace 8 = .ok (.iand, 1) := by decide +kernel
theorem dX10_palettePlace_9 : decode cX10_palettePlace 9 = .ok (.bipush 16, 2) := by decide +kernel
theorem dX10_palettePlace_11 : decode cX10_palettePlace 11 = .ok (.if_icmp .ne 10, 3) := by decide +kernel
theorem dX10_palettePlace_14 : decode cX10_palettePlace 14 = .ok (.iload_n 1, 1) := by decide +kernel
theorem dX10_palettePlace_15 : decode cX10_palettePlace 15 = .ok (.bipush 16, 2) := by decide +kernel
theorem dX10_palettePlace_17 : decode cX10_palettePlace 17 = .ok (.isub, 1) := by decide +kernel
theorem dX10_palettePlace_18 : decode cX10_palettePlace 18 = .ok (.goto 4, 3) := by decide +kernel
theorem dX10_palettePlace_21 : decode cX10_palettePlace 21 = .ok (.iload_n 1, 1) := by decide +kernel
theorem dX10_palettePlace_22 : decode cX10_palettePlace 22 = .ok (.ireturn, 1) := by decide +kernel
theorem dX10_seen_0 : decode cX10_seen 0 = .ok (.iload_n 1, 1) := by decide +kernel
theorem dX10_seen_1 : decode cX10_seen 1 = .ok (.sipush 16383, 3) := by decide +kernel
theorem dX10_seen_4 : decode cX10_seen 4 = .ok (.iand, 1) := by decide +kernel
theorem dX10_seen_5 : decode cX10_seen 5 = .ok (.istore_n 2, 1) := by decide +kernel
theorem dX10_seen_6 : decode cX10_seen 6 = .ok (.iload_n 2, 1) := by decide +kernel
theorem dX10_seen_7 : decode cX10_seen 7 = .ok (.sipush 8192, 3) := by decide +kernel
theorem dX10_seen_10 : decode cX10_seen 10 = .ok (.if_icmp .ge 25, 3) := by decide +kernel
theorem dX10_seen_13 : decode cX10_seen 13 = .ok (.aload_n 0, 1) := by decide +kernel
theorem dX10_seen_14 : decode cX10_seen 14 = .ok (.getfield 19, 3) := by decide +kernel
theorem dX10_seen_17 : decode cX10_seen 17 = .ok (.bipush 16, 2) := by decide +kernel
theorem dX10_seen_19 : decode cX10_seen 19 = .ok (.aload_n 0, 1) := by decide +kernel
theorem dX10_seen_20 : decode cX10_seen 20 = .ok (.iload_n 2, 1) := by decide +kernel
theorem dX10_seen_21 : decode cX10_seen 21 = .ok (.bipush 10, 2) := by decide +kernel
theorem dX10_seen_23 : decode cX10_seen 23 = .ok (.ishr, 1) := by decide +kernel
theorem dX10_seen_24 : decode cX10_seen 24 = .ok (.invokevirtual 94, 3) := by decide +kernel
theorem dX10_seen_27 : decode cX10_seen 27 = .ok (.imul, 1) := by decide +kernel
theorem dX10_seen_28 : decode cX10_seen 28 = .ok (.iload_n 2, 1) := by decide +kernel
theorem dX10_seen_29 : decode cX10_seen 29 = .ok (.bipush 15, 2) := by decide +kernel
theorem dX10_seen_31 : decode cX10_seen 31 = .ok (.iand, 1) := by decide +kernel
theorem dX10_seen_32 : decode cX10_seen 32 = .ok (.iadd, 1) := by decide +kernel
theorem dX10_seen_33 : decode cX10_seen 33 = .ok (.iaload, 1) := by decide +kernel
theorem dX10_seen_34 : decode cX10_seen 34 = .ok (.ireturn, 1) := by decide +kernel
theorem dX10_seen_35 : decode cX10_seen 35 = .ok (.iload_n 2, 1) := by decide +kernel
theorem dX10_seen_36 : decode cX10_seen 36 = .ok (.sipush 16128, 3) := by decide +kernel
theorem dX10_seen_39 : decode cX10_seen 39 = .ok (.if_icmp .ge 16, 3) := by decide +kernel
theorem dX10_seen_42 : decode cX10_seen 42 = .ok (.aload_n 0, 1) := by decide +kernel
theorem dX10_seen_43 : decode cX10_seen 43 = .ok (.getfield 29, 3) := by decide +kernel
theorem dX10_seen_46 : decode cX10_seen 46 = .ok (.aload_n 0, 1) := by decide +kernel
theorem dX10_seen_47 : decode cX10_seen 47 = .ok (.iload_n 2, 1) := by decide +kernel
theorem dX10_seen_48 : decode cX10_seen 48 = .ok (.invokevirtual 98, 3) := by decide +kernel
theorem dX10_seen_51 : decode cX10_seen 51 = .ok (.iaload, 1) := by decide +kernel
theorem dX10_seen_52 : decode cX10_seen 52 = .ok (.goto 12, 3) := by decide +kernel
theorem dX10_seen_55 : decode cX10_seen 55 = .ok (.aload_n 0, 1) := by decide +kernel
theorem dX10_seen_56 : decode cX10_seen 56 = .ok (.getfield 32, 3) := by decide +kernel
theorem dX10_seen_59 : decode cX10_seen 59 = .ok (.iload_n 2, 1) := by decide +kernel
theorem dX10_seen_60 : decode cX10_seen 60 = .ok (.invokestatic 101, 3) := by decide +kernel
theorem dX10_seen_63 : decode cX10_seen 63 = .ok (.iaload, 1) := by decide +kernel
theorem dX10_seen_64 : decode cX10_seen 64 = .ok (.ireturn, 1) := by decide +kernel
theorem dX10_keep_0 : decode cX10_keep 0 = .ok (.iload_n 1, 1) := by decide +kernel
theorem dX10_keep_1 : decode cX10_keep 1 = .ok (.sipush 16383, 3) := by decide +kernel
theorem dX10_keep_4 : decode cX10_keep 4 = .ok (.iand, 1) := by decide +kernel
theorem dX10_keep_5 : decode cX10_keep 5 = .ok (.istore_n 3, 1) := by decide +kernel
theorem dX10_keep_6 : decode cX10_keep 6 = .ok (.iload_n 3, 1) := by decide +kernel
theorem dX10_keep_7 : decode cX10_keep 7 = .ok (.sipush 16128, 3) := by decide +kernel
theorem dX10_keep_10 : decode cX10_keep 10 = .ok (.if_icmp .lt 16, 3) := by decide +kernel
theorem dX10_keep_13 : decode cX10_keep 13 = .ok (.aload_n 0, 1) := by decide +kernel
theorem dX10_keep_14 : decode cX10_keep 14 = .ok (.getfield 32, 3) := by decide +kernel
theorem dX10_keep_17 : decode cX10_keep 17 = .ok (.iload_n 3, 1) := by decide +kernel
theorem dX10_keep_18 : decode cX10_keep 18 = .ok (.invokestatic 101, 3) := by decide +kernel
theorem dX10_keep_21 : decode cX10_keep 21 = .ok (.iload_n 2, 1) := by decide +kernel
theorem dX10_keep_22 : decode cX10_keep 22 = .ok (.iastore, 1) := by decide +kernel
theorem dX10_keep_23 : decode cX10_keep 23 = .ok (.goto 21, 3) := by decide +kernel
theorem dX10_keep_26 : decode cX10_keep 26 = .ok (.iload_n 3, 1) := by decide +kernel
theorem dX10_keep_27 : decode cX10_keep 27 = .ok (.sipush 8192, 3) := by decide +kernel
theorem dX10_keep_30 : decode cX10_keep 30 = .ok (.if_icmp .lt 14, 3) := by decide +kernel
theorem dX10_keep_33 : decode cX10_keep 33 = .ok (.aload_n 0, 1) := by decide +kernel
theorem dX10_keep_34 : decode cX10_keep 34 = .ok (.getfield 29, 3) := by decide +kernel
theorem dX10_keep_37 : decode cX10_keep 37 = .ok (.aload_n 0, 1) := by decide +kernel
theorem dX10_keep_38 : decode cX10_keep 38 = .ok (.iload_n 3, 1) := by decide +kernel
theorem dX10_keep_39 : decode cX10_keep 39 = .ok (.invokevirtual 98, 3) := by decide +kernel
theorem dX10_keep_42 : decode cX10_keep 42 = .ok (.iload_n 2, 1) := by decide +kernel
theorem dX10_keep_43 : decode cX10_keep 43 = .ok (.iastore, 1) := by decide +kernel
theorem dX10_keep_44 : decode cX10_keep 44 = .ok (.return_, 1) := by decide +kernel
theorem dX10_goOn_0 : decode cX10_goOn 0 = .ok (.aload_n 0, 1) := by decide +kernel
theorem dX10_goOn_1 : decode cX10_goOn 1 = .ok (.aload_n 0, 1) := by decide +kernel
theorem dX10_goOn_2 : decode cX10_goOn 2 = .ok (.getfield 104, 3) := by decide +kernel
theorem dX10_goOn_5 : decode cX10_goOn 5 = .ok (.aload_n 0, 1) := by decide +kernel
theorem dX10_goOn_6 : decode cX10_goOn 6 = .ok (.getfield 107, 3) := by decide +kernel
theorem dX10_goOn_9 : decode cX10_goOn 9 = .ok (.iconst 4, 1) := by decide +kernel
theorem dX10_goOn_10 : decode cX10_goOn 10 = .ok (.iand, 1) := by decide +kernel
theorem dX10_goOn_11 : decode cX10_goOn 11 = .ok (.ifCond .eq 8, 3) := by decide +kernel
theorem dX10_goOn_14 : decode cX10_goOn 14 = .ok (.bipush 32, 2) := by decide +kernel
theorem dX10_goOn_16 : decode cX10_goOn 16 = .ok (.goto 4, 3) := by decide +kernel
theorem dX10_goOn_19 : decode cX10_goOn 19 = .ok (.iconst 1, 1) := by decide +kernel
theorem dX10_goOn_20 : decode cX10_goOn 20 = .ok (.iadd, 1) := by decide +kernel
theorem dX10_goOn_21 : decode cX10_goOn 21 = .ok (.sipush 32767, 3) := by decide +kernel
theorem dX10_goOn_24 : decode cX10_goOn 24 = .ok (.iand, 1) := by decide +kernel
theorem dX10_goOn_25 : decode cX10_goOn 25 = .ok (.putfield 104, 3) := by decide +kernel
theorem dX10_goOn_28 : decode cX10_goOn 28 = .ok (.return_, 1) := by decide +kernel
theorem dX10_readPicture_0 : decode cX10_readPicture 0 = .ok (.iconst 0, 1) := by decide +kernel
theorem dX10_readPicture_1 : decode cX10_readPicture 1 = .ok (.istore_n 2, 1) := by decide +kernel
theorem dX10_readPicture_2 : decode cX10_readPicture 2 = .ok (.iload_n 1, 1) := by decide +kernel
theorem dX10_readPicture_3 : decode cX10_readPicture 3 = .ok (.iconst 2, 1) := by decide +kernel
theorem dX10_readPicture_4 : decode cX10_readPicture 4 = .ok (.if_icmp .ne 24, 3) := by decide +kernel
theorem dX10_readPicture_7 : decode cX10_readPicture 7 = .ok (.aload_n 0, 1) := by decide +kernel
theorem dX10_readPicture_8 : decode cX10_readPicture 8 = .ok (.getfield 110, 3) := by decide +kernel
theorem dX10_readPicture_11 : decode cX10_readPicture 11 = .ok (.bipush 7, 2) := by decide +kernel
theorem dX10_readPicture_13 : decode cX10_readPicture 13 = .ok (.ishl, 1) := by decide +kernel
theorem dX10_readPicture_14 : decode cX10_readPicture 14 = .ok (.istore_n 2, 1) := by decide +kernel
theorem dX10_readPicture_15 : decode cX10_readPicture 15 = .ok (.aload_n 0, 1) := by decide +kernel
theorem dX10_readPicture_16 : decode cX10_readPicture 16 = .ok (.iconst 0, 1) := by decide +kernel
theorem dX10_readPicture_17 : decode cX10_readPicture 17 = .ok (.putfield 110, 3) := by decide +kernel
theorem dX10_readPicture_20 : decode cX10_readPicture 20 = .ok (.aload_n 0, 1) := by decide +kernel
theorem dX10_readPicture_21 : decode cX10_readPicture 21 = .ok (.iconst 0, 1) := by decide +kernel
theorem dX10_readPicture_22 : decode cX10_readPicture 22 = .ok (.putfield 113, 3) := by decide +kernel
theorem dX10_readPicture_25 : decode cX10_readPicture 25 = .ok (.goto 107, 3) := by decide +kernel
theorem dX10_readPicture_28 : decode cX10_readPicture 28 = .ok (.iload_n 1, 1) := by decide +kernel
theorem dX10_readPicture_29 : decode cX10_readPicture 29 = .ok (.iconst 4, 1) := by decide +kernel
theorem dX10_readPicture_30 : decode cX10_readPicture 30 = .ok (.if_icmp .ne 16, 3) := by decide +kernel
theorem dX10_readPicture_33 : decode cX10_readPicture 33 = .ok (.aload_n 0, 1) := by decide +kernel
theorem dX10_readPicture_34 : decode cX10_readPicture 34 = .ok (.getfield 26, 3) := by decide +kernel
theorem dX10_readPicture_37 : decode cX10_readPicture 37 = .ok (.aload_n 0, 1) := by decide +kernel
theorem dX10_readPicture_38 : decode cX10_readPicture 38 = .ok (.getfield 116, 3) := by decide +kernel
theorem dX10_readPicture_41 : decode cX10_readPicture 41 = .ok (.iaload, 1) := by decide +kernel
theorem dX10_readPicture_42 : decode cX10_readPicture 42 = .ok (.istore_n 2, 1) := by decide +kernel
theorem dX10_readPicture_43 : decode cX10_readPicture 43 = .ok (.goto 89, 3) := by decide +kernel
theorem dX10_readPicture_46 : decode cX10_readPicture 46 = .ok (.iload_n 1, 1) := by decide +kernel
theorem dX10_readPicture_47 : decode cX10_readPicture 47 = .ok (.bipush 7, 2) := by decide +kernel
theorem dX10_readPicture_49 : decode cX10_readPicture 49 = .ok (.if_icmp .ne 83, 3) := by decide +kernel
theorem dX10_readPicture_52 : decode cX10_readPicture 52 = .ok (.aload_n 0, 1) := by decide +kernel
theorem dX10_readPicture_53 : decode cX10_readPicture 53 = .ok (.getfield 104, 3) := by decide +kernel
theorem dX10_readPicture_56 : decode cX10_readPicture 56 = .ok (.sipush 16383, 3) := by decide +kernel
theorem dX10_readPicture_59 : decode cX10_readPicture 59 = .ok (.iand, 1) := by decide +kernel
theorem dX10_readPicture_60 : decode cX10_readPicture 60 = .ok (.sipush 16128, 3) := by decide +kernel
theorem dX10_readPicture_63 : decode cX10_readPicture 63 = .ok (.if_icmp .lt 7, 3) := by decide +kernel
theorem dX10_readPicture_66 : decode cX10_readPicture 66 = .ok (.iconst 1, 1) := by decide +kernel
theorem dX10_readPicture_67 : decode cX10_readPicture 67 = .ok (.goto 4, 3) := by decide +kernel
theorem dX10_readPicture_70 : decode cX10_readPicture 70 = .ok (.iconst 0, 1) := by decide +kernel
theorem dX10_readPicture_71 : decode cX10_readPicture 71 = .ok (.istore_n 3, 1) := by decide +kernel
theorem dX10_readPicture_72 : decode cX10_readPicture 72 = .ok (.iload_n 3, 1) := by decide +kernel
theorem dX10_readPicture_73 : decode cX10_readPicture 73 = .ok (.ifCond .eq 14, 3) := by decide +kernel
theorem dX10_readPicture_76 : decode cX10_readPicture 76 = .ok (.aload_n 0, 1) := by decide +kernel
theorem dX10_readPicture_77 : decode cX10_readPicture 77 = .ok (.aload_n 0, 1) := by decide +kernel
theorem dX10_readPicture_78 : decode cX10_readPicture 78 = .ok (.getfield 104, 3) := by decide +kernel
theorem dX10_readPicture_81 : decode cX10_readPicture 81 = .ok (.invokevirtual 119, 3) := by decide +kernel
theorem dX10_readPicture_84 : decode cX10_readPicture 84 = .ok (.goto 7, 3) := by decide +kernel
theorem dX10_readPicture_87 : decode cX10_readPicture 87 = .ok (.aload_n 0, 1) := by decide +kernel
theorem dX10_readPicture_88 : decode cX10_readPicture 88 = .ok (.getfield 122, 3) := by decide +kernel
theorem dX10_readPicture_91 : decode cX10_readPicture 91 = .ok (.istore_n 2, 1) := by decide +kernel
theorem dX10_readPicture_92 : decode cX10_readPicture 92 = .ok (.aload_n 0, 1) := by decide +kernel
theorem dX10_readPicture_93 : decode cX10_readPicture 93 = .ok (.iload_n 3, 1) := by decide +kernel
theorem dX10_readPicture_94 : decode cX10_readPicture 94 = .ok (.ifCond .eq 23, 3) := by decide +kernel
theorem dX10_readPicture_97 : decode cX10_readPicture 97 = .ok (.aload_n 0, 1) := by decide +kernel
theorem dX10_readPicture_98 : decode cX10_readPicture 98 = .ok (.getfield 29, 3) := by decide +kernel
theorem dX10_readPicture_101 : decode cX10_readPicture 101 = .ok (.aload_n 0, 1) := by decide +kernel
theorem dX10_readPicture_102 : decode cX10_readPicture 102 = .ok (.aload_n 0, 1) := by decide +kernel
theorem dX10_readPicture_103 : decode cX10_readPicture 103 = .ok (.getfield 104, 3) := by decide +kernel
theorem dX10_readPicture_106 : decode cX10_readPicture 106 = .ok (.sipush 16383, 3) := by decide +kernel
theorem dX10_readPicture_109 : decode cX10_readPicture 109 = .ok (.iand, 1) := by decide +kernel
theorem dX10_readPicture_110 : decode cX10_readPicture 110 = .ok (.invokevirtual 98, 3) := by decide +kernel
theorem dX10_readPicture_113 : decode cX10_readPicture 113 = .ok (.iaload, 1) := by decide +kernel
theorem dX10_readPicture_114 : decode cX10_readPicture 114 = .ok (.goto 11, 3) := by decide +kernel
theorem dX10_readPicture_117 : decode cX10_readPicture 117 = .ok (.aload_n 0, 1) := by decide +kernel
theorem dX10_readPicture_118 : decode cX10_readPicture 118 = .ok (.aload_n 0, 1) := by decide +kernel
theorem dX10_readPicture_119 : decode cX10_readPicture 119 = .ok (.getfield 104, 3) := by decide +kernel
theorem dX10_readPicture_122 : decode cX10_readPicture 122 = .ok (.invokevirtual 119, 3) := by decide +kernel
theorem dX10_readPicture_125 : decode cX10_readPicture 125 = .ok (.putfield 122, 3) := by decide +kernel
theorem dX10_readPicture_128 : decode cX10_readPicture 128 = .ok (.aload_n 0, 1) := by decide +kernel
theorem dX10_readPicture_129 : decode cX10_readPicture 129 = .ok (.invokevirtual 125, 3) := by decide +kernel
theorem dX10_readPicture_132 : decode cX10_readPicture 132 = .ok (.iload_n 2, 1) := by decide +kernel
theorem dX10_readPicture_133 : decode cX10_readPicture 133 = .ok (.ireturn, 1) := by decide +kernel
theorem dX10_writePicture_0 : decode cX10_writePicture 0 = .ok (.iload_n 1, 1) := by decide +kernel
theorem dX10_writePicture_1 : decode cX10_writePicture 1 = .ok (.tableswitch 302 0 7 #[47, 102, 302, 110, 118, 145, 221, 286], 47) := by decide +kernel
theorem dX10_writePicture_48 : decode cX10_writePicture 48 = .ok (.aload_n 0, 1) := by decide +kernel
theorem dX10_writePicture_49 : decode cX10_writePicture 49 = .ok (.getfield 110, 3) := by decide +kernel
theorem dX10_writePicture_52 : decode cX10_writePicture 52 = .ok (.iconst 1, 1) := by decide +kernel
theorem dX10_writePicture_53 : decode cX10_writePicture 53 = .ok (.if_icmp .ne 23, 3) := by decide +kernel
theorem dX10_writePicture_56 : decode cX10_writePicture 56 = .ok (.iload_n 2, 1) := by decide +kernel
theorem dX10_writePicture_57 : decode cX10_writePicture 57 = .ok (.aload_n 0, 1) := by decide +kernel
theorem dX10_writePicture_58 : decode cX10_writePicture 58 = .ok (.getfield 107, 3) := by decide +kernel
theorem dX10_writePicture_61 : decode cX10_writePicture 61 = .ok (.iconst (-1), 1) := by decide +kernel
theorem dX10_writePicture_62 : decode cX10_writePicture 62 = .ok (.ixor, 1) := by decide +kernel
theorem dX10_writePicture_63 : decode cX10_writePicture 63 = .ok (.iand, 1) := by decide +kernel
theorem dX10_writePicture_64 : decode cX10_writePicture 64 = .ok (.sipush 128, 3) := by decide +kernel
theorem dX10_writePicture_67 : decode cX10_writePicture 67 = .ok (.iand, 1) := by decide +kernel
theorem dX10_writePicture_68 : decode cX10_writePicture 68 = .ok (.ifCond .eq 8, 3) := by decide +kernel
theorem dX10_writePicture_71 : decode cX10_writePicture 71 = .ok (.aload_n 0, 1) := by decide +kernel
theorem dX10_writePicture_72 : decode cX10_writePicture 72 = .ok (.iconst 1, 1) := by decide +kernel
theorem dX10_writePicture_73 : decode cX10_writePicture 73 = .ok (.putfield 128, 3) := by decide +kernel
theorem dX10_writePicture_76 : decode cX10_writePicture 76 = .ok (.aload_n 0, 1) := by decide +kernel
theorem dX10_writePicture_77 : decode cX10_writePicture 77 = .ok (.iload_n 2, 1) := by decide +kernel
theorem dX10_writePicture_78 : decode cX10_writePicture 78 = .ok (.putfield 107, 3) := by decide +kernel
theorem dX10_writePicture_81 : decode cX10_writePicture 81 = .ok (.aload_n 0, 1) := by decide +kernel
theorem dX10_writePicture_82 : decode cX10_writePicture 82 = .ok (.aload_n 0, 1) := by decide +kernel
theorem dX10_writePicture_83 : decode cX10_writePicture 83 = .ok (.getfield 131, 3) := by decide +kernel
theorem dX10_writePicture_86 : decode cX10_writePicture 86 = .ok (.sipush (-3073), 3) := by decide +kernel
theorem dX10_writePicture_89 : decode cX10_writePicture 89 = .ok (.iand, 1) := by decide +kernel
theorem dX10_writePicture_90 : decode cX10_writePicture 90 = .ok (.iload_n 2, 1) := by decide +kernel
theorem dX10_writePicture_91 : decode cX10_writePicture 91 = .ok (.iconst 3, 1) := by decide +kernel
theorem dX10_writePicture_92 : decode cX10_writePicture 92 = .ok (.iand, 1) := by decide +kernel
theorem dX10_writePicture_93 : decode cX10_writePicture 93 = .ok (.bipush 10, 2) := by decide +kernel
theorem dX10_writePicture_95 : decode cX10_writePicture 95 = .ok (.ishl, 1) := by decide +kernel
theorem dX10_writePicture_96 : decode cX10_writePicture 96 = .ok (.ior, 1) := by decide +kernel
theorem dX10_writePicture_97 : decode cX10_writePicture 97 = .ok (.putfield 131, 3) := by decide +kernel
theorem dX10_writePicture_100 : decode cX10_writePicture 100 = .ok (.goto 203, 3) := by decide +kernel
theorem dX10_writePicture_103 : decode cX10_writePicture 103 = .ok (.aload_n 0, 1) := by decide +kernel
theorem dX10_writePicture_104 : decode cX10_writePicture 104 = .ok (.iload_n 2, 1) := by decide +kernel
theorem dX10_writePicture_105 : decode cX10_writePicture 105 = .ok (.putfield 134, 3) := by decide +kernel
theorem dX10_writePicture_108 : decode cX10_writePicture 108 = .ok (.goto 195, 3) := by decide +kernel
theorem dX10_writePicture_111 : decode cX10_writePicture 111 = .ok (.aload_n 0, 1) := by decide +kernel
theorem dX10_writePicture_112 : decode cX10_writePicture 112 = .ok (.iload_n 2, 1) := by decide +kernel
theorem dX10_writePicture_113 : decode cX10_writePicture 113 = .ok (.putfield 116, 3) := by decide +kernel
theorem dX10_writePicture_116 : decode cX10_writePicture 116 = .ok (.goto 187, 3) := by decide +kernel
theorem dX10_writePicture_119 : decode cX10_writePicture 119 = .ok (.aload_n 0, 1) := by decide +kernel
theorem dX10_writePicture_120 : decode cX10_writePicture 120 = .ok (.getfield 26, 3) := by decide +kernel
theorem dX10_writePicture_123 : decode cX10_writePicture 123 = .ok (.aload_n 0, 1) := by decide +kernel
theorem dX10_writePicture_124 : decode cX10_writePicture 124 = .ok (.getfield 116, 3) := by decide +kernel
theorem dX10_writePicture_127 : decode cX10_writePicture 127 = .ok (.iload_n 2, 1) := by decide +kernel
theorem dX10_writePicture_128 : decode cX10_writePicture 128 = .ok (.iastore, 1) := by decide +kernel
theorem dX10_writePicture_129 : decode cX10_writePicture 129 = .ok (.aload_n 0, 1) := by decide +kernel
theorem dX10_writePicture_130 : decode cX10_writePicture 130 = .ok (.aload_n 0, 1) := by decide +kernel
theorem dX10_writePicture_131 : decode cX10_writePicture 131 = .ok (.getfield 116, 3) := by decide +kernel
theorem dX10_writePicture_134 : decode cX10_writePicture 134 = .ok (.iconst 1, 1) := by decide +kernel
theorem dX10_writePicture_135 : decode cX10_writePicture 135 = .ok (.iadd, 1) := by decide +kernel
theorem dX10_writePicture_136 : decode cX10_writePicture 136 = .ok (.sipush 255, 3) := by decide +kernel
theorem dX10_writePicture_139 : decode cX10_writePicture 139 = .ok (.iand, 1) := by decide +kernel
theorem dX10_writePicture_140 : decode cX10_writePicture 140 = .ok (.putfield 116, 3) := by decide +kernel
theorem dX10_writePicture_143 : decode cX10_writePicture 143 = .ok (.goto 160, 3) := by decide +kernel
theorem dX10_writePicture_146 : decode cX10_writePicture 146 = .ok (.aload_n 0, 1) := by decide +kernel
theorem dX10_writePicture_147 : decode cX10_writePicture 147 = .ok (.getfield 113, 3) := by decide +kernel
theorem dX10_writePicture_150 : decode cX10_writePicture 150 = .ok (.ifCond .ne 29, 3) := by decide +kernel
theorem dX10_writePicture_153 : decode cX10_writePicture 153 = .ok (.aload_n 0, 1) := by decide +kernel
theorem dX10_writePicture_154 : decode cX10_writePicture 154 = .ok (.aload_n 0, 1) := by decide +kernel
theorem dX10_writePicture_155 : decode cX10_writePicture 155 = .ok (.getfield 131, 3) := by decide +kernel
theorem dX10_writePicture_158 : decode cX10_writePicture 158 = .ok (.bipush (-32), 2) := by decide +kernel
theorem dX10_writePicture_160 : decode cX10_writePicture 160 = .ok (.iand, 1) := by decide +kernel
theorem dX10_writePicture_161 : decode cX10_writePicture 161 = .ok (.iload_n 2, 1) := by decide +kernel
theorem dX10_writePicture_162 : decode cX10_writePicture 162 = .ok (.iconst 3, 1) := by decide +kernel
theorem dX10_writePicture_163 : decode cX10_writePicture 163 = .ok (.ishr, 1) := by decide +kernel
theorem dX10_writePicture_164 : decode cX10_writePicture 164 = .ok (.ior, 1) := by decide +kernel
theorem dX10_writePicture_165 : decode cX10_writePicture 165 = .ok (.putfield 131, 3) := by decide +kernel
theorem dX10_writePicture_168 : decode cX10_writePicture 168 = .ok (.aload_n 0, 1) := by decide +kernel
theorem dX10_writePicture_169 : decode cX10_writePicture 169 = .ok (.iload_n 2, 1) := by decide +kernel
theorem dX10_writePicture_170 : decode cX10_writePicture 170 = .ok (.bipush 7, 2) := by decide +kernel
theorem dX10_writePicture_172 : decode cX10_writePicture 172 = .ok (.iand, 1) := by decide +kernel
theorem dX10_writePicture_173 : decode cX10_writePicture 173 = .ok (.putfield 137, 3) := by decide +kernel
theorem dX10_writePicture_176 : decode cX10_writePicture 176 = .ok (.goto 33, 3) := by decide +kernel
theorem dX10_writePicture_179 : decode cX10_writePicture 179 = .ok (.aload_n 0, 1) := by decide +kernel
theorem dX10_writePicture_180 : decode cX10_writePicture 180 = .ok (.aload_n 0, 1) := by decide +kernel
theorem dX10_writePicture_181 : decode cX10_writePicture 181 = .ok (.getfield 131, 3) := by decide +kernel
theorem dX10_writePicture_184 : decode cX10_writePicture 184 = .ok (.sipush (-29665), 3) := by decide +kernel
theorem dX10_writePicture_187 : decode cX10_writePicture 187 = .ok (.iand, 1) := by decide +kernel
theorem dX10_writePicture_188 : decode cX10_writePicture 188 = .ok (.sipush 32767, 3) := by decide +kernel
theorem dX10_writePicture_191 : decode cX10_writePicture 191 = .ok (.iand, 1) := by decide +kernel
theorem dX10_writePicture_192 : decode cX10_writePicture 192 = .ok (.iload_n 2, 1) := by decide +kernel
theorem dX10_writePicture_193 : decode cX10_writePicture 193 = .ok (.bipush 7, 2) := by decide +kernel
theorem dX10_writePicture_195 : decode cX10_writePicture 195 = .ok (.iand, 1) := by decide +kernel
theorem dX10_writePicture_196 : decode cX10_writePicture 196 = .ok (.bipush 12, 2) := by decide +kernel
theorem dX10_writePicture_198 : decode cX10_writePicture 198 = .ok (.ishl, 1) := by decide +kernel
theorem dX10_writePicture_199 : decode cX10_writePicture 199 = .ok (.ior, 1) := by decide +kernel
theorem dX10_writePicture_200 : decode cX10_writePicture 200 = .ok (.iload_n 2, 1) := by decide +kernel
theorem dX10_writePicture_201 : decode cX10_writePicture 201 = .ok (.iconst 3, 1) := by decide +kernel
theorem dX10_writePicture_202 : decode cX10_writePicture 202 = .ok (.ishr, 1) := by decide +kernel
theorem dX10_writePicture_203 : decode cX10_writePicture 203 = .ok (.iconst 5, 1) := by decide +kernel
theorem dX10_writePicture_204 : decode cX10_writePicture 204 = .ok (.ishl, 1) := by decide +kernel
theorem dX10_writePicture_205 : decode cX10_writePicture 205 = .ok (.ior, 1) := by decide +kernel
theorem dX10_writePicture_206 : decode cX10_writePicture 206 = .ok (.putfield 131, 3) := by decide +kernel
theorem dX10_writePicture_209 : decode cX10_writePicture 209 = .ok (.aload_n 0, 1) := by decide +kernel
theorem dX10_writePicture_210 : decode cX10_writePicture 210 = .ok (.iconst 1, 1) := by decide +kernel
theorem dX10_writePicture_211 : decode cX10_writePicture 211 = .ok (.aload_n 0, 1) := by decide +kernel
theorem dX10_writePicture_212 : decode cX10_writePicture 212 = .ok (.getfield 113, 3) := by decide +kernel
theorem dX10_writePicture_215 : decode cX10_writePicture 215 = .ok (.isub, 1) := by decide +kernel
theorem dX10_writePicture_216 : decode cX10_writePicture 216 = .ok (.putfield 113, 3) := by decide +kernel
theorem dX10_writePicture_219 : decode cX10_writePicture 219 = .ok (.goto 84, 3) := by decide +kernel
theorem dX10_writePicture_222 : decode cX10_writePicture 222 = .ok (.aload_n 0, 1) := by decide +kernel
theorem dX10_writePicture_223 : decode cX10_writePicture 223 = .ok (.getfield 113, 3) := by decide +kernel
theorem dX10_writePicture_226 : decode cX10_writePicture 226 = .ok (.ifCond .ne 26, 3) := by decide +kernel
theorem dX10_writePicture_229 : decode cX10_writePicture 229 = .ok (.aload_n 0, 1) := by decide +kernel
theorem dX10_writePicture_230 : decode cX10_writePicture 230 = .ok (.aload_n 0, 1) := by decide +kernel
theorem dX10_writePicture_231 : decode cX10_writePicture 231 = .ok (.getfield 131, 3) := by decide +kernel
theorem dX10_writePicture_234 : decode cX10_writePicture 234 = .ok (.sipush 255, 3) := by decide +kernel
theorem dX10_writePicture_237 : decode cX10_writePicture 237 = .ok (.iand, 1) := by decide +kernel
theorem dX10_writePicture_238 : decode cX10_writePicture 238 = .ok (.iload_n 2, 1) := by decide +kernel
theorem dX10_writePicture_239 : decode cX10_writePicture 239 = .ok (.bipush 63, 2) := by decide +kernel
theorem dX10_writePicture_241 : decode cX10_writePicture 241 = .ok (.iand, 1) := by decide +kernel
theorem dX10_writePicture_242 : decode cX10_writePicture 242 = .ok (.bipush 8, 2) := by decide +kernel
theorem dX10_writePicture_244 : decode cX10_writePicture 244 = .ok (.ishl, 1) := by decide +kernel
theorem dX10_writePicture_245 : decode cX10_writePicture 245 = .ok (.ior, 1) := by decide +kernel
theorem dX10_writePicture_246 : decode cX10_writePicture 246 = .ok (.putfield 131, 3) := by decide +kernel
theorem dX10_writePicture_249 : decode cX10_writePicture 249 = .ok (.goto 25, 3) := by decide +kernel
theorem dX10_writePicture_252 : decode cX10_writePicture 252 = .ok (.aload_n 0, 1) := by decide +kernel
theorem dX10_writePicture_253 : decode cX10_writePicture 253 = .ok (.aload_n 0, 1) := by decide +kernel
theorem dX10_writePicture_254 : decode cX10_writePicture 254 = .ok (.getfield 131, 3) := by decide +kernel
theorem dX10_writePicture_257 : decode cX10_writePicture 257 = .ok (.sipush (-256), 3) := by decide +kernel
theorem dX10_writePicture_260 : decode cX10_writePicture 260 = .ok (.iand, 1) := by decide +kernel
theorem dX10_writePicture_261 : decode cX10_writePicture 261 = .ok (.iload_n 2, 1) := by decide +kernel
theorem dX10_writePicture_262 : decode cX10_writePicture 262 = .ok (.ior, 1) := by decide +kernel
theorem dX10_writePicture_263 : decode cX10_writePicture 263 = .ok (.putfield 131, 3) := by decide +kernel
theorem dX10_writePicture_266 : decode cX10_writePicture 266 = .ok (.aload_n 0, 1) := by decide +kernel
theorem dX10_writePicture_267 : decode cX10_writePicture 267 = .ok (.aload_n 0, 1) := by decide +kernel
theorem dX10_writePicture_268 : decode cX10_writePicture 268 = .ok (.getfield 131, 3) := by decide +kernel
theorem dX10_writePicture_271 : decode cX10_writePicture 271 = .ok (.putfield 104, 3) := by decide +kernel
theorem dX10_writePicture_274 : decode cX10_writePicture 274 = .ok (.aload_n 0, 1) := by decide +kernel
theorem dX10_writePicture_275 : decode cX10_writePicture 275 = .ok (.iconst 1, 1) := by decide +kernel
theorem dX10_writePicture_276 : decode cX10_writePicture 276 = .ok (.aload_n 0, 1) := by decide +kernel
theorem dX10_writePicture_277 : decode cX10_writePicture 277 = .ok (.getfield 113, 3) := by decide +kernel
theorem dX10_writePicture_280 : decode cX10_writePicture 280 = .ok (.isub, 1) := by decide +kernel
theorem dX10_writePicture_281 : decode cX10_writePicture 281 = .ok (.putfield 113, 3) := by decide +kernel
theorem dX10_writePicture_284 : decode cX10_writePicture 284 = .ok (.goto 19, 3) := by decide +kernel
theorem dX10_writePicture_287 : decode cX10_writePicture 287 = .ok (.aload_n 0, 1) := by decide +kernel
theorem dX10_writePicture_288 : decode cX10_writePicture 288 = .ok (.aload_n 0, 1) := by decide +kernel
theorem dX10_writePicture_289 : decode cX10_writePicture 289 = .ok (.getfield 104, 3) := by decide +kernel
theorem dX10_writePicture_292 : decode cX10_writePicture 292 = .ok (.iload_n 2, 1) := by decide +kernel
theorem dX10_writePicture_293 : decode cX10_writePicture 293 = .ok (.invokevirtual 140, 3) := by decide +kernel
theorem dX10_writePicture_296 : decode cX10_writePicture 296 = .ok (.aload_n 0, 1) := by decide +kernel
theorem dX10_writePicture_297 : decode cX10_writePicture 297 = .ok (.invokevirtual 125, 3) := by decide +kernel
theorem dX10_writePicture_300 : decode cX10_writePicture 300 = .ok (.goto 3, 3) := by decide +kernel
theorem dX10_writePicture_303 : decode cX10_writePicture 303 = .ok (.return_, 1) := by decide +kernel
theorem dX10_lengthOf_0 : decode cX10_lengthOf 0 = .ok (.iload_n 0, 1) := by decide +kernel
theorem dX10_lengthOf_1 : decode cX10_lengthOf 1 = .ok (.tableswitch 193 0 30 #[139, 142, 146, 193, 149, 193, 152, 193, 155, 193, 159, 193, 162, 193, 165, 193, 168, 193, 171, 193, 174, 193, 177, 193, 180, 193, 184, 193, 187, 193, 190], 139) := by decide +kernel
theorem dX10_lengthOf_140 : decode cX10_lengthOf 140 = .ok (.bipush 10, 2) := by decide +kernel
theorem dX10_lengthOf_142 : decode cX10_lengthOf 142 = .ok (.ireturn, 1) := by decide +kernel
theorem dX10_lengthOf_143 : decode cX10_lengthOf 143 = .ok (.sipush 254, 3) := by decide +kernel
theorem dX10_lengthOf_146 : decode cX10_lengthOf 146 = .ok (.ireturn, 1) := by decide +kernel
theorem dX10_lengthOf_147 : decode cX10_lengthOf 147 = .ok (.bipush 20, 2) := by decide +kernel
theorem dX10_lengthOf_149 : decode cX10_lengthOf 149 = .ok (.ireturn, 1) := by decide +kernel
theorem dX10_lengthOf_150 : decode cX10_lengthOf 150 = .ok (.bipush 40, 2) := by decide +kernel
theorem dX10_lengthOf_152 : decode cX10_lengthOf 152 = .ok (.ireturn, 1) := by decide +kernel
theorem dX10_lengthOf_153 : decode cX10_lengthOf 153 = .ok (.bipush 80, 2) := by decide +kernel
theorem dX10_lengthOf_155 : decode cX10_lengthOf 155 = .ok (.ireturn, 1) := by decide +kernel
theorem dX10_lengthOf_156 : decode cX10_lengthOf 156 = .ok (.sipush 160, 3) := by decide +kernel
theorem dX10_lengthOf_159 : decode cX10_lengthOf 159 = .ok (.ireturn, 1) := by decide +kernel
theorem dX10_lengthOf_160 : decode cX10_lengthOf 160 = .ok (.bipush 60, 2) := by decide +kernel
theorem dX10_lengthOf_162 : decode cX10_lengthOf 162 = .ok (.ireturn, 1) := by decide +kernel
theorem dX10_lengthOf_163 : decode cX10_lengthOf 163 = .ok (.bipush 14, 2) := by decide +kernel
theorem dX10_lengthOf_165 : decode cX10_lengthOf 165 = .ok (.ireturn, 1) := by decide +kernel
theorem dX10_lengthOf_166 : decode cX10_lengthOf 166 = .ok (.bipush 26, 2) := by decide +kernel
theorem dX10_lengthOf_168 : decode cX10_lengthOf 168 = .ok (.ireturn, 1) := by decide +kernel
theorem dX10_lengthOf_169 : decode cX10_lengthOf 169 = .ok (.bipush 12, 2) := by decide +kernel
theorem dX10_lengthOf_171 : decode cX10_lengthOf 171 = .ok (.ireturn, 1) := by decide +kernel
theorem dX10_lengthOf_172 : decode cX10_lengthOf 172 = .ok (.bipush 24, 2) := by decide +kernel
theorem dX10_lengthOf_174 : decode cX10_lengthOf 174 = .ok (.ireturn, 1) := by decide +kernel
theorem dX10_lengthOf_175 : decode cX10_lengthOf 175 = .ok (.bipush 48, 2) := by decide +kernel
theorem dX10_lengthOf_177 : decode cX10_lengthOf 177 = .ok (.ireturn, 1) := by decide +kernel
theorem dX10_lengthOf_178 : decode cX10_lengthOf 178 = .ok (.bipush 96, 2) := by decide +kernel
theorem dX10_lengthOf_180 : decode cX10_lengthOf 180 = .ok (.ireturn, 1) := by decide +kernel
theorem dX10_lengthOf_181 : decode cX10_lengthOf 181 = .ok (.sipush 192, 3) := by decide +kernel
theorem dX10_lengthOf_184 : decode cX10_lengthOf 184 = .ok (.ireturn, 1) := by decide +kernel
theorem dX10_lengthOf_185 : decode cX10_lengthOf 185 = .ok (.bipush 72, 2) := by decide +kernel
theorem dX10_lengthOf_187 : decode cX10_lengthOf 187 = .ok (.ireturn, 1) := by decide +kernel
theorem dX10_lengthOf_188 : decode cX10_lengthOf 188 = .ok (.bipush 16, 2) := by decide +kernel
theorem dX10_lengthOf_190 : decode cX10_lengthOf 190 = .ok (.ireturn, 1) := by decide +kernel
theorem dX10_lengthOf_191 : decode cX10_lengthOf 191 = .ok (.bipush 32, 2) := by decide +kernel
theorem dX10_lengthOf_193 : decode cX10_lengthOf 193 = .ok (.ireturn, 1) := by decide +kernel
theorem dX10_lengthOf_194 : decode cX10_lengthOf 194 = .ok (.iload_n 0, 1) := by decide +kernel
theorem dX10_lengthOf_195 : decode cX10_lengthOf 195 = .ok (.iconst 1, 1) := by decide +kernel
theorem dX10_lengthOf_196 : decode cX10_lengthOf 196 = .ok (.isub, 1) := by decide +kernel
theorem dX10_lengthOf_197 : decode cX10_lengthOf 197 = .ok (.ireturn, 1) := by decide +kernel
theorem dX10_count_0 : decode cX10_count 0 = .ok (.iconst 0, 1) := by decide +kernel
theorem dX10_count_1 : decode cX10_count 1 = .ok (.istore_n 1, 1) := by decide +kernel
theorem dX10_count_2 : decode cX10_count 2 = .ok (.iload_n 1, 1) := by decide +kernel
theorem dX10_count_3 : decode cX10_count 3 = .ok (.iconst 4, 1) := by decide +kernel
theorem dX10_count_4 : decode cX10_count 4 = .ok (.if_icmp .ge 37, 3) := by decide +kernel
theorem dX10_count_7 : decode cX10_count 7 = .ok (.aload_n 0, 1) := by decide +kernel
theorem dX10_count_8 : decode cX10_count 8 = .ok (.getfield 38, 3) := by decide +kernel
theorem dX10_count_11 : decode cX10_count 11 = .ok (.iload_n 1, 1) := by decide +kernel
theorem dX10_count_12 : decode cX10_count 12 = .ok (.iaload, 1) := by decide +kernel
theorem dX10_count_13 : decode cX10_count 13 = .ok (.ifCond .le 22, 3) := by decide +kernel
theorem dX10_count_16 : decode cX10_count 16 = .ok (.aload_n 0, 1) := by decide +kernel
theorem dX10_count_17 : decode cX10_count 17 = .ok (.getfield 41, 3) := by decide +kernel
theorem dX10_count_20 : decode cX10_count 20 = .ok (.iload_n 1, 1) := by decide +kernel
theorem dX10_count_21 : decode cX10_count 21 = .ok (.baload, 1) := by decide +kernel
theorem dX10_count_22 : decode cX10_count 22 = .ok (.ifCond .ne 13, 3) := by decide +kernel
theorem dX10_count_25 : decode cX10_count 25 = .ok (.aload_n 0, 1) := by decide +kernel
theorem dX10_count_26 : decode cX10_count 26 = .ok (.getfield 38, 3) := by decide +kernel
theorem dX10_count_29 : decode cX10_count 29 = .ok (.iload_n 1, 1) := by decide +kernel
theorem dX10_count_30 : decode cX10_count 30 = .ok (.dup2, 1) := by decide +kernel
theorem dX10_count_31 : decode cX10_count 31 = .ok (.iaload, 1) := by decide +kernel
theorem dX10_count_32 : decode cX10_count 32 = .ok (.iconst 1, 1) := by decide +kernel
theorem dX10_count_33 : decode cX10_count 33 = .ok (.isub, 1) := by decide +kernel
theorem dX10_count_34 : decode cX10_count 34 = .ok (.iastore, 1) := by decide +kernel
theorem dX10_count_35 : decode cX10_count 35 = .ok (.iinc 1 1, 3) := by decide +kernel
theorem dX10_count_38 : decode cX10_count 38 = .ok (.goto (-36), 3) := by decide +kernel
theorem dX10_count_41 : decode cX10_count 41 = .ok (.return_, 1) := by decide +kernel
theorem dX10_writeSound_0 : decode cX10_writeSound 0 = .ok (.iload_n 1, 1) := by decide +kernel
theorem dX10_writeSound_1 : decode cX10_writeSound 1 = .ok (.iconst 2, 1) := by decide +kernel
theorem dX10_writeSound_2 : decode cX10_writeSound 2 = .ok (.ishr, 1) := by decide +kernel
theorem dX10_writeSound_3 : decode cX10_writeSound 3 = .ok (.istore_n 3, 1) := by decide +kernel
theorem dX10_writeSound_4 : decode cX10_writeSound 4 = .ok (.iload_n 1, 1) := by decide +kernel
theorem dX10_writeSound_5 : decode cX10_writeSound 5 = .ok (.bipush 16, 2) := by decide +kernel
theorem dX10_writeSound_7 : decode cX10_writeSound 7 = .ok (.if_icmp .ge 72, 3) := by decide +kernel
theorem dX10_writeSound_10 : decode cX10_writeSound 10 = .ok (.iload_n 1, 1) := by decide +kernel
theorem dX10_writeSound_11 : decode cX10_writeSound 11 = .ok (.iconst 3, 1) := by decide +kernel
theorem dX10_writeSound_12 : decode cX10_writeSound 12 = .ok (.iand, 1) := by decide +kernel
theorem dX10_writeSound_13 : decode cX10_writeSound 13 = .ok (.ifCond .ne 32, 3) := by decide +kernel
theorem dX10_writeSound_16 : decode cX10_writeSound 16 = .ok (.aload_n 0, 1) := by decide +kernel
theorem dX10_writeSound_17 : decode cX10_writeSound 17 = .ok (.getfield 41, 3) := by decide +kernel
theorem dX10_writeSound_20 : decode cX10_writeSound 20 = .ok (.iload_n 3, 1) := by decide +kernel
theorem dX10_writeSound_21 : decode cX10_writeSound 21 = .ok (.iload_n 2, 1) := by decide +kernel
theorem dX10_writeSound_22 : decode cX10_writeSound 22 = .ok (.iload_n 3, 1) := by decide +kernel
theorem dX10_writeSound_23 : decode cX10_writeSound 23 = .ok (.iconst 2, 1) := by decide +kernel
theorem dX10_writeSound_24 : decode cX10_writeSound 24 = .ok (.if_icmp .ne 9, 3) := by decide +kernel
theorem dX10_writeSound_27 : decode cX10_writeSound 27 = .ok (.sipush 128, 3) := by decide +kernel
theorem dX10_writeSound_30 : decode cX10_writeSound 30 = .ok (.goto 5, 3) := by decide +kernel
theorem dX10_writeSound_33 : decode cX10_writeSound 33 = .ok (.bipush 32, 2) := by decide +kernel
theorem dX10_writeSound_35 : decode cX10_writeSound 35 = .ok (.iand, 1) := by decide +kernel
theorem dX10_writeSound_36 : decode cX10_writeSound 36 = .ok (.ifCond .eq 7, 3) := by decide +kernel
theorem dX10_writeSound_39 : decode cX10_writeSound 39 = .ok (.iconst 1, 1) := by decide +kernel
theorem dX10_writeSound_40 : decode cX10_writeSound 40 = .ok (.goto 4, 3) := by decide +kernel
theorem dX10_writeSound_43 : decode cX10_writeSound 43 = .ok (.iconst 0, 1) := by decide +kernel
theorem dX10_writeSound_44 : decode cX10_writeSound 44 = .ok (.bastore, 1) := by decide +kernel
theorem dX10_writeSound_45 : decode cX10_writeSound 45 = .ok (.iload_n 1, 1) := by decide +kernel
theorem dX10_writeSound_46 : decode cX10_writeSound 46 = .ok (.iconst 3, 1) := by decide +kernel
theorem dX10_writeSound_47 : decode cX10_writeSound 47 = .ok (.iand, 1) := by decide +kernel
theorem dX10_writeSound_48 : decode cX10_writeSound 48 = .ok (.iconst 3, 1) := by decide +kernel
theorem dX10_writeSound_49 : decode cX10_writeSound 49 = .ok (.if_icmp .ne 246, 3) := by decide +kernel
theorem dX10_writeSound_52 : decode cX10_writeSound 52 = .ok (.aload_n 0, 1) := by decide +kernel
theorem dX10_writeSound_53 : decode cX10_writeSound 53 = .ok (.getfield 144, 3) := by decide +kernel
theorem dX10_writeSound_56 : decode cX10_writeSound 56 = .ok (.iload_n 3, 1) := by decide +kernel
theorem dX10_writeSound_57 : decode cX10_writeSound 57 = .ok (.ishr, 1) := by decide +kernel
theorem dX10_writeSound_58 : decode cX10_writeSound 58 = .ok (.iconst 1, 1) := by decide +kernel
theorem dX10_writeSound_59 : decode cX10_writeSound 59 = .ok (.iand, 1) := by decide +kernel
theorem dX10_writeSound_60 : decode cX10_writeSound 60 = .ok (.iconst 1, 1) := by decide +kernel
theorem dX10_writeSound_61 : decode cX10_writeSound 61 = .ok (.if_icmp .ne 234, 3) := by decide +kernel
theorem dX10_writeSound_64 : decode cX10_writeSound 64 = .ok (.aload_n 0, 1) := by decide +kernel
theorem dX10_writeSound_65 : decode cX10_writeSound 65 = .ok (.getfield 38, 3) := by decide +kernel
theorem dX10_writeSound_68 : decode cX10_writeSound 68 = .ok (.iload_n 3, 1) := by decide +kernel
theorem dX10_writeSound_69 : decode cX10_writeSound 69 = .ok (.iload_n 2, 1) := by decide +kernel
theorem dX10_writeSound_70 : decode cX10_writeSound 70 = .ok (.iconst 3, 1) := by decide +kernel
theorem dX10_writeSound_71 : decode cX10_writeSound 71 = .ok (.ishr, 1) := by decide +kernel
theorem dX10_writeSound_72 : decode cX10_writeSound 72 = .ok (.invokestatic 147, 3) := by decide +kernel
theorem dX10_writeSound_75 : decode cX10_writeSound 75 = .ok (.iastore, 1) := by decide +kernel
theorem dX10_writeSound_76 : decode cX10_writeSound 76 = .ok (.goto 219, 3) := by decide +kernel
theorem dX10_writeSound_79 : decode cX10_writeSound 79 = .ok (.iload_n 1, 1) := by decide +kernel
theorem dX10_writeSound_80 : decode cX10_writeSound 80 = .ok (.bipush 20, 2) := by decide +kernel
theorem dX10_writeSound_82 : decode cX10_writeSound 82 = .ok (.if_icmp .ne 11, 3) := by decide +kernel
theorem dX10_writeSound_85 : decode cX10_writeSound 85 = .ok (.aload_n 0, 1) := by decide +kernel
theorem dX10_writeSound_86 : decode cX10_writeSound 86 = .ok (.iload_n 2, 1) := by decide +kernel
theorem dX10_writeSound_87 : decode cX10_writeSound 87 = .ok (.invokevirtual 150, 3) := by decide +kernel
theorem dX10_writeSound_90 : decode cX10_writeSound 90 = .ok (.goto 205, 3) := by decide +kernel
theorem dX10_writeSound_93 : decode cX10_writeSound 93 = .ok (.iload_n 1, 1) := by decide +kernel
theorem dX10_writeSound_94 : decode cX10_writeSound 94 = .ok (.bipush 21, 2) := by decide +kernel
theorem dX10_writeSound_96 : decode cX10_writeSound 96 = .ok (.if_icmp .ne 56, 3) := by decide +kernel
theorem dX10_writeSound_99 : decode cX10_writeSound 99 = .ok (.aload_n 0, 1) := by decide +kernel
theorem dX10_writeSound_100 : decode cX10_writeSound 100 = .ok (.iload_n 2, 1) := by decide +kernel
theorem dX10_writeSound_101 : decode cX10_writeSound 101 = .ok (.bipush 15, 2) := by decide +kernel
theorem dX10_writeSound_103 : decode cX10_writeSound 103 = .ok (.iand, 1) := by decide +kernel
theorem dX10_writeSound_104 : decode cX10_writeSound 104 = .ok (.putfield 144, 3) := by decide +kernel
theorem dX10_writeSound_107 : decode cX10_writeSound 107 = .ok (.iconst 0, 1) := by decide +kernel
theorem dX10_writeSound_108 : decode cX10_writeSound 108 = .ok (.istore 4, 2) := by decide +kernel
theorem dX10_writeSound_110 : decode cX10_writeSound 110 = .ok (.iload 4, 2) := by decide +kernel
theorem dX10_writeSound_112 : decode cX10_writeSound 112 = .ok (.iconst 4, 1) := by decide +kernel
theorem dX10_writeSound_113 : decode cX10_writeSound 113 = .ok (.if_icmp .ge 36, 3) := by decide +kernel
theorem dX10_writeSound_116 : decode cX10_writeSound 116 = .ok (.aload_n 0, 1) := by decide +kernel
theorem dX10_writeSound_117 : decode cX10_writeSound 117 = .ok (.getfield 38, 3) := by decide +kernel
theorem dX10_writeSound_120 : decode cX10_writeSound 120 = .ok (.iload 4, 2) := by decide +kernel
theorem dX10_writeSound_122 : decode cX10_writeSound 122 = .ok (.iload_n 2, 1) := by decide +kernel
theorem dX10_writeSound_123 : decode cX10_writeSound 123 = .ok (.iload 4, 2) := by decide +kernel
theorem dX10_writeSound_125 : decode cX10_writeSound 125 = .ok (.ishr, 1) := by decide +kernel
theorem dX10_writeSound_126 : decode cX10_writeSound 126 = .ok (.iconst 1, 1) := by decide +kernel
theorem dX10_writeSound_127 : decode cX10_writeSound 127 = .ok (.iand, 1) := by decide +kernel
theorem dX10_writeSound_128 : decode cX10_writeSound 128 = .ok (.ifCond .ne 7, 3) := by decide +kernel
theorem dX10_writeSound_131 : decode cX10_writeSound 131 = .ok (.iconst 0, 1) := by decide +kernel
theorem dX10_writeSound_132 : decode cX10_writeSound 132 = .ok (.goto 10, 3) := by decide +kernel
theorem dX10_writeSound_135 : decode cX10_writeSound 135 = .ok (.aload_n 0, 1) := by decide +kernel
theorem dX10_writeSound_136 : decode cX10_writeSound 136 = .ok (.getfield 38, 3) := by decide +kernel
theorem dX10_writeSound_139 : decode cX10_writeSound 139 = .ok (.iload 4, 2) := by decide +kernel
theorem dX10_writeSound_141 : decode cX10_writeSound 141 = .ok (.iaload, 1) := by decide +kernel
theorem dX10_writeSound_142 : decode cX10_writeSound 142 = .ok (.iastore, 1) := by decide +kernel
theorem dX10_writeSound_143 : decode cX10_writeSound 143 = .ok (.iinc 4 1, 3) := by decide +kernel
theorem dX10_writeSound_146 : decode cX10_writeSound 146 = .ok (.goto (-36), 3) := by decide +kernel
theorem dX10_writeSound_149 : decode cX10_writeSound 149 = .ok (.goto 146, 3) := by decide +kernel
theorem dX10_writeSound_152 : decode cX10_writeSound 152 = .ok (.iload_n 1, 1) := by decide +kernel
theorem dX10_writeSound_153 : decode cX10_writeSound 153 = .ok (.bipush 22, 2) := by decide +kernel
theorem dX10_writeSound_155 : decode cX10_writeSound 155 = .ok (.if_icmp .ne 66, 3) := by decide +kernel
theorem dX10_writeSound_158 : decode cX10_writeSound 158 = .ok (.iconst 0, 1) := by decide +kernel
theorem dX10_writeSound_159 : decode cX10_writeSound 159 = .ok (.istore 4, 2) := by decide +kernel
theorem dX10_writeSound_161 : decode cX10_writeSound 161 = .ok (.iload 4, 2) := by decide +kernel
theorem dX10_writeSound_163 : decode cX10_writeSound 163 = .ok (.iconst 2, 1) := by decide +kernel
theorem dX10_writeSound_164 : decode cX10_writeSound 164 = .ok (.if_icmp .ge 47, 3) := by decide +kernel
theorem dX10_writeSound_167 : decode cX10_writeSound 167 = .ok (.aload_n 0, 1) := by decide +kernel
theorem dX10_writeSound_168 : decode cX10_writeSound 168 = .ok (.getfield 48, 3) := by decide +kernel
theorem dX10_writeSound_171 : decode cX10_writeSound 171 = .ok (.iload 4, 2) := by decide +kernel
theorem dX10_writeSound_173 : decode cX10_writeSound 173 = .ok (.aload_n 0, 1) := by decide +kernel
theorem dX10_writeSound_174 : decode cX10_writeSound 174 = .ok (.getfield 154, 3) := by decide +kernel
theorem dX10_writeSound_177 : decode cX10_writeSound 177 = .ok (.iconst 1, 1) := by decide +kernel
theorem dX10_writeSound_178 : decode cX10_writeSound 178 = .ok (.if_icmp .ne 19, 3) := by decide +kernel
theorem dX10_writeSound_181 : decode cX10_writeSound 181 = .ok (.iload_n 2, 1) := by decide +kernel
theorem dX10_writeSound_182 : decode cX10_writeSound 182 = .ok (.iconst 1, 1) := by decide +kernel
theorem dX10_writeSound_183 : decode cX10_writeSound 183 = .ok (.iand, 1) := by decide +kernel
theorem dX10_writeSound_184 : decode cX10_writeSound 184 = .ok (.ifCond .ne 13, 3) := by decide +kernel
theorem dX10_writeSound_187 : decode cX10_writeSound 187 = .ok (.aload_n 0, 1) := by decide +kernel
theorem dX10_writeSound_188 : decode cX10_writeSound 188 = .ok (.getfield 45, 3) := by decide +kernel
theorem dX10_writeSound_191 : decode cX10_writeSound 191 = .ok (.iload 4, 2) := by decide +kernel
theorem dX10_writeSound_193 : decode cX10_writeSound 193 = .ok (.iaload, 1) := by decide +kernel
theorem dX10_writeSound_194 : decode cX10_writeSound 194 = .ok (.goto 10, 3) := by decide +kernel
theorem dX10_writeSound_197 : decode cX10_writeSound 197 = .ok (.aload_n 0, 1) := by decide +kernel
theorem dX10_writeSound_198 : decode cX10_writeSound 198 = .ok (.getfield 48, 3) := by decide +kernel
theorem dX10_writeSound_201 : decode cX10_writeSound 201 = .ok (.iload 4, 2) := by decide +kernel
theorem dX10_writeSound_203 : decode cX10_writeSound 203 = .ok (.iaload, 1) := by decide +kernel
theorem dX10_writeSound_204 : decode cX10_writeSound 204 = .ok (.iastore, 1) := by decide +kernel
theorem dX10_writeSound_205 : decode cX10_writeSound 205 = .ok (.iinc 4 1, 3) := by decide +kernel
theorem dX10_writeSound_208 : decode cX10_writeSound 208 = .ok (.goto (-47), 3) := by decide +kernel
theorem dX10_writeSound_211 : decode cX10_writeSound 211 = .ok (.aload_n 0, 1) := by decide +kernel
theorem dX10_writeSound_212 : decode cX10_writeSound 212 = .ok (.iload_n 2, 1) := by decide +kernel
theorem dX10_writeSound_213 : decode cX10_writeSound 213 = .ok (.iconst 1, 1) := by decide +kernel
theorem dX10_writeSound_214 : decode cX10_writeSound 214 = .ok (.iand, 1) := by decide +kernel
theorem dX10_writeSound_215 : decode cX10_writeSound 215 = .ok (.putfield 154, 3) := by decide +kernel
theorem dX10_writeSound_218 : decode cX10_writeSound 218 = .ok (.goto 77, 3) := by decide +kernel
theorem dX10_writeSound_221 : decode cX10_writeSound 221 = .ok (.iload_n 1, 1) := by decide +kernel
theorem dX10_writeSound_222 : decode cX10_writeSound 222 = .ok (.bipush 23, 2) := by decide +kernel
theorem dX10_writeSound_224 : decode cX10_writeSound 224 = .ok (.if_icmp .ne 71, 3) := by decide +kernel
theorem dX10_writeSound_227 : decode cX10_writeSound 227 = .ok (.aload_n 0, 1) := by decide +kernel
theorem dX10_writeSound_228 : decode cX10_writeSound 228 = .ok (.iload_n 2, 1) := by decide +kernel
theorem dX10_writeSound_229 : decode cX10_writeSound 229 = .ok (.sipush 128, 3) := by decide +kernel
theorem dX10_writeSound_232 : decode cX10_writeSound 232 = .ok (.iand, 1) := by decide +kernel
theorem dX10_writeSound_233 : decode cX10_writeSound 233 = .ok (.ifCond .eq 7, 3) := by decide +kernel
theorem dX10_writeSound_236 : decode cX10_writeSound 236 = .ok (.iconst 1, 1) := by decide +kernel
theorem dX10_writeSound_237 : decode cX10_writeSound 237 = .ok (.goto 4, 3) := by decide +kernel
theorem dX10_writeSound_240 : decode cX10_writeSound 240 = .ok (.iconst 0, 1) := by decide +kernel
theorem dX10_writeSound_241 : decode cX10_writeSound 241 = .ok (.putfield 157, 3) := by decide +kernel
theorem dX10_writeSound_244 : decode cX10_writeSound 244 = .ok (.aload_n 0, 1) := by decide +kernel
theorem dX10_writeSound_245 : decode cX10_writeSound 245 = .ok (.iload_n 2, 1) := by decide +kernel
theorem dX10_writeSound_246 : decode cX10_writeSound 246 = .ok (.bipush 64, 2) := by decide +kernel
theorem dX10_writeSound_248 : decode cX10_writeSound 248 = .ok (.iand, 1) := by decide +kernel
theorem dX10_writeSound_249 : decode cX10_writeSound 249 = .ok (.ifCond .eq 7, 3) := by decide +kernel
theorem dX10_writeSound_252 : decode cX10_writeSound 252 = .ok (.iconst 1, 1) := by decide +kernel
theorem dX10_writeSound_253 : decode cX10_writeSound 253 = .ok (.goto 4, 3) := by decide +kernel
theorem dX10_writeSound_256 : decode cX10_writeSound 256 = .ok (.iconst 0, 1) := by decide +kernel
theorem dX10_writeSound_257 : decode cX10_writeSound 257 = .ok (.putfield 160, 3) := by decide +kernel
theorem dX10_writeSound_260 : decode cX10_writeSound 260 = .ok (.aload_n 0, 1) := by decide +kernel
theorem dX10_writeSound_261 : decode cX10_writeSound 261 = .ok (.aload_n 0, 1) := by decide +kernel
theorem dX10_writeSound_262 : decode cX10_writeSound 262 = .ok (.getfield 160, 3) := by decide +kernel
theorem dX10_writeSound_265 : decode cX10_writeSound 265 = .ok (.ifCond .eq 7, 3) := by decide +kernel
theorem dX10_writeSound_268 : decode cX10_writeSound 268 = .ok (.iconst 0, 1) := by decide +kernel
theorem dX10_writeSound_269 : decode cX10_writeSound 269 = .ok (.goto 7, 3) := by decide +kernel
theorem dX10_writeSound_272 : decode cX10_writeSound 272 = .ok (.aload_n 0, 1) := by decide +kernel
theorem dX10_writeSound_273 : decode cX10_writeSound 273 = .ok (.getfield 163, 3) := by decide +kernel
theorem dX10_writeSound_276 : decode cX10_writeSound 276 = .ok (.putfield 163, 3) := by decide +kernel
theorem dX10_writeSound_279 : decode cX10_writeSound 279 = .ok (.aload_n 0, 1) := by decide +kernel
theorem dX10_writeSound_280 : decode cX10_writeSound 280 = .ok (.iconst 0, 1) := by decide +kernel
theorem dX10_writeSound_281 : decode cX10_writeSound 281 = .ok (.putfield 166, 3) := by decide +kernel
theorem dX10_writeSound_284 : decode cX10_writeSound 284 = .ok (.aload_n 0, 1) := by decide +kernel
theorem dX10_writeSound_285 : decode cX10_writeSound 285 = .ok (.getfield 157, 3) := by decide +kernel
theorem dX10_writeSound_288 : decode cX10_writeSound 288 = .ok (.ifCond .eq 7, 3) := by decide +kernel
theorem dX10_writeSound_291 : decode cX10_writeSound 291 = .ok (.aload_n 0, 1) := by decide +kernel
theorem dX10_writeSound_292 : decode cX10_writeSound 292 = .ok (.invokevirtual 169, 3) := by decide +kernel
theorem dX10_writeSound_295 : decode cX10_writeSound 295 = .ok (.return_, 1) := by decide +kernel
theorem dX10_readSound_0 : decode cX10_readSound 0 = .ok (.iload_n 1, 1) := by decide +kernel
theorem dX10_readSound_1 : decode cX10_readSound 1 = .ok (.bipush 21, 2) := by decide +kernel
theorem dX10_readSound_3 : decode cX10_readSound 3 = .ok (.if_icmp .ne 50, 3) := by decide +kernel
theorem dX10_readSound_6 : decode cX10_readSound 6 = .ok (.aload_n 0, 1) := by decide +kernel
theorem dX10_readSound_7 : decode cX10_readSound 7 = .ok (.getfield 163, 3) := by decide +kernel
theorem dX10_readSound_10 : decode cX10_readSound 10 = .ok (.bipush 6, 2) := by decide +kernel
theorem dX10_readSound_12 : decode cX10_readSound 12 = .ok (.ishl, 1) := by decide +kernel
theorem dX10_readSound_13 : decode cX10_readSound 13 = .ok (.istore_n 2, 1) := by decide +kernel
theorem dX10_readSound_14 : decode cX10_readSound 14 = .ok (.iconst 0, 1) := by decide +kernel
theorem dX10_readSound_15 : decode cX10_readSound 15 = .ok (.istore_n 3, 1) := by decide +kernel
theorem dX10_readSound_16 : decode cX10_readSound 16 = .ok (.iload_n 3, 1) := by decide +kernel
theorem dX10_readSound_17 : decode cX10_readSound 17 = .ok (.iconst 4, 1) := by decide +kernel
theorem dX10_readSound_18 : decode cX10_readSound 18 = .ok (.if_icmp .ge 28, 3) := by decide +kernel
theorem dX10_readSound_21 : decode cX10_readSound 21 = .ok (.iload_n 2, 1) := by decide +kernel
theorem dX10_readSound_22 : decode cX10_readSound 22 = .ok (.aload_n 0, 1) := by decide +kernel
theorem dX10_readSound_23 : decode cX10_readSound 23 = .ok (.getfield 38, 3) := by decide +kernel
theorem dX10_readSound_26 : decode cX10_readSound 26 = .ok (.iload_n 3, 1) := by decide +kernel
theorem dX10_readSound_27 : decode cX10_readSound 27 = .ok (.iaload, 1) := by decide +kernel
theorem dX10_readSound_28 : decode cX10_readSound 28 = .ok (.ifCond .le 9, 3) := by decide +kernel
theorem dX10_readSound_31 : decode cX10_readSound 31 = .ok (.iconst 1, 1) := by decide +kernel
theorem dX10_readSound_32 : decode cX10_readSound 32 = .ok (.iload_n 3, 1) := by decide +kernel
theorem dX10_readSound_33 : decode cX10_readSound 33 = .ok (.ishl, 1) := by decide +kernel
theorem dX10_readSound_34 : decode cX10_readSound 34 = .ok (.goto 4, 3) := by decide +kernel
theorem dX10_readSound_37 : decode cX10_readSound 37 = .ok (.iconst 0, 1) := by decide +kernel
theorem dX10_readSound_38 : decode cX10_readSound 38 = .ok (.ior, 1) := by decide +kernel
theorem dX10_readSound_39 : decode cX10_readSound 39 = .ok (.istore_n 2, 1) := by decide +kernel
theorem dX10_readSound_40 : decode cX10_readSound 40 = .ok (.iinc 3 1, 3) := by decide +kernel
theorem dX10_readSound_43 : decode cX10_readSound 43 = .ok (.goto (-27), 3) := by decide +kernel
theorem dX10_readSound_46 : decode cX10_readSound 46 = .ok (.aload_n 0, 1) := by decide +kernel
theorem dX10_readSound_47 : decode cX10_readSound 47 = .ok (.iconst 0, 1) := by decide +kernel
theorem dX10_readSound_48 : decode cX10_readSound 48 = .ok (.putfield 163, 3) := by decide +kernel
theorem dX10_readSound_51 : decode cX10_readSound 51 = .ok (.iload_n 2, 1) := by decide +kernel
theorem dX10_readSound_52 : decode cX10_readSound 52 = .ok (.ireturn, 1) := by decide +kernel
theorem dX10_readSound_53 : decode cX10_readSound 53 = .ok (.iload_n 1, 1) := by decide +kernel
theorem dX10_readSound_54 : decode cX10_readSound 54 = .ok (.bipush 22, 2) := by decide +kernel
theorem dX10_readSound_56 : decode cX10_readSound 56 = .ok (.if_icmp .ge 5, 3) := by decide +kernel
theorem dX10_readSound_59 : decode cX10_readSound 59 = .ok (.iconst 0, 1) := by decide +kernel
theorem dX10_readSound_60 : decode cX10_readSound 60 = .ok (.ireturn, 1) := by decide +kernel
theorem dX10_readSound_61 : decode cX10_readSound 61 = .ok (.iload_n 1, 1) := by decide +kernel
theorem dX10_readSound_62 : decode cX10_readSound 62 = .ok (.bipush 22, 2) := by decide +kernel
theorem dX10_readSound_64 : decode cX10_readSound 64 = .ok (.isub, 1) := by decide +kernel
theorem dX10_readSound_65 : decode cX10_readSound 65 = .ok (.istore_n 2, 1) := by decide +kernel
theorem dX10_readSound_66 : decode cX10_readSound 66 = .ok (.aload_n 0, 1) := by decide +kernel
theorem dX10_readSound_67 : decode cX10_readSound 67 = .ok (.getfield 154, 3) := by decide +kernel
theorem dX10_readSound_70 : decode cX10_readSound 70 = .ok (.iconst 1, 1) := by decide +kernel
theorem dX10_readSound_71 : decode cX10_readSound 71 = .ok (.if_icmp .ne 12, 3) := by decide +kernel
theorem dX10_readSound_74 : decode cX10_readSound 74 = .ok (.aload_n 0, 1) := by decide +kernel
theorem dX10_readSound_75 : decode cX10_readSound 75 = .ok (.getfield 45, 3) := by decide +kernel
theorem dX10_readSound_78 : decode cX10_readSound 78 = .ok (.iload_n 2, 1) := by decide +kernel
theorem dX10_readSound_79 : decode cX10_readSound 79 = .ok (.iaload, 1) := by decide +kernel
theorem dX10_readSound_80 : decode cX10_readSound 80 = .ok (.iconst 1, 1) := by decide +kernel
theorem dX10_readSound_81 : decode cX10_readSound 81 = .ok (.iand, 1) := by decide +kernel
theorem dX10_readSound_82 : decode cX10_readSound 82 = .ok (.ireturn, 1) := by decide +kernel
theorem dX10_readSound_83 : decode cX10_readSound 83 = .ok (.aload_n 0, 1) := by decide +kernel
theorem dX10_readSound_84 : decode cX10_readSound 84 = .ok (.getfield 48, 3) := by decide +kernel
theorem dX10_readSound_87 : decode cX10_readSound 87 = .ok (.iload_n 2, 1) := by decide +kernel
theorem dX10_readSound_88 : decode cX10_readSound 88 = .ok (.iaload, 1) := by decide +kernel
theorem dX10_readSound_89 : decode cX10_readSound 89 = .ok (.iconst 1, 1) := by decide +kernel
theorem dX10_readSound_90 : decode cX10_readSound 90 = .ok (.iand, 1) := by decide +kernel
theorem dX10_readSound_91 : decode cX10_readSound 91 = .ok (.istore_n 3, 1) := by decide +kernel
theorem dX10_readSound_92 : decode cX10_readSound 92 = .ok (.aload_n 0, 1) := by decide +kernel
theorem dX10_readSound_93 : decode cX10_readSound 93 = .ok (.getfield 48, 3) := by decide +kernel
theorem dX10_readSound_96 : decode cX10_readSound 96 = .ok (.iload_n 2, 1) := by decide +kernel
theorem dX10_readSound_97 : decode cX10_readSound 97 = .ok (.aload_n 0, 1) := by decide +kernel
theorem dX10_readSound_98 : decode cX10_readSound 98 = .ok (.getfield 48, 3) := by decide +kernel
theorem dX10_readSound_101 : decode cX10_readSound 101 = .ok (.iload_n 2, 1) := by decide +kernel
theorem dX10_readSound_102 : decode cX10_readSound 102 = .ok (.iaload, 1) := by decide +kernel
theorem dX10_readSound_103 : decode cX10_readSound 103 = .ok (.iconst 1, 1) := by decide +kernel
theorem dX10_readSound_104 : decode cX10_readSound 104 = .ok (.ishr, 1) := by decide +kernel
theorem dX10_readSound_105 : decode cX10_readSound 105 = .ok (.sipush 128, 3) := by decide +kernel
theorem dX10_readSound_108 : decode cX10_readSound 108 = .ok (.ior, 1) := by decide +kernel
theorem dX10_readSound_109 : decode cX10_readSound 109 = .ok (.iastore, 1) := by decide +kernel
theorem dX10_readSound_110 : decode cX10_readSound 110 = .ok (.iload_n 3, 1) := by decide +kernel
theorem dX10_readSound_111 : decode cX10_readSound 111 = .ok (.ireturn, 1) := by decide +kernel
theorem dX10_dma_0 : decode cX10_dma 0 = .ok (.iconst 0, 1) := by decide +kernel
theorem dX10_dma_1 : decode cX10_dma 1 = .ok (.istore_n 2, 1) := by decide +kernel
theorem dX10_dma_2 : decode cX10_dma 2 = .ok (.iload_n 2, 1) := by decide +kernel
theorem dX10_dma_3 : decode cX10_dma 3 = .ok (.sipush 256, 3) := by decide +kernel
theorem dX10_dma_6 : decode cX10_dma 6 = .ok (.if_icmp .ge 27, 3) := by decide +kernel
theorem dX10_dma_9 : decode cX10_dma 9 = .ok (.aload_n 0, 1) := by decide +kernel
theorem dX10_dma_10 : decode cX10_dma 10 = .ok (.sipush 256, 3) := by decide +kernel
theorem dX10_dma_13 : decode cX10_dma 13 = .ok (.iload_n 1, 1) := by decide +kernel
theorem dX10_dma_14 : decode cX10_dma 14 = .ok (.imul, 1) := by decide +kernel
theorem dX10_dma_15 : decode cX10_dma 15 = .ok (.iload_n 2, 1) := by decide +kernel
theorem dX10_dma_16 : decode cX10_dma 16 = .ok (.iadd, 1) := by decide +kernel
theorem dX10_dma_17 : decode cX10_dma 17 = .ok (.invokevirtual 172, 3) := by decide +kernel
theorem dX10_dma_20 : decode cX10_dma 20 = .ok (.istore_n 3, 1) := by decide +kernel
theorem dX10_dma_21 : decode cX10_dma 21 = .ok (.aload_n 0, 1) := by decide +kernel
theorem dX10_dma_22 : decode cX10_dma 22 = .ok (.iconst 4, 1) := by decide +kernel
theorem dX10_dma_23 : decode cX10_dma 23 = .ok (.iload_n 3, 1) := by decide +kernel
theorem dX10_dma_24 : decode cX10_dma 24 = .ok (.invokevirtual 175, 3) := by decide +kernel
theorem dX10_dma_27 : decode cX10_dma 27 = .ok (.iinc 2 1, 3) := by decide +kernel
theorem dX10_dma_30 : decode cX10_dma 30 = .ok (.goto (-28), 3) := by decide +kernel
theorem dX10_dma_33 : decode cX10_dma 33 = .ok (.aload_n 0, 1) := by decide +kernel
theorem dX10_dma_34 : decode cX10_dma 34 = .ok (.dup, 1) := by decide +kernel
theorem dX10_dma_35 : decode cX10_dma 35 = .ok (.getfield 178, 3) := by decide +kernel
theorem dX10_dma_38 : decode cX10_dma 38 = .ok (.sipush 513, 3) := by decide +kernel
theorem dX10_dma_41 : decode cX10_dma 41 = .ok (.aload_n 0, 1) := by decide +kernel
theorem dX10_dma_42 : decode cX10_dma 42 = .ok (.getfield 181, 3) := by decide +kernel
theorem dX10_dma_45 : decode cX10_dma 45 = .ok (.lconst 1, 1) := by decide +kernel
theorem dX10_dma_46 : decode cX10_dma 46 = .ok (.land, 1) := by decide +kernel
theorem dX10_dma_47 : decode cX10_dma 47 = .ok (.l2i, 1) := by decide +kernel
theorem dX10_dma_48 : decode cX10_dma 48 = .ok (.iadd, 1) := by decide +kernel
theorem dX10_dma_49 : decode cX10_dma 49 = .ok (.iadd, 1) := by decide +kernel
theorem dX10_dma_50 : decode cX10_dma 50 = .ok (.putfield 178, 3) := by decide +kernel
theorem dX10_dma_53 : decode cX10_dma 53 = .ok (.return_, 1) := by decide +kernel
theorem dX10_get_0 : decode cX10_get 0 = .ok (.iload_n 1, 1) := by decide +kernel
theorem dX10_get_1 : decode cX10_get 1 = .ok (.sipush 8192, 3) := by decide +kernel
theorem dX10_get_4 : decode cX10_get 4 = .ok (.if_icmp .ge 14, 3) := by decide +kernel
theorem dX10_get_7 : decode cX10_get 7 = .ok (.aload_n 0, 1) := by decide +kernel
theorem dX10_get_8 : decode cX10_get 8 = .ok (.getfield 7, 3) := by decide +kernel
theorem dX10_get_11 : decode cX10_get 11 = .ok (.iload_n 1, 1) := by decide +kernel
theorem dX10_get_12 : decode cX10_get 12 = .ok (.sipush 2047, 3) := by decide +kernel
theorem dX10_get_15 : decode cX10_get 15 = .ok (.iand, 1) := by decide +kernel
theorem dX10_get_16 : decode cX10_get 16 = .ok (.iaload, 1) := by decide +kernel
theorem dX10_get_17 : decode cX10_get 17 = .ok (.ireturn, 1) := by decide +kernel
theorem dX10_get_18 : decode cX10_get 18 = .ok (.iload_n 1, 1) := by decide +kernel
theorem dX10_get_19 : decode cX10_get 19 = .ok (.sipush 16384, 3) := by decide +kernel
theorem dX10_get_22 : decode cX10_get 22 = .ok (.if_icmp .ge 12, 3) := by decide +kernel
theorem dX10_get_25 : decode cX10_get 25 = .ok (.aload_n 0, 1) := by decide +kernel
theorem dX10_get_26 : decode cX10_get 26 = .ok (.iload_n 1, 1) := by decide +kernel
theorem dX10_get_27 : decode cX10_get 27 = .ok (.bipush 7, 2) := by decide +kernel
theorem dX10_get_29 : decode cX10_get 29 = .ok (.iand, 1) := by decide +kernel
theorem dX10_get_30 : decode cX10_get 30 = .ok (.invokevirtual 185, 3) := by decide +kernel
theorem dX10_get_33 : decode cX10_get 33 = .ok (.ireturn, 1) := by decide +kernel
theorem dX10_get_34 : decode cX10_get 34 = .ok (.iload_n 1, 1) := by decide +kernel
theorem dX10_get_35 : decode cX10_get 35 = .ok (.sipush 16408, 3) := by decide +kernel
theorem dX10_get_38 : decode cX10_get 38 = .ok (.if_icmp .ge 13, 3) := by decide +kernel
theorem dX10_get_41 : decode cX10_get 41 = .ok (.aload_n 0, 1) := by decide +kernel
theorem dX10_get_42 : decode cX10_get 42 = .ok (.iload_n 1, 1) := by decide +kernel
theorem dX10_get_43 : decode cX10_get 43 = .ok (.sipush 16384, 3) := by decide +kernel
theorem dX10_get_46 : decode cX10_get 46 = .ok (.isub, 1) := by decide +kernel
theorem dX10_get_47 : decode cX10_get 47 = .ok (.invokevirtual 188, 3) := by decide +kernel
theorem dX10_get_50 : decode cX10_get 50 = .ok (.ireturn, 1) := by decide +kernel
theorem dX10_get_51 : decode cX10_get 51 = .ok (.iload_n 1, 1) := by decide +kernel
theorem dX10_get_52 : decode cX10_get 52 = .ok (.ldc 191, 2) := by decide +kernel
theorem dX10_get_54 : decode cX10_get 54 = .ok (.if_icmp .lt 27, 3) := by decide +kernel
theorem dX10_get_57 : decode cX10_get 57 = .ok (.aload_n 0, 1) := by decide +kernel
theorem dX10_get_58 : decode cX10_get 58 = .ok (.getfield 16, 3) := by decide +kernel
theorem dX10_get_61 : decode cX10_get 61 = .ok (.bipush 64, 2) := by decide +kernel
theorem dX10_get_63 : decode cX10_get 63 = .ok (.aload_n 0, 1) := by decide +kernel
theorem dX10_get_64 : decode cX10_get 64 = .ok (.iload_n 1, 1) := by decide +kernel
theorem dX10_get_65 : decode cX10_get 65 = .ok (.bipush 13, 2) := by decide +kernel
theorem dX10_get_67 : decode cX10_get 67 = .ok (.ishr, 1) := by decide +kernel
theorem dX10_get_68 : decode cX10_get 68 = .ok (.iconst 3, 1) := by decide +kernel
theorem dX10_get_69 : decode cX10_get 69 = .ok (.iand, 1) := by decide +kernel
theorem dX10_get_70 : decode cX10_get 70 = .ok (.invokevirtual 192, 3) := by decide +kernel
theorem dX10_get_73 : decode cX10_get 73 = .ok (.imul, 1) := by decide +kernel
theorem dX10_get_74 : decode cX10_get 74 = .ok (.iload_n 1, 1) := by decide +kernel
theorem dX10_get_75 : decode cX10_get 75 = .ok (.bipush 63, 2) := by decide +kernel
theorem dX10_get_77 : decode cX10_get 77 = .ok (.iand, 1) := by decide +kernel
theorem dX10_get_78 : decode cX10_get 78 = .ok (.iadd, 1) := by decide +kernel
theorem dX10_get_79 : decode cX10_get 79 = .ok (.iaload, 1) := by decide +kernel
theorem dX10_get_80 : decode cX10_get 80 = .ok (.ireturn, 1) := by decide +kernel
theorem dX10_get_81 : decode cX10_get 81 = .ok (.iload_n 1, 1) := by decide +kernel
theorem dX10_get_82 : decode cX10_get 82 = .ok (.sipush 24576, 3) := by decide +kernel
theorem dX10_get_85 : decode cX10_get 85 = .ok (.if_icmp .lt 16, 3) := by decide +kernel
theorem dX10_get_88 : decode cX10_get 88 = .ok (.aload_n 0, 1) := by decide +kernel
theorem dX10_get_89 : decode cX10_get 89 = .ok (.getfield 13, 3) := by decide +kernel
theorem dX10_get_92 : decode cX10_get 92 = .ok (.iload_n 1, 1) := by decide +kernel
theorem dX10_get_93 : decode cX10_get 93 = .ok (.sipush 255, 3) := by decide +kernel
theorem dX10_get_96 : decode cX10_get 96 = .ok (.iand, 1) := by decide +kernel
theorem dX10_get_97 : decode cX10_get 97 = .ok (.iaload, 1) := by decide +kernel
theorem dX10_get_98 : decode cX10_get 98 = .ok (.goto 4, 3) := by decide +kernel
theorem dX10_get_101 : decode cX10_get 101 = .ok (.iconst 0, 1) := by decide +kernel
theorem dX10_get_102 : decode cX10_get 102 = .ok (.ireturn, 1) := by decide +kernel
theorem dX10_put_0 : decode cX10_put 0 = .ok (.iload_n 1, 1) := by decide +kernel
theorem dX10_put_1 : decode cX10_put 1 = .ok (.sipush 8192, 3) := by decide +kernel
theorem dX10_put_4 : decode cX10_put 4 = .ok (.if_icmp .ge 17, 3) := by decide +kernel
theorem dX10_put_7 : decode cX10_put 7 = .ok (.aload_n 0, 1) := by decide +kernel
theorem dX10_put_8 : decode cX10_put 8 = .ok (.getfield 7, 3) := by decide +kernel
theorem dX10_put_11 : decode cX10_put 11 = .ok (.iload_n 1, 1) := by decide +kernel
theorem dX10_put_12 : decode cX10_put 12 = .ok (.sipush 2047, 3) := by decide +kernel
theorem dX10_put_15 : decode cX10_put 15 = .ok (.iand, 1) := by decide +kernel
theorem dX10_put_16 : decode cX10_put 16 = .ok (.iload_n 2, 1) := by decide +kernel
theorem dX10_put_17 : decode cX10_put 17 = .ok (.iastore, 1) := by decide +kernel
theorem dX10_put_18 : decode cX10_put 18 = .ok (.goto 97, 3) := by decide +kernel
theorem dX10_put_21 : decode cX10_put 21 = .ok (.iload_n 1, 1) := by decide +kernel
theorem dX10_put_22 : decode cX10_put 22 = .ok (.sipush 16384, 3) := by decide +kernel
theorem dX10_put_25 : decode cX10_put 25 = .ok (.if_icmp .ge 15, 3) := by decide +kernel
theorem dX10_put_28 : decode cX10_put 28 = .ok (.aload_n 0, 1) := by decide +kernel
theorem dX10_put_29 : decode cX10_put 29 = .ok (.iload_n 1, 1) := by decide +kernel
theorem dX10_put_30 : decode cX10_put 30 = .ok (.bipush 7, 2) := by decide +kernel
theorem dX10_put_32 : decode cX10_put 32 = .ok (.iand, 1) := by decide +kernel
theorem dX10_put_33 : decode cX10_put 33 = .ok (.iload_n 2, 1) := by decide +kernel
theorem dX10_put_34 : decode cX10_put 34 = .ok (.invokevirtual 175, 3) := by decide +kernel
theorem dX10_put_37 : decode cX10_put 37 = .ok (.goto 78, 3) := by decide +kernel
theorem dX10_put_40 : decode cX10_put 40 = .ok (.iload_n 1, 1) := by decide +kernel
theorem dX10_put_41 : decode cX10_put 41 = .ok (.sipush 16408, 3) := by decide +kernel
theorem dX10_put_44 : decode cX10_put 44 = .ok (.if_icmp .ge 16, 3) := by decide +kernel
theorem dX10_put_47 : decode cX10_put 47 = .ok (.aload_n 0, 1) := by decide +kernel
theorem dX10_put_48 : decode cX10_put 48 = .ok (.iload_n 1, 1) := by decide +kernel
theorem dX10_put_49 : decode cX10_put 49 = .ok (.sipush 16384, 3) := by decide +kernel
theorem dX10_put_52 : decode cX10_put 52 = .ok (.isub, 1) := by decide +kernel
theorem dX10_put_53 : decode cX10_put 53 = .ok (.iload_n 2, 1) := by decide +kernel
theorem dX10_put_54 : decode cX10_put 54 = .ok (.invokevirtual 195, 3) := by decide +kernel
theorem dX10_put_57 : decode cX10_put 57 = .ok (.goto 58, 3) := by decide +kernel
theorem dX10_put_60 : decode cX10_put 60 = .ok (.iload_n 1, 1) := by decide +kernel
theorem dX10_put_61 : decode cX10_put 61 = .ok (.ldc 191, 2) := by decide +kernel
theorem dX10_put_63 : decode cX10_put 63 = .ok (.if_icmp .lt 19, 3) := by decide +kernel
theorem dX10_put_66 : decode cX10_put 66 = .ok (.aload_n 0, 1) := by decide +kernel
theorem dX10_put_67 : decode cX10_put 67 = .ok (.getfield 51, 3) := by decide +kernel
theorem dX10_put_70 : decode cX10_put 70 = .ok (.ifCond .eq 12, 3) := by decide +kernel
theorem dX10_put_73 : decode cX10_put 73 = .ok (.aload_n 0, 1) := by decide +kernel
theorem dX10_put_74 : decode cX10_put 74 = .ok (.iload_n 1, 1) := by decide +kernel
theorem dX10_put_75 : decode cX10_put 75 = .ok (.iload_n 2, 1) := by decide +kernel
theorem dX10_put_76 : decode cX10_put 76 = .ok (.invokevirtual 198, 3) := by decide +kernel
theorem dX10_put_79 : decode cX10_put 79 = .ok (.goto 36, 3) := by decide +kernel
theorem dX10_put_82 : decode cX10_put 82 = .ok (.iload_n 1, 1) := by decide +kernel
theorem dX10_put_83 : decode cX10_put 83 = .ok (.ldc 191, 2) := by decide +kernel
theorem dX10_put_85 : decode cX10_put 85 = .ok (.if_icmp .lt 12, 3) := by decide +kernel
theorem dX10_put_88 : decode cX10_put 88 = .ok (.aload_n 0, 1) := by decide +kernel
theorem dX10_put_89 : decode cX10_put 89 = .ok (.iload_n 1, 1) := by decide +kernel
theorem dX10_put_90 : decode cX10_put 90 = .ok (.iload_n 2, 1) := by decide +kernel
theorem dX10_put_91 : decode cX10_put 91 = .ok (.invokevirtual 201, 3) := by decide +kernel
theorem dX10_put_94 : decode cX10_put 94 = .ok (.goto 21, 3) := by decide +kernel
theorem dX10_put_97 : decode cX10_put 97 = .ok (.iload_n 1, 1) := by decide +kernel
theorem dX10_put_98 : decode cX10_put 98 = .ok (.sipush 24576, 3) := by decide +kernel
theorem dX10_put_101 : decode cX10_put 101 = .ok (.if_icmp .lt 14, 3) := by decide +kernel
theorem dX10_put_104 : decode cX10_put 104 = .ok (.aload_n 0, 1) := by decide +kernel
theorem dX10_put_105 : decode cX10_put 105 = .ok (.getfield 13, 3) := by decide +kernel
theorem dX10_put_108 : decode cX10_put 108 = .ok (.iload_n 1, 1) := by decide +kernel
theorem dX10_put_109 : decode cX10_put 109 = .ok (.sipush 255, 3) := by decide +kernel
theorem dX10_put_112 : decode cX10_put 112 = .ok (.iand, 1) := by decide +kernel
theorem dX10_put_113 : decode cX10_put 113 = .ok (.iload_n 2, 1) := by decide +kernel
theorem dX10_put_114 : decode cX10_put 114 = .ok (.iastore, 1) := by decide +kernel
theorem dX10_put_115 : decode cX10_put 115 = .ok (.return_, 1) := by decide +kernel
theorem dX10_word_0 : decode cX10_word 0 = .ok (.aload_n 0, 1) := by decide +kernel
theorem dX10_word_1 : decode cX10_word 1 = .ok (.iload_n 1, 1) := by decide +kernel
theorem dX10_word_2 : decode cX10_word 2 = .ok (.invokevirtual 172, 3) := by decide +kernel
theorem dX10_word_5 : decode cX10_word 5 = .ok (.istore_n 2, 1) := by decide +kernel
theorem dX10_word_6 : decode cX10_word 6 = .ok (.iload_n 2, 1) := by decide +kernel
theorem dX10_word_7 : decode cX10_word 7 = .ok (.aload_n 0, 1) := by decide +kernel
theorem dX10_word_8 : decode cX10_word 8 = .ok (.iload_n 1, 1) := by decide +kernel
theorem dX10_word_9 : decode cX10_word 9 = .ok (.iconst 1, 1) := by decide +kernel
theorem dX10_word_10 : decode cX10_word 10 = .ok (.iadd, 1) := by decide +kernel
theorem dX10_word_11 : decode cX10_word 11 = .ok (.ldc 204, 2) := by decide +kernel
theorem dX10_word_13 : decode cX10_word 13 = .ok (.iand, 1) := by decide +kernel
theorem dX10_word_14 : decode cX10_word 14 = .ok (.invokevirtual 172, 3) := by decide +kernel
theorem dX10_word_17 : decode cX10_word 17 = .ok (.bipush 8, 2) := by decide +kernel
theorem dX10_word_19 : decode cX10_word 19 = .ok (.ishl, 1) := by decide +kernel
theorem dX10_word_20 : decode cX10_word 20 = .ok (.ior, 1) := by decide +kernel
theorem dX10_word_21 : decode cX10_word 21 = .ok (.ireturn, 1) := by decide +kernel
theorem dX10_tick_0 : decode cX10_tick 0 = .ok (.aload_n 0, 1) := by decide +kernel
theorem dX10_tick_1 : decode cX10_tick 1 = .ok (.dup, 1) := by decide +kernel
theorem dX10_tick_2 : decode cX10_tick 2 = .ok (.getfield 181, 3) := by decide +kernel
theorem dX10_tick_5 : decode cX10_tick 5 = .ok (.lconst 1, 1) := by decide +kernel
theorem dX10_tick_6 : decode cX10_tick 6 = .ok (.ladd, 1) := by decide +kernel
theorem dX10_tick_7 : decode cX10_tick 7 = .ok (.putfield 181, 3) := by decide +kernel
theorem dX10_tick_10 : decode cX10_tick 10 = .ok (.iconst 0, 1) := by decide +kernel
theorem dX10_tick_11 : decode cX10_tick 11 = .ok (.istore_n 1, 1) := by decide +kernel
theorem dX10_tick_12 : decode cX10_tick 12 = .ok (.iload_n 1, 1) := by decide +kernel
theorem dX10_tick_13 : decode cX10_tick 13 = .ok (.iconst 3, 1) := by decide +kernel
theorem dX10_tick_14 : decode cX10_tick 14 = .ok (.if_icmp .ge 164, 3) := by decide +kernel
theorem dX10_tick_17 : decode cX10_tick 17 = .ok (.aload_n 0, 1) := by decide +kernel
theorem dX10_tick_18 : decode cX10_tick 18 = .ok (.dup, 1) := by decide +kernel
theorem dX10_tick_19 : decode cX10_tick 19 = .ok (.getfield 205, 3) := by decide +kernel
theorem dX10_tick_22 : decode cX10_tick 22 = .ok (.iconst 1, 1) := by decide +kernel
theorem dX10_tick_23 : decode cX10_tick 23 = .ok (.iadd, 1) := by decide +kernel
theorem dX10_tick_24 : decode cX10_tick 24 = .ok (.putfield 205, 3) := by decide +kernel
theorem dX10_tick_27 : decode cX10_tick 27 = .ok (.aload_n 0, 1) := by decide +kernel
theorem dX10_tick_28 : decode cX10_tick 28 = .ok (.getfield 205, 3) := by decide +kernel
theorem dX10_tick_31 : decode cX10_tick 31 = .ok (.sipush 341, 3) := by decide +kernel
theorem dX10_tick_34 : decode cX10_tick 34 = .ok (.if_icmp .ne 32, 3) := by decide +kernel
theorem dX10_tick_37 : decode cX10_tick 37 = .ok (.aload_n 0, 1) := by decide +kernel
theorem dX10_tick_38 : decode cX10_tick 38 = .ok (.iconst 0, 1) := by decide +kernel
theorem dX10_tick_39 : decode cX10_tick 39 = .ok (.putfield 205, 3) := by decide +kernel
theorem dX10_tick_42 : decode cX10_tick 42 = .ok (.aload_n 0, 1) := by decide +kernel
theorem dX10_tick_43 : decode cX10_tick 43 = .ok (.aload_n 0, 1) := by decide +kernel
theorem dX10_tick_44 : decode cX10_tick 44 = .ok (.getfield 208, 3) := by decide +kernel
theorem dX10_tick_47 : decode cX10_tick 47 = .ok (.sipush 261, 3) := by decide +kernel
theorem dX10_tick_50 : decode cX10_tick 50 = .ok (.if_icmp .ne 7, 3) := by decide +kernel
theorem dX10_tick_53 : decode cX10_tick 53 = .ok (.iconst 0, 1) := by decide +kernel
theorem dX10_tick_54 : decode cX10_tick 54 = .ok (.goto 9, 3) := by decide +kernel
theorem dX10_tick_57 : decode cX10_tick 57 = .ok (.aload_n 0, 1) := by decide +kernel
theorem dX10_tick_58 : decode cX10_tick 58 = .ok (.getfield 208, 3) := by decide +kernel
theorem dX10_tick_61 : decode cX10_tick 61 = .ok (.iconst 1, 1) := by decide +kernel
theorem dX10_tick_62 : decode cX10_tick 62 = .ok (.iadd, 1) := by decide +kernel
theorem dX10_tick_63 : decode cX10_tick 63 = .ok (.putfield 208, 3) := by decide +kernel
theorem dX10_tick_66 : decode cX10_tick 66 = .ok (.aload_n 0, 1) := by decide +kernel
theorem dX10_tick_67 : decode cX10_tick 67 = .ok (.getfield 205, 3) := by decide +kernel
theorem dX10_tick_70 : decode cX10_tick 70 = .ok (.iconst 1, 1) := by decide +kernel
theorem dX10_tick_71 : decode cX10_tick 71 = .ok (.if_icmp .ne 34, 3) := by decide +kernel
theorem dX10_tick_74 : decode cX10_tick 74 = .ok (.aload_n 0, 1) := by decide +kernel
theorem dX10_tick_75 : decode cX10_tick 75 = .ok (.getfield 208, 3) := by decide +kernel
theorem dX10_tick_78 : decode cX10_tick 78 = .ok (.sipush 241, 3) := by decide +kernel
theorem dX10_tick_81 : decode cX10_tick 81 = .ok (.if_icmp .ne 24, 3) := by decide +kernel
theorem dX10_tick_84 : decode cX10_tick 84 = .ok (.aload_n 0, 1) := by decide +kernel
theorem dX10_tick_85 : decode cX10_tick 85 = .ok (.iconst 1, 1) := by decide +kernel
theorem dX10_tick_86 : decode cX10_tick 86 = .ok (.putfield 110, 3) := by decide +kernel
theorem dX10_tick_89 : decode cX10_tick 89 = .ok (.aload_n 0, 1) := by decide +kernel
theorem dX10_tick_90 : decode cX10_tick 90 = .ok (.getfield 107, 3) := by decide +kernel
theorem dX10_tick_93 : decode cX10_tick 93 = .ok (.sipush 128, 3) := by decide +kernel
theorem dX10_tick_96 : decode cX10_tick 96 = .ok (.iand, 1) := by decide +kernel
theorem dX10_tick_97 : decode cX10_tick 97 = .ok (.ifCond .eq 8, 3) := by decide +kernel
theorem dX10_tick_100 : decode cX10_tick 100 = .ok (.aload_n 0, 1) := by decide +kernel
theorem dX10_tick_101 : decode cX10_tick 101 = .ok (.iconst 1, 1) := by decide +kernel
theorem dX10_tick_102 : decode cX10_tick 102 = .ok (.putfield 128, 3) := by decide +kernel
theorem dX10_tick_105 : decode cX10_tick 105 = .ok (.aload_n 0, 1) := by decide +kernel
theorem dX10_tick_106 : decode cX10_tick 106 = .ok (.getfield 205, 3) := by decide +kernel
theorem dX10_tick_109 : decode cX10_tick 109 = .ok (.iconst 1, 1) := by decide +kernel
theorem dX10_tick_110 : decode cX10_tick 110 = .ok (.if_icmp .ne 18, 3) := by decide +kernel
theorem dX10_tick_113 : decode cX10_tick 113 = .ok (.aload_n 0, 1) := by decide +kernel
theorem dX10_tick_114 : decode cX10_tick 114 = .ok (.getfield 208, 3) := by decide +kernel
theorem dX10_tick_117 : decode cX10_tick 117 = .ok (.sipush 261, 3) := by decide +kernel
theorem dX10_tick_120 : decode cX10_tick 120 = .ok (.if_icmp .ne 8, 3) := by decide +kernel
theorem dX10_tick_123 : decode cX10_tick 123 = .ok (.aload_n 0, 1) := by decide +kernel
theorem dX10_tick_124 : decode cX10_tick 124 = .ok (.iconst 0, 1) := by decide +kernel
theorem dX10_tick_125 : decode cX10_tick 125 = .ok (.putfield 110, 3) := by decide +kernel
theorem dX10_tick_128 : decode cX10_tick 128 = .ok (.aload_n 0, 1) := by decide +kernel
theorem dX10_tick_129 : decode cX10_tick 129 = .ok (.getfield 205, 3) := by decide +kernel
theorem dX10_tick_132 : decode cX10_tick 132 = .ok (.sipush 260, 3) := by decide +kernel
theorem dX10_tick_135 : decode cX10_tick 135 = .ok (.if_icmp .ne 37, 3) := by decide +kernel
theorem dX10_tick_138 : decode cX10_tick 138 = .ok (.aload_n 0, 1) := by decide +kernel
theorem dX10_tick_139 : decode cX10_tick 139 = .ok (.getfield 208, 3) := by decide +kernel
theorem dX10_tick_142 : decode cX10_tick 142 = .ok (.sipush 240, 3) := by decide +kernel
theorem dX10_tick_145 : decode cX10_tick 145 = .ok (.if_icmp .lt 13, 3) := by decide +kernel
theorem dX10_tick_148 : decode cX10_tick 148 = .ok (.aload_n 0, 1) := by decide +kernel
theorem dX10_tick_149 : decode cX10_tick 149 = .ok (.getfield 208, 3) := by decide +kernel
theorem dX10_tick_152 : decode cX10_tick 152 = .ok (.sipush 261, 3) := by decide +kernel
theorem dX10_tick_155 : decode cX10_tick 155 = .ok (.if_icmp .ne 17, 3) := by decide +kernel
theorem dX10_tick_158 : decode cX10_tick 158 = .ok (.aload_n 0, 1) := by decide +kernel
theorem dX10_tick_159 : decode cX10_tick 159 = .ok (.getfield 134, 3) := by decide +kernel
theorem dX10_tick_162 : decode cX10_tick 162 = .ok (.bipush 24, 2) := by decide +kernel
theorem dX10_tick_164 : decode cX10_tick 164 = .ok (.iand, 1) := by decide +kernel
theorem dX10_tick_165 : decode cX10_tick 165 = .ok (.ifCond .eq 7, 3) := by decide +kernel
theorem dX10_tick_168 : decode cX10_tick 168 = .ok (.aload_n 0, 1) := by decide +kernel
theorem dX10_tick_169 : decode cX10_tick 169 = .ok (.invokevirtual 211, 3) := by decide +kernel
theorem dX10_tick_172 : decode cX10_tick 172 = .ok (.iinc 1 1, 3) := by decide +kernel
theorem dX10_tick_175 : decode cX10_tick 175 = .ok (.goto (-163), 3) := by decide +kernel
theorem dX10_tick_178 : decode cX10_tick 178 = .ok (.aload_n 0, 1) := by decide +kernel
theorem dX10_tick_179 : decode cX10_tick 179 = .ok (.dup, 1) := by decide +kernel
theorem dX10_tick_180 : decode cX10_tick 180 = .ok (.getfield 166, 3) := by decide +kernel
theorem dX10_tick_183 : decode cX10_tick 183 = .ok (.iconst 1, 1) := by decide +kernel
theorem dX10_tick_184 : decode cX10_tick 184 = .ok (.iadd, 1) := by decide +kernel
theorem dX10_tick_185 : decode cX10_tick 185 = .ok (.putfield 166, 3) := by decide +kernel
theorem dX10_tick_188 : decode cX10_tick 188 = .ok (.aload_n 0, 1) := by decide +kernel
theorem dX10_tick_189 : decode cX10_tick 189 = .ok (.getfield 157, 3) := by decide +kernel
theorem dX10_tick_192 : decode cX10_tick 192 = .ok (.ifCond .eq 8, 3) := by decide +kernel
theorem dX10_tick_195 : decode cX10_tick 195 = .ok (.ldc 214, 2) := by decide +kernel
theorem dX10_tick_197 : decode cX10_tick 197 = .ok (.goto 6, 3) := by decide +kernel
theorem dX10_tick_200 : decode cX10_tick 200 = .ok (.sipush 29829, 3) := by decide +kernel
theorem dX10_tick_203 : decode cX10_tick 203 = .ok (.istore_n 1, 1) := by decide +kernel
theorem dX10_tick_204 : decode cX10_tick 204 = .ok (.aload_n 0, 1) := by decide +kernel
theorem dX10_tick_205 : decode cX10_tick 205 = .ok (.getfield 166, 3) := by decide +kernel
theorem dX10_tick_208 : decode cX10_tick 208 = .ok (.sipush 14913, 3) := by decide +kernel
theorem dX10_tick_211 : decode cX10_tick 211 = .ok (.if_icmp .eq 11, 3) := by decide +kernel
theorem dX10_tick_214 : decode cX10_tick 214 = .ok (.aload_n 0, 1) := by decide +kernel
theorem dX10_tick_215 : decode cX10_tick 215 = .ok (.getfield 166, 3) := by decide +kernel
theorem dX10_tick_218 : decode cX10_tick 218 = .ok (.iload_n 1, 1) := by decide +kernel
theorem dX10_tick_219 : decode cX10_tick 219 = .ok (.if_icmp .ne 7, 3) := by decide +kernel
theorem dX10_tick_222 : decode cX10_tick 222 = .ok (.aload_n 0, 1) := by decide +kernel
theorem dX10_tick_223 : decode cX10_tick 223 = .ok (.invokevirtual 169, 3) := by decide +kernel
theorem dX10_tick_226 : decode cX10_tick 226 = .ok (.aload_n 0, 1) := by decide +kernel
theorem dX10_tick_227 : decode cX10_tick 227 = .ok (.getfield 166, 3) := by decide +kernel
theorem dX10_tick_230 : decode cX10_tick 230 = .ok (.iload_n 1, 1) := by decide +kernel
theorem dX10_tick_231 : decode cX10_tick 231 = .ok (.if_icmp .ne 22, 3) := by decide +kernel
theorem dX10_tick_234 : decode cX10_tick 234 = .ok (.aload_n 0, 1) := by decide +kernel
theorem dX10_tick_235 : decode cX10_tick 235 = .ok (.getfield 157, 3) := by decide +kernel
theorem dX10_tick_238 : decode cX10_tick 238 = .ok (.ifCond .ne 15, 3) := by decide +kernel
theorem dX10_tick_241 : decode cX10_tick 241 = .ok (.aload_n 0, 1) := by decide +kernel
theorem dX10_tick_242 : decode cX10_tick 242 = .ok (.getfield 160, 3) := by decide +kernel
theorem dX10_tick_245 : decode cX10_tick 245 = .ok (.ifCond .ne 8, 3) := by decide +kernel
theorem dX10_tick_248 : decode cX10_tick 248 = .ok (.aload_n 0, 1) := by decide +kernel
theorem dX10_tick_249 : decode cX10_tick 249 = .ok (.iconst 1, 1) := by decide +kernel
theorem dX10_tick_250 : decode cX10_tick 250 = .ok (.putfield 163, 3) := by decide +kernel
theorem dX10_tick_253 : decode cX10_tick 253 = .ok (.aload_n 0, 1) := by decide +kernel
theorem dX10_tick_254 : decode cX10_tick 254 = .ok (.getfield 166, 3) := by decide +kernel
theorem dX10_tick_257 : decode cX10_tick 257 = .ok (.iload_n 1, 1) := by decide +kernel
theorem dX10_tick_258 : decode cX10_tick 258 = .ok (.if_icmp .le 8, 3) := by decide +kernel
theorem dX10_tick_261 : decode cX10_tick 261 = .ok (.aload_n 0, 1) := by decide +kernel
theorem dX10_tick_262 : decode cX10_tick 262 = .ok (.iconst 0, 1) := by decide +kernel
theorem dX10_tick_263 : decode cX10_tick 263 = .ok (.putfield 166, 3) := by decide +kernel
theorem dX10_tick_266 : decode cX10_tick 266 = .ok (.return_, 1) := by decide +kernel
theorem dX10_elapse_0 : decode cX10_elapse 0 = .ok (.iconst 0, 1) := by decide +kernel
theorem dX10_elapse_1 : decode cX10_elapse 1 = .ok (.istore_n 2, 1) := by decide +kernel
theorem dX10_elapse_2 : decode cX10_elapse 2 = .ok (.iload_n 2, 1) := by decide +kernel
theorem dX10_elapse_3 : decode cX10_elapse 3 = .ok (.iload_n 1, 1) := by decide +kernel
theorem dX10_elapse_4 : decode cX10_elapse 4 = .ok (.if_icmp .ge 13, 3) := by decide +kernel
theorem dX10_elapse_7 : decode cX10_elapse 7 = .ok (.aload_n 0, 1) := by decide +kernel
theorem dX10_elapse_8 : decode cX10_elapse 8 = .ok (.invokevirtual 215, 3) := by decide +kernel
theorem dX10_elapse_11 : decode cX10_elapse 11 = .ok (.iinc 2 1, 3) := by decide +kernel
theorem dX10_elapse_14 : decode cX10_elapse 14 = .ok (.goto (-12), 3) := by decide +kernel
theorem dX10_elapse_17 : decode cX10_elapse 17 = .ok (.return_, 1) := by decide +kernel
theorem dX10_fetch_0 : decode cX10_fetch 0 = .ok (.aload_n 0, 1) := by decide +kernel
theorem dX10_fetch_1 : decode cX10_fetch 1 = .ok (.aload_n 0, 1) := by decide +kernel
theorem dX10_fetch_2 : decode cX10_fetch 2 = .ok (.getfield 218, 3) := by decide +kernel
theorem dX10_fetch_5 : decode cX10_fetch 5 = .ok (.invokevirtual 172, 3) := by decide +kernel
theorem dX10_fetch_8 : decode cX10_fetch 8 = .ok (.istore_n 1, 1) := by decide +kernel
theorem dX10_fetch_9 : decode cX10_fetch 9 = .ok (.aload_n 0, 1) := by decide +kernel
theorem dX10_fetch_10 : decode cX10_fetch 10 = .ok (.aload_n 0, 1) := by decide +kernel
theorem dX10_fetch_11 : decode cX10_fetch 11 = .ok (.getfield 218, 3) := by decide +kernel
theorem dX10_fetch_14 : decode cX10_fetch 14 = .ok (.iconst 1, 1) := by decide +kernel
theorem dX10_fetch_15 : decode cX10_fetch 15 = .ok (.iadd, 1) := by decide +kernel
theorem dX10_fetch_16 : decode cX10_fetch 16 = .ok (.ldc 204, 2) := by decide +kernel
theorem dX10_fetch_18 : decode cX10_fetch 18 = .ok (.iand, 1) := by decide +kernel
theorem dX10_fetch_19 : decode cX10_fetch 19 = .ok (.putfield 218, 3) := by decide +kernel
theorem dX10_fetch_22 : decode cX10_fetch 22 = .ok (.iload_n 1, 1) := by decide +kernel
theorem dX10_fetch_23 : decode cX10_fetch 23 = .ok (.ireturn, 1) := by decide +kernel
theorem dX10_fetchWord_0 : decode cX10_fetchWord 0 = .ok (.aload_n 0, 1) := by decide +kernel
theorem dX10_fetchWord_1 : decode cX10_fetchWord 1 = .ok (.invokevirtual 221, 3) := by decide +kernel
theorem dX10_fetchWord_4 : decode cX10_fetchWord 4 = .ok (.istore_n 1, 1) := by decide +kernel
theorem dX10_fetchWord_5 : decode cX10_fetchWord 5 = .ok (.iload_n 1, 1) := by decide +kernel
theorem dX10_fetchWord_6 : decode cX10_fetchWord 6 = .ok (.aload_n 0, 1) := by decide +kernel
theorem dX10_fetchWord_7 : decode cX10_fetchWord 7 = .ok (.invokevirtual 221, 3) := by decide +kernel
theorem dX10_fetchWord_10 : decode cX10_fetchWord 10 = .ok (.bipush 8, 2) := by decide +kernel
theorem dX10_fetchWord_12 : decode cX10_fetchWord 12 = .ok (.ishl, 1) := by decide +kernel
theorem dX10_fetchWord_13 : decode cX10_fetchWord 13 = .ok (.ior, 1) := by decide +kernel
theorem dX10_fetchWord_14 : decode cX10_fetchWord 14 = .ok (.ireturn, 1) := by decide +kernel
theorem dX10_push_0 : decode cX10_push 0 = .ok (.aload_n 0, 1) := by decide +kernel
theorem dX10_push_1 : decode cX10_push 1 = .ok (.getfield 7, 3) := by decide +kernel
theorem dX10_push_4 : decode cX10_push 4 = .ok (.sipush 256, 3) := by decide +kernel
theorem dX10_push_7 : decode cX10_push 7 = .ok (.aload_n 0, 1) := by decide +kernel
theorem dX10_push_8 : decode cX10_push 8 = .ok (.getfield 225, 3) := by decide +kernel
theorem dX10_push_11 : decode cX10_push 11 = .ok (.iadd, 1) := by decide +kernel
theorem dX10_push_12 : decode cX10_push 12 = .ok (.iload_n 1, 1) := by decide +kernel
theorem dX10_push_13 : decode cX10_push 13 = .ok (.iastore, 1) := by decide +kernel
theorem dX10_push_14 : decode cX10_push 14 = .ok (.aload_n 0, 1) := by decide +kernel
theorem dX10_push_15 : decode cX10_push 15 = .ok (.aload_n 0, 1) := by decide +kernel
theorem dX10_push_16 : decode cX10_push 16 = .ok (.getfield 225, 3) := by decide +kernel
theorem dX10_push_19 : decode cX10_push 19 = .ok (.iconst 1, 1) := by decide +kernel
theorem dX10_push_20 : decode cX10_push 20 = .ok (.isub, 1) := by decide +kernel
theorem dX10_push_21 : decode cX10_push 21 = .ok (.sipush 255, 3) := by decide +kernel
theorem dX10_push_24 : decode cX10_push 24 = .ok (.iand, 1) := by decide +kernel
theorem dX10_push_25 : decode cX10_push 25 = .ok (.putfield 225, 3) := by decide +kernel
theorem dX10_push_28 : decode cX10_push 28 = .ok (.return_, 1) := by decide +kernel
theorem dX10_pull_0 : decode cX10_pull 0 = .ok (.aload_n 0, 1) := by decide +kernel
theorem dX10_pull_1 : decode cX10_pull 1 = .ok (.aload_n 0, 1) := by decide +kernel
theorem dX10_pull_2 : decode cX10_pull 2 = .ok (.getfield 225, 3) := by decide +kernel
theorem dX10_pull_5 : decode cX10_pull 5 = .ok (.iconst 1, 1) := by decide +kernel
theorem dX10_pull_6 : decode cX10_pull 6 = .ok (.iadd, 1) := by decide +kernel
theorem dX10_pull_7 : decode cX10_pull 7 = .ok (.sipush 255, 3) := by decide +kernel
theorem dX10_pull_10 : decode cX10_pull 10 = .ok (.iand, 1) := by decide +kernel
theorem dX10_pull_11 : decode cX10_pull 11 = .ok (.putfield 225, 3) := by decide +kernel
theorem dX10_pull_14 : decode cX10_pull 14 = .ok (.aload_n 0, 1) := by decide +kernel
theorem dX10_pull_15 : decode cX10_pull 15 = .ok (.getfield 7, 3) := by decide +kernel
theorem dX10_pull_18 : decode cX10_pull 18 = .ok (.sipush 256, 3) := by decide +kernel
theorem dX10_pull_21 : decode cX10_pull 21 = .ok (.aload_n 0, 1) := by decide +kernel
theorem dX10_pull_22 : decode cX10_pull 22 = .ok (.getfield 225, 3) := by decide +kernel
theorem dX10_pull_25 : decode cX10_pull 25 = .ok (.iadd, 1) := by decide +kernel
theorem dX10_pull_26 : decode cX10_pull 26 = .ok (.iaload, 1) := by decide +kernel
theorem dX10_pull_27 : decode cX10_pull 27 = .ok (.ireturn, 1) := by decide +kernel
theorem dX10_pushWord_0 : decode cX10_pushWord 0 = .ok (.aload_n 0, 1) := by decide +kernel
theorem dX10_pushWord_1 : decode cX10_pushWord 1 = .ok (.iload_n 1, 1) := by decide +kernel
theorem dX10_pushWord_2 : decode cX10_pushWord 2 = .ok (.bipush 8, 2) := by decide +kernel
theorem dX10_pushWord_4 : decode cX10_pushWord 4 = .ok (.ishr, 1) := by decide +kernel
theorem dX10_pushWord_5 : decode cX10_pushWord 5 = .ok (.invokevirtual 228, 3) := by decide +kernel
theorem dX10_pushWord_8 : decode cX10_pushWord 8 = .ok (.aload_n 0, 1) := by decide +kernel
theorem dX10_pushWord_9 : decode cX10_pushWord 9 = .ok (.iload_n 1, 1) := by decide +kernel
theorem dX10_pushWord_10 : decode cX10_pushWord 10 = .ok (.sipush 255, 3) := by decide +kernel
theorem dX10_pushWord_13 : decode cX10_pushWord 13 = .ok (.iand, 1) := by decide +kernel
theorem dX10_pushWord_14 : decode cX10_pushWord 14 = .ok (.invokevirtual 228, 3) := by decide +kernel
theorem dX10_pushWord_17 : decode cX10_pushWord 17 = .ok (.return_, 1) := by decide +kernel
theorem dX10_pullWord_0 : decode cX10_pullWord 0 = .ok (.aload_n 0, 1) := by decide +kernel
theorem dX10_pullWord_1 : decode cX10_pullWord 1 = .ok (.invokevirtual 231, 3) := by decide +kernel
theorem dX10_pullWord_4 : decode cX10_pullWord 4 = .ok (.istore_n 1, 1) := by decide +kernel
theorem dX10_pullWord_5 : decode cX10_pullWord 5 = .ok (.iload_n 1, 1) := by decide +kernel
theorem dX10_pullWord_6 : decode cX10_pullWord 6 = .ok (.aload_n 0, 1) := by decide +kernel
theorem dX10_pullWord_7 : decode cX10_pullWord 7 = .ok (.invokevirtual 231, 3) := by decide +kernel
theorem dX10_pullWord_10 : decode cX10_pullWord 10 = .ok (.bipush 8, 2) := by decide +kernel
theorem dX10_pullWord_12 : decode cX10_pullWord 12 = .ok (.ishl, 1) := by decide +kernel
theorem dX10_pullWord_13 : decode cX10_pullWord 13 = .ok (.ior, 1) := by decide +kernel
theorem dX10_pullWord_14 : decode cX10_pullWord 14 = .ok (.ireturn, 1) := by decide +kernel
theorem dX10_flag_0 : decode cX10_flag 0 = .ok (.aload_n 0, 1) := by decide +kernel
theorem dX10_flag_1 : decode cX10_flag 1 = .ok (.iload_n 2, 1) := by decide +kernel
theorem dX10_flag_2 : decode cX10_flag 2 = .ok (.ifCond .eq 12, 3) := by decide +kernel
theorem dX10_flag_5 : decode cX10_flag 5 = .ok (.aload_n 0, 1) := by decide +kernel
theorem dX10_flag_6 : decode cX10_flag 6 = .ok (.getfield 22, 3) := by decide +kernel
theorem dX10_flag_9 : decode cX10_flag 9 = .ok (.iload_n 1, 1) := by decide +kernel
theorem dX10_flag_10 : decode cX10_flag 10 = .ok (.ior, 1) := by decide +kernel
theorem dX10_flag_11 : decode cX10_flag 11 = .ok (.goto 11, 3) := by decide +kernel
theorem dX10_flag_14 : decode cX10_flag 14 = .ok (.aload_n 0, 1) := by decide +kernel
theorem dX10_flag_15 : decode cX10_flag 15 = .ok (.getfield 22, 3) := by decide +kernel
theorem dX10_flag_18 : decode cX10_flag 18 = .ok (.iload_n 1, 1) := by decide +kernel
theorem dX10_flag_19 : decode cX10_flag 19 = .ok (.iconst (-1), 1) := by decide +kernel
theorem dX10_flag_20 : decode cX10_flag 20 = .ok (.ixor, 1) := by decide +kernel
theorem dX10_flag_21 : decode cX10_flag 21 = .ok (.iand, 1) := by decide +kernel
theorem dX10_flag_22 : decode cX10_flag 22 = .ok (.putfield 22, 3) := by decide +kernel
theorem dX10_flag_25 : decode cX10_flag 25 = .ok (.return_, 1) := by decide +kernel
theorem dX10_shown_0 : decode cX10_shown 0 = .ok (.aload_n 0, 1) := by decide +kernel
theorem dX10_shown_1 : decode cX10_shown 1 = .ok (.iconst 2, 1) := by decide +kernel
theorem dX10_shown_2 : decode cX10_shown 2 = .ok (.iload_n 1, 1) := by decide +kernel
theorem dX10_shown_3 : decode cX10_shown 3 = .ok (.ifCond .ne 7, 3) := by decide +kernel
theorem dX10_shown_6 : decode cX10_shown 6 = .ok (.iconst 1, 1) := by decide +kernel
theorem dX10_shown_7 : decode cX10_shown 7 = .ok (.goto 4, 3) := by decide +kernel
theorem dX10_shown_10 : decode cX10_shown 10 = .ok (.iconst 0, 1) := by decide +kernel
theorem dX10_shown_11 : decode cX10_shown 11 = .ok (.invokevirtual 234, 3) := by decide +kernel
theorem dX10_shown_14 : decode cX10_shown 14 = .ok (.aload_n 0, 1) := by decide +kernel
theorem dX10_shown_15 : decode cX10_shown 15 = .ok (.sipush 128, 3) := by decide +kernel
theorem dX10_shown_18 : decode cX10_shown 18 = .ok (.iload_n 1, 1) := by decide +kernel
theorem dX10_shown_19 : decode cX10_shown 19 = .ok (.sipush 128, 3) := by decide +kernel
theorem dX10_shown_22 : decode cX10_shown 22 = .ok (.iand, 1) := by decide +kernel
theorem dX10_shown_23 : decode cX10_shown 23 = .ok (.ifCond .eq 7, 3) := by decide +kernel
theorem dX10_shown_26 : decode cX10_shown 26 = .ok (.iconst 1, 1) := by decide +kernel
theorem dX10_shown_27 : decode cX10_shown 27 = .ok (.goto 4, 3) := by decide +kernel
theorem dX10_shown_30 : decode cX10_shown 30 = .ok (.iconst 0, 1) := by decide +kernel
theorem dX10_shown_31 : decode cX10_shown 31 = .ok (.invokevirtual 234, 3) := by decide +kernel
theorem dX10_shown_34 : decode cX10_shown 34 = .ok (.iload_n 1, 1) := by decide +kernel
theorem dX10_shown_35 : decode cX10_shown 35 = .ok (.ireturn, 1) := by decide +kernel
theorem dX10_interrupt_0 : decode cX10_interrupt 0 = .ok (.aload_n 0, 1) := by decide +kernel
theorem dX10_interrupt_1 : decode cX10_interrupt 1 = .ok (.aload_n 0, 1) := by decide +kernel
theorem dX10_interrupt_2 : decode cX10_interrupt 2 = .ok (.getfield 218, 3) := by decide +kernel
theorem dX10_interrupt_5 : decode cX10_interrupt 5 = .ok (.invokevirtual 238, 3) := by decide +kernel
theorem dX10_interrupt_8 : decode cX10_interrupt 8 = .ok (.aload_n 0, 1) := by decide +kernel
theorem dX10_interrupt_9 : decode cX10_interrupt 9 = .ok (.iload_n 2, 1) := by decide +kernel
theorem dX10_interrupt_10 : decode cX10_interrupt 10 = .ok (.invokevirtual 228, 3) := by decide +kernel
theorem dX10_interrupt_13 : decode cX10_interrupt 13 = .ok (.aload_n 0, 1) := by decide +kernel
theorem dX10_interrupt_14 : decode cX10_interrupt 14 = .ok (.iconst 4, 1) := by decide +kernel
theorem dX10_interrupt_15 : decode cX10_interrupt 15 = .ok (.iconst 1, 1) := by decide +kernel
theorem dX10_interrupt_16 : decode cX10_interrupt 16 = .ok (.invokevirtual 234, 3) := by decide +kernel
theorem dX10_interrupt_19 : decode cX10_interrupt 19 = .ok (.aload_n 0, 1) := by decide +kernel
theorem dX10_interrupt_20 : decode cX10_interrupt 20 = .ok (.aload_n 0, 1) := by decide +kernel
theorem dX10_interrupt_21 : decode cX10_interrupt 21 = .ok (.iload_n 1, 1) := by decide +kernel
theorem dX10_interrupt_22 : decode cX10_interrupt 22 = .ok (.invokevirtual 241, 3) := by decide +kernel
theorem dX10_interrupt_25 : decode cX10_interrupt 25 = .ok (.putfield 218, 3) := by decide +kernel
theorem dX10_interrupt_28 : decode cX10_interrupt 28 = .ok (.return_, 1) := by decide +kernel
theorem dX10_addressed_0 : decode cX10_addressed 0 = .ok (.iload_n 1, 1) := by decide +kernel
theorem dX10_addressed_1 : decode cX10_addressed 1 = .ok (.tableswitch 153 1 8 #[47, 71, 76, 90, 104, 109, 122, 135], 47) := by decide +kernel
theorem dX10_addressed_48 : decode cX10_addressed 48 = .ok (.aload_n 0, 1) := by decide +kernel
theorem dX10_addressed_49 : decode cX10_addressed 49 = .ok (.aload_n 0, 1) := by decide +kernel
theorem dX10_addressed_50 : decode cX10_addressed 50 = .ok (.getfield 218, 3) := by decide +kernel
theorem dX10_addressed_53 : decode cX10_addressed 53 = .ok (.iconst 1, 1) := by decide +kernel
theorem dX10_addressed_54 : decode cX10_addressed 54 = .ok (.iadd, 1) := by decide +kernel
theorem dX10_addressed_55 : decode cX10_addressed 55 = .ok (.ldc 204, 2) := by decide +kernel
theorem dX10_addressed_57 : decode cX10_addressed 57 = .ok (.iand, 1) := by decide +kernel
theorem dX10_addressed_58 : decode cX10_addressed 58 = .ok (.putfield 218, 3) := by decide +kernel
theorem dX10_addressed_61 : decode cX10_addressed 61 = .ok (.aload_n 0, 1) := by decide +kernel
theorem dX10_addressed_62 : decode cX10_addressed 62 = .ok (.getfield 218, 3) := by decide +kernel
theorem dX10_addressed_65 : decode cX10_addressed 65 = .ok (.ldc 204, 2) := by decide +kernel
theorem dX10_addressed_67 : decode cX10_addressed 67 = .ok (.iadd, 1) := by decide +kernel
theorem dX10_addressed_68 : decode cX10_addressed 68 = .ok (.ldc 204, 2) := by decide +kernel
theorem dX10_addressed_70 : decode cX10_addressed 70 = .ok (.iand, 1) := by decide +kernel
theorem dX10_addressed_71 : decode cX10_addressed 71 = .ok (.ireturn, 1) := by decide +kernel
theorem dX10_addressed_72 : decode cX10_addressed 72 = .ok (.aload_n 0, 1) := by decide +kernel
theorem dX10_addressed_73 : decode cX10_addressed 73 = .ok (.invokevirtual 221, 3) := by decide +kernel
theorem dX10_addressed_76 : decode cX10_addressed 76 = .ok (.ireturn, 1) := by decide +kernel
theorem dX10_addressed_77 : decode cX10_addressed 77 = .ok (.aload_n 0, 1) := by decide +kernel
theorem dX10_addressed_78 : decode cX10_addressed 78 = .ok (.invokevirtual 221, 3) := by decide +kernel
theorem dX10_addressed_81 : decode cX10_addressed 81 = .ok (.aload_n 0, 1) := by decide +kernel
theorem dX10_addressed_82 : decode cX10_addressed 82 = .ok (.getfield 244, 3) := by decide +kernel
theorem dX10_addressed_85 : decode cX10_addressed 85 = .ok (.iadd, 1) := by decide +kernel
theorem dX10_addressed_86 : decode cX10_addressed 86 = .ok (.sipush 255, 3) := by decide +kernel
theorem dX10_addressed_89 : decode cX10_addressed 89 = .ok (.iand, 1) := by decide +kernel
theorem dX10_addressed_90 : decode cX10_addressed 90 = .ok (.ireturn, 1) := by decide +kernel
theorem dX10_addressed_91 : decode cX10_addressed 91 = .ok (.aload_n 0, 1) := by decide +kernel
theorem dX10_addressed_92 : decode cX10_addressed 92 = .ok (.invokevirtual 221, 3) := by decide +kernel
theorem dX10_addressed_95 : decode cX10_addressed 95 = .ok (.aload_n 0, 1) := by decide +kernel
theorem dX10_addressed_96 : decode cX10_addressed 96 = .ok (.getfield 247, 3) := by decide +kernel
theorem dX10_addressed_99 : decode cX10_addressed 99 = .ok (.iadd, 1) := by decide +kernel
theorem dX10_addressed_100 : decode cX10_addressed 100 = .ok (.sipush 255, 3) := by decide +kernel
theorem dX10_addressed_103 : decode cX10_addressed 103 = .ok (.iand, 1) := by decide +kernel
theorem dX10_addressed_104 : decode cX10_addressed 104 = .ok (.ireturn, 1) := by decide +kernel
theorem dX10_addressed_105 : decode cX10_addressed 105 = .ok (.aload_n 0, 1) := by decide +kernel
theorem dX10_addressed_106 : decode cX10_addressed 106 = .ok (.invokevirtual 250, 3) := by decide +kernel
theorem dX10_addressed_109 : decode cX10_addressed 109 = .ok (.ireturn, 1) := by decide +kernel
theorem dX10_addressed_110 : decode cX10_addressed 110 = .ok (.aload_n 0, 1) := by decide +kernel
theorem dX10_addressed_111 : decode cX10_addressed 111 = .ok (.aload_n 0, 1) := by decide +kernel
theorem dX10_addressed_112 : decode cX10_addressed 112 = .ok (.invokevirtual 250, 3) := by decide +kernel
theorem dX10_addressed_115 : decode cX10_addressed 115 = .ok (.aload_n 0, 1) := by decide +kernel
theorem dX10_addressed_116 : decode cX10_addressed 116 = .ok (.getfield 244, 3) := by decide +kernel
theorem dX10_addressed_119 : decode cX10_addressed 119 = .ok (.invokevirtual 253, 3) := by decide +kernel
theorem dX10_addressed_122 : decode cX10_addressed 122 = .ok (.ireturn, 1) := by decide +kernel
theorem dX10_addressed_123 : decode cX10_addressed 123 = .ok (.aload_n 0, 1) := by decide +kernel
theorem dX10_addressed_124 : decode cX10_addressed 124 = .ok (.aload_n 0, 1) := by decide +kernel
theorem dX10_addressed_125 : decode cX10_addressed 125 = .ok (.invokevirtual 250, 3) := by decide +kernel
theorem dX10_addressed_128 : decode cX10_addressed 128 = .ok (.aload_n 0, 1) := by decide +kernel
theorem dX10_addressed_129 : decode cX10_addressed 129 = .ok (.getfield 247, 3) := by decide +kernel
theorem dX10_addressed_132 : decode cX10_addressed 132 = .ok (.invokevirtual 253, 3) := by decide +kernel
theorem dX10_addressed_135 : decode cX10_addressed 135 = .ok (.ireturn, 1) := by decide +kernel
theorem dX10_addressed_136 : decode cX10_addressed 136 = .ok (.aload_n 0, 1) := by decide +kernel
theorem dX10_addressed_137 : decode cX10_addressed 137 = .ok (.aload_n 0, 1) := by decide +kernel
theorem dX10_addressed_138 : decode cX10_addressed 138 = .ok (.invokevirtual 221, 3) := by decide +kernel
theorem dX10_addressed_141 : decode cX10_addressed 141 = .ok (.aload_n 0, 1) := by decide +kernel
theorem dX10_addressed_142 : decode cX10_addressed 142 = .ok (.getfield 244, 3) := by decide +kernel
theorem dX10_addressed_145 : decode cX10_addressed 145 = .ok (.iadd, 1) := by decide +kernel
theorem dX10_addressed_146 : decode cX10_addressed 146 = .ok (.sipush 255, 3) := by decide +kernel
theorem dX10_addressed_149 : decode cX10_addressed 149 = .ok (.iand, 1) := by decide +kernel
theorem dX10_addressed_150 : decode cX10_addressed 150 = .ok (.invokevirtual 257, 3) := by decide +kernel
theorem dX10_addressed_153 : decode cX10_addressed 153 = .ok (.ireturn, 1) := by decide +kernel
theorem dX10_addressed_154 : decode cX10_addressed 154 = .ok (.aload_n 0, 1) := by decide +kernel
theorem dX10_addressed_155 : decode cX10_addressed 155 = .ok (.aload_n 0, 1) := by decide +kernel
theorem dX10_addressed_156 : decode cX10_addressed 156 = .ok (.aload_n 0, 1) := by decide +kernel
theorem dX10_addressed_157 : decode cX10_addressed 157 = .ok (.invokevirtual 221, 3) := by decide +kernel
theorem dX10_addressed_160 : decode cX10_addressed 160 = .ok (.invokevirtual 257, 3) := by decide +kernel
theorem dX10_addressed_163 : decode cX10_addressed 163 = .ok (.aload_n 0, 1) := by decide +kernel
theorem dX10_addressed_164 : decode cX10_addressed 164 = .ok (.getfield 247, 3) := by decide +kernel
theorem dX10_addressed_167 : decode cX10_addressed 167 = .ok (.invokevirtual 253, 3) := by decide +kernel
theorem dX10_addressed_170 : decode cX10_addressed 170 = .ok (.ireturn, 1) := by decide +kernel
theorem dX10_pointed_0 : decode cX10_pointed 0 = .ok (.aload_n 0, 1) := by decide +kernel
theorem dX10_pointed_1 : decode cX10_pointed 1 = .ok (.getfield 7, 3) := by decide +kernel
theorem dX10_pointed_4 : decode cX10_pointed 4 = .ok (.iload_n 1, 1) := by decide +kernel
theorem dX10_pointed_5 : decode cX10_pointed 5 = .ok (.iaload, 1) := by decide +kernel
theorem dX10_pointed_6 : decode cX10_pointed 6 = .ok (.istore_n 2, 1) := by decide +kernel
theorem dX10_pointed_7 : decode cX10_pointed 7 = .ok (.iload_n 2, 1) := by decide +kernel
theorem dX10_pointed_8 : decode cX10_pointed 8 = .ok (.aload_n 0, 1) := by decide +kernel
theorem dX10_pointed_9 : decode cX10_pointed 9 = .ok (.getfield 7, 3) := by decide +kernel
theorem dX10_pointed_12 : decode cX10_pointed 12 = .ok (.iload_n 1, 1) := by decide +kernel
theorem dX10_pointed_13 : decode cX10_pointed 13 = .ok (.iconst 1, 1) := by decide +kernel
theorem dX10_pointed_14 : decode cX10_pointed 14 = .ok (.iadd, 1) := by decide +kernel
theorem dX10_pointed_15 : decode cX10_pointed 15 = .ok (.sipush 255, 3) := by decide +kernel
theorem dX10_pointed_18 : decode cX10_pointed 18 = .ok (.iand, 1) := by decide +kernel
theorem dX10_pointed_19 : decode cX10_pointed 19 = .ok (.iaload, 1) := by decide +kernel
theorem dX10_pointed_20 : decode cX10_pointed 20 = .ok (.bipush 8, 2) := by decide +kernel
theorem dX10_pointed_22 : decode cX10_pointed 22 = .ok (.ishl, 1) := by decide +kernel
theorem dX10_pointed_23 : decode cX10_pointed 23 = .ok (.ior, 1) := by decide +kernel
theorem dX10_pointed_24 : decode cX10_pointed 24 = .ok (.ireturn, 1) := by decide +kernel
theorem dX10_indexed_0 : decode cX10_indexed 0 = .ok (.iload_n 1, 1) := by decide +kernel
theorem dX10_indexed_1 : decode cX10_indexed 1 = .ok (.iload_n 2, 1) := by decide +kernel
theorem dX10_indexed_2 : decode cX10_indexed 2 = .ok (.iadd, 1) := by decide +kernel
theorem dX10_indexed_3 : decode cX10_indexed 3 = .ok (.ldc 204, 2) := by decide +kernel
theorem dX10_indexed_5 : decode cX10_indexed 5 = .ok (.iand, 1) := by decide +kernel
theorem dX10_indexed_6 : decode cX10_indexed 6 = .ok (.istore_n 3, 1) := by decide +kernel
theorem dX10_indexed_7 : decode cX10_indexed 7 = .ok (.aload_n 0, 1) := by decide +kernel
theorem dX10_indexed_8 : decode cX10_indexed 8 = .ok (.iload_n 3, 1) := by decide +kernel
theorem dX10_indexed_9 : decode cX10_indexed 9 = .ok (.iload_n 1, 1) := by decide +kernel
theorem dX10_indexed_10 : decode cX10_indexed 10 = .ok (.ixor, 1) := by decide +kernel
theorem dX10_indexed_11 : decode cX10_indexed 11 = .ok (.sipush 255, 3) := by decide +kernel
theorem dX10_indexed_14 : decode cX10_indexed 14 = .ok (.if_icmp .le 7, 3) := by decide +kernel
theorem dX10_indexed_17 : decode cX10_indexed 17 = .ok (.iconst 1, 1) := by decide +kernel
theorem dX10_indexed_18 : decode cX10_indexed 18 = .ok (.goto 4, 3) := by decide +kernel
theorem dX10_indexed_21 : decode cX10_indexed 21 = .ok (.iconst 0, 1) := by decide +kernel
theorem dX10_indexed_22 : decode cX10_indexed 22 = .ok (.putfield 260, 3) := by decide +kernel
theorem dX10_indexed_25 : decode cX10_indexed 25 = .ok (.iload_n 3, 1) := by decide +kernel
theorem dX10_indexed_26 : decode cX10_indexed 26 = .ok (.ireturn, 1) := by decide +kernel
theorem dX10_cyclesOf_0 : decode cX10_cyclesOf 0 = .ok (.iload_n 0, 1) := by decide +kernel
theorem dX10_cyclesOf_1 : decode cX10_cyclesOf 1 = .ok (.tableswitch 60 1 9 #[51, 53, 60, 60, 60, 60, 60, 55, 58], 51) := by decide +kernel
theorem dX10_cyclesOf_52 : decode cX10_cyclesOf 52 = .ok (.iconst 2, 1) := by decide +kernel
theorem dX10_cyclesOf_53 : decode cX10_cyclesOf 53 = .ok (.ireturn, 1) := by decide +kernel
theorem dX10_cyclesOf_54 : decode cX10_cyclesOf 54 = .ok (.iconst 3, 1) := by decide +kernel
theorem dX10_cyclesOf_55 : decode cX10_cyclesOf 55 = .ok (.ireturn, 1) := by decide +kernel
theorem dX10_cyclesOf_56 : decode cX10_cyclesOf 56 = .ok (.bipush 6, 2) := by decide +kernel
theorem dX10_cyclesOf_58 : decode cX10_cyclesOf 58 = .ok (.ireturn, 1) := by decide +kernel
theorem dX10_cyclesOf_59 : decode cX10_cyclesOf 59 = .ok (.iconst 5, 1) := by decide +kernel
theorem dX10_cyclesOf_60 : decode cX10_cyclesOf 60 = .ok (.ireturn, 1) := by decide +kernel
theorem dX10_cyclesOf_61 : decode cX10_cyclesOf 61 = .ok (.iconst 4, 1) := by decide +kernel
theorem dX10_cyclesOf_62 : decode cX10_cyclesOf 62 = .ok (.ireturn, 1) := by decide +kernel
theorem dX10_modeOne_0 : decode cX10_modeOne 0 = .ok (.iload_n 1, 1) := by decide +kernel
theorem dX10_modeOne_1 : decode cX10_modeOne 1 = .ok (.ifCond .ne 8, 3) := by decide +kernel
theorem dX10_modeOne_4 : decode cX10_modeOne 4 = .ok (.bipush 8, 2) := by decide +kernel
theorem dX10_modeOne_6 : decode cX10_modeOne 6 = .ok (.goto 62, 3) := by decide +kernel
theorem dX10_modeOne_9 : decode cX10_modeOne 9 = .ok (.iload_n 1, 1) := by decide +kernel
theorem dX10_modeOne_10 : decode cX10_modeOne 10 = .ok (.iconst 1, 1) := by decide +kernel
theorem dX10_modeOne_11 : decode cX10_modeOne 11 = .ok (.if_icmp .ne 7, 3) := by decide +kernel
theorem dX10_modeOne_14 : decode cX10_modeOne 14 = .ok (.iconst 2, 1) := by decide +kernel
theorem dX10_modeOne_15 : decode cX10_modeOne 15 = .ok (.goto 53, 3) := by decide +kernel
theorem dX10_modeOne_18 : decode cX10_modeOne 18 = .ok (.iload_n 1, 1) := by decide +kernel
theorem dX10_modeOne_19 : decode cX10_modeOne 19 = .ok (.iconst 2, 1) := by decide +kernel
theorem dX10_modeOne_20 : decode cX10_modeOne 20 = .ok (.if_icmp .ne 7, 3) := by decide +kernel
theorem dX10_modeOne_23 : decode cX10_modeOne 23 = .ok (.iconst 1, 1) := by decide +kernel
theorem dX10_modeOne_24 : decode cX10_modeOne 24 = .ok (.goto 44, 3) := by decide +kernel
theorem dX10_modeOne_27 : decode cX10_modeOne 27 = .ok (.iload_n 1, 1) := by decide +kernel
theorem dX10_modeOne_28 : decode cX10_modeOne 28 = .ok (.iconst 3, 1) := by decide +kernel
theorem dX10_modeOne_29 : decode cX10_modeOne 29 = .ok (.if_icmp .ne 7, 3) := by decide +kernel
theorem dX10_modeOne_32 : decode cX10_modeOne 32 = .ok (.iconst 5, 1) := by decide +kernel
theorem dX10_modeOne_33 : decode cX10_modeOne 33 = .ok (.goto 35, 3) := by decide +kernel
theorem dX10_modeOne_36 : decode cX10_modeOne 36 = .ok (.iload_n 1, 1) := by decide +kernel
theorem dX10_modeOne_37 : decode cX10_modeOne 37 = .ok (.iconst 4, 1) := by decide +kernel
theorem dX10_modeOne_38 : decode cX10_modeOne 38 = .ok (.if_icmp .ne 8, 3) := by decide +kernel
theorem dX10_modeOne_41 : decode cX10_modeOne 41 = .ok (.bipush 9, 2) := by decide +kernel
theorem dX10_modeOne_43 : decode cX10_modeOne 43 = .ok (.goto 25, 3) := by decide +kernel
theorem dX10_modeOne_46 : decode cX10_modeOne 46 = .ok (.iload_n 1, 1) := by decide +kernel
theorem dX10_modeOne_47 : decode cX10_modeOne 47 = .ok (.iconst 5, 1) := by decide +kernel
theorem dX10_modeOne_48 : decode cX10_modeOne 48 = .ok (.if_icmp .ne 7, 3) := by decide +kernel
theorem dX10_modeOne_51 : decode cX10_modeOne 51 = .ok (.iconst 3, 1) := by decide +kernel
theorem dX10_modeOne_52 : decode cX10_modeOne 52 = .ok (.goto 16, 3) := by decide +kernel
theorem dX10_modeOne_55 : decode cX10_modeOne 55 = .ok (.iload_n 1, 1) := by decide +kernel
theorem dX10_modeOne_56 : decode cX10_modeOne 56 = .ok (.bipush 6, 2) := by decide +kernel
theorem dX10_modeOne_58 : decode cX10_modeOne 58 = .ok (.if_icmp .ne 8, 3) := by decide +kernel
theorem dX10_modeOne_61 : decode cX10_modeOne 61 = .ok (.bipush 7, 2) := by decide +kernel
theorem dX10_modeOne_63 : decode cX10_modeOne 63 = .ok (.goto 5, 3) := by decide +kernel
theorem dX10_modeOne_66 : decode cX10_modeOne 66 = .ok (.bipush 6, 2) := by decide +kernel
theorem dX10_modeOne_68 : decode cX10_modeOne 68 = .ok (.ireturn, 1) := by decide +kernel
theorem dX10_compare_0 : decode cX10_compare 0 = .ok (.aload_n 0, 1) := by decide +kernel
theorem dX10_compare_1 : decode cX10_compare 1 = .ok (.iconst 1, 1) := by decide +kernel
theorem dX10_compare_2 : decode cX10_compare 2 = .ok (.iload_n 1, 1) := by decide +kernel
theorem dX10_compare_3 : decode cX10_compare 3 = .ok (.iload_n 2, 1) := by decide +kernel
theorem dX10_compare_4 : decode cX10_compare 4 = .ok (.if_icmp .lt 7, 3) := by decide +kernel
theorem dX10_compare_7 : decode cX10_compare 7 = .ok (.iconst 1, 1) := by decide +kernel
theorem dX10_compare_8 : decode cX10_compare 8 = .ok (.goto 4, 3) := by decide +kernel
theorem dX10_compare_11 : decode cX10_compare 11 = .ok (.iconst 0, 1) := by decide +kernel
theorem dX10_compare_12 : decode cX10_compare 12 = .ok (.invokevirtual 234, 3) := by decide +kernel
theorem dX10_compare_15 : decode cX10_compare 15 = .ok (.aload_n 0, 1) := by decide +kernel
theorem dX10_compare_16 : decode cX10_compare 16 = .ok (.iload_n 1, 1) := by decide +kernel
theorem dX10_compare_17 : decode cX10_compare 17 = .ok (.iload_n 2, 1) := by decide +kernel
theorem dX10_compare_18 : decode cX10_compare 18 = .ok (.isub, 1) := by decide +kernel
theorem dX10_compare_19 : decode cX10_compare 19 = .ok (.sipush 255, 3) := by decide +kernel
theorem dX10_compare_22 : decode cX10_compare 22 = .ok (.iand, 1) := by decide +kernel
theorem dX10_compare_23 : decode cX10_compare 23 = .ok (.invokevirtual 263, 3) := by decide +kernel
theorem dX10_compare_26 : decode cX10_compare 26 = .ok (.pop, 1) := by decide +kernel
theorem dX10_compare_27 : decode cX10_compare 27 = .ok (.return_, 1) := by decide +kernel
theorem dX10_add_0 : decode cX10_add 0 = .ok (.aload_n 0, 1) := by decide +kernel
theorem dX10_add_1 : decode cX10_add 1 = .ok (.getfield 266, 3) := by decide +kernel
theorem dX10_add_4 : decode cX10_add 4 = .ok (.iload_n 1, 1) := by decide +kernel
theorem dX10_add_5 : decode cX10_add 5 = .ok (.iadd, 1) := by decide +kernel
theorem dX10_add_6 : decode cX10_add 6 = .ok (.aload_n 0, 1) := by decide +kernel
theorem dX10_add_7 : decode cX10_add 7 = .ok (.getfield 22, 3) := by decide +kernel
theorem dX10_add_10 : decode cX10_add 10 = .ok (.iconst 1, 1) := by decide +kernel
theorem dX10_add_11 : decode cX10_add 11 = .ok (.iand, 1) := by decide +kernel
theorem dX10_add_12 : decode cX10_add 12 = .ok (.iadd, 1) := by decide +kernel
theorem dX10_add_13 : decode cX10_add 13 = .ok (.istore_n 2, 1) := by decide +kernel
theorem dX10_add_14 : decode cX10_add 14 = .ok (.aload_n 0, 1) := by decide +kernel
theorem dX10_add_15 : decode cX10_add 15 = .ok (.iconst 1, 1) := by decide +kernel
theorem dX10_add_16 : decode cX10_add 16 = .ok (.iload_n 2, 1) := by decide +kernel
theorem dX10_add_17 : decode cX10_add 17 = .ok (.sipush 255, 3) := by decide +kernel
theorem dX10_add_20 : decode cX10_add 20 = .ok (.if_icmp .le 7, 3) := by decide +kernel
theorem dX10_add_23 : decode cX10_add 23 = .ok (.iconst 1, 1) := by decide +kernel
theorem dX10_add_24 : decode cX10_add 24 = .ok (.goto 4, 3) := by decide +kernel
theorem dX10_add_27 : decode cX10_add 27 = .ok (.iconst 0, 1) := by decide +kernel
theorem dX10_add_28 : decode cX10_add 28 = .ok (.invokevirtual 234, 3) := by decide +kernel
theorem dX10_add_31 : decode cX10_add 31 = .ok (.aload_n 0, 1) := by decide +kernel
theorem dX10_add_32 : decode cX10_add 32 = .ok (.bipush 64, 2) := by decide +kernel
theorem dX10_add_34 : decode cX10_add 34 = .ok (.aload_n 0, 1) := by decide +kernel
theorem dX10_add_35 : decode cX10_add 35 = .ok (.getfield 266, 3) := by decide +kernel
theorem dX10_add_38 : decode cX10_add 38 = .ok (.iload_n 1, 1) := by decide +kernel
theorem dX10_add_39 : decode cX10_add 39 = .ok (.ixor, 1) := by decide +kernel
theorem dX10_add_40 : decode cX10_add 40 = .ok (.iconst (-1), 1) := by decide +kernel
theorem dX10_add_41 : decode cX10_add 41 = .ok (.ixor, 1) := by decide +kernel
theorem dX10_add_42 : decode cX10_add 42 = .ok (.aload_n 0, 1) := by decide +kernel
theorem dX10_add_43 : decode cX10_add 43 = .ok (.getfield 266, 3) := by decide +kernel
theorem dX10_add_46 : decode cX10_add 46 = .ok (.iload_n 2, 1) := by decide +kernel
theorem dX10_add_47 : decode cX10_add 47 = .ok (.ixor, 1) := by decide +kernel
theorem dX10_add_48 : decode cX10_add 48 = .ok (.iand, 1) := by decide +kernel
theorem dX10_add_49 : decode cX10_add 49 = .ok (.sipush 128, 3) := by decide +kernel
theorem dX10_add_52 : decode cX10_add 52 = .ok (.iand, 1) := by decide +kernel
theorem dX10_add_53 : decode cX10_add 53 = .ok (.ifCond .eq 7, 3) := by decide +kernel
theorem dX10_add_56 : decode cX10_add 56 = .ok (.iconst 1, 1) := by decide +kernel
theorem dX10_add_57 : decode cX10_add 57 = .ok (.goto 4, 3) := by decide +kernel
theorem dX10_add_60 : decode cX10_add 60 = .ok (.iconst 0, 1) := by decide +kernel
theorem dX10_add_61 : decode cX10_add 61 = .ok (.invokevirtual 234, 3) := by decide +kernel
theorem dX10_add_64 : decode cX10_add 64 = .ok (.aload_n 0, 1) := by decide +kernel
theorem dX10_add_65 : decode cX10_add 65 = .ok (.aload_n 0, 1) := by decide +kernel
theorem dX10_add_66 : decode cX10_add 66 = .ok (.iload_n 2, 1) := by decide +kernel
theorem dX10_add_67 : decode cX10_add 67 = .ok (.sipush 255, 3) := by decide +kernel
theorem dX10_add_70 : decode cX10_add 70 = .ok (.iand, 1) := by decide +kernel
theorem dX10_add_71 : decode cX10_add 71 = .ok (.invokevirtual 263, 3) := by decide +kernel
theorem dX10_add_74 : decode cX10_add 74 = .ok (.putfield 266, 3) := by decide +kernel
theorem dX10_add_77 : decode cX10_add 77 = .ok (.return_, 1) := by decide +kernel
theorem dX10_arithmetic_0 : decode cX10_arithmetic 0 = .ok (.aload_n 0, 1) := by decide +kernel
theorem dX10_arithmetic_1 : decode cX10_arithmetic 1 = .ok (.iload_n 2, 1) := by decide +kernel
theorem dX10_arithmetic_2 : decode cX10_arithmetic 2 = .ok (.invokevirtual 269, 3) := by decide +kernel
theorem dX10_arithmetic_5 : decode cX10_arithmetic 5 = .ok (.istore_n 3, 1) := by decide +kernel
theorem dX10_arithmetic_6 : decode cX10_arithmetic 6 = .ok (.iload_n 1, 1) := by decide +kernel
theorem dX10_arithmetic_7 : decode cX10_arithmetic 7 = .ok (.iconst 4, 1) := by decide +kernel
theorem dX10_arithmetic_8 : decode cX10_arithmetic 8 = .ok (.if_icmp .ne 53, 3) := by decide +kernel
theorem dX10_arithmetic_11 : decode cX10_arithmetic 11 = .ok (.aload_n 0, 1) := by decide +kernel
theorem dX10_arithmetic_12 : decode cX10_arithmetic 12 = .ok (.iload_n 3, 1) := by decide +kernel
theorem dX10_arithmetic_13 : decode cX10_arithmetic 13 = .ok (.aload_n 0, 1) := by decide +kernel
theorem dX10_arithmetic_14 : decode cX10_arithmetic 14 = .ok (.getfield 266, 3) := by decide +kernel
theorem dX10_arithmetic_17 : decode cX10_arithmetic 17 = .ok (.invokevirtual 272, 3) := by decide +kernel
theorem dX10_arithmetic_20 : decode cX10_arithmetic 20 = .ok (.iload_n 2, 1) := by decide +kernel
theorem dX10_arithmetic_21 : decode cX10_arithmetic 21 = .ok (.bipush 6, 2) := by decide +kernel
theorem dX10_arithmetic_23 : decode cX10_arithmetic 23 = .ok (.if_icmp .eq 15, 3) := by decide +kernel
theorem dX10_arithmetic_26 : decode cX10_arithmetic 26 = .ok (.iload_n 2, 1) := by decide +kernel
theorem dX10_arithmetic_27 : decode cX10_arithmetic 27 = .ok (.bipush 7, 2) := by decide +kernel
theorem dX10_arithmetic_29 : decode cX10_arithmetic 29 = .ok (.if_icmp .eq 9, 3) := by decide +kernel
theorem dX10_arithmetic_32 : decode cX10_arithmetic 32 = .ok (.iload_n 2, 1) := by decide +kernel
theorem dX10_arithmetic_33 : decode cX10_arithmetic 33 = .ok (.bipush 9, 2) := by decide +kernel
theorem dX10_arithmetic_35 : decode cX10_arithmetic 35 = .ok (.if_icmp .ne 7, 3) := by decide +kernel
theorem dX10_arithmetic_38 : decode cX10_arithmetic 38 = .ok (.iconst 1, 1) := by decide +kernel
theorem dX10_arithmetic_39 : decode cX10_arithmetic 39 = .ok (.goto 4, 3) := by decide +kernel
theorem dX10_arithmetic_42 : decode cX10_arithmetic 42 = .ok (.iconst 0, 1) := by decide +kernel
theorem dX10_arithmetic_43 : decode cX10_arithmetic 43 = .ok (.istore 4, 2) := by decide +kernel
theorem dX10_arithmetic_45 : decode cX10_arithmetic 45 = .ok (.iload_n 2, 1) := by decide +kernel
theorem dX10_arithmetic_46 : decode cX10_arithmetic 46 = .ok (.invokestatic 275, 3) := by decide +kernel
theorem dX10_arithmetic_49 : decode cX10_arithmetic 49 = .ok (.iload 4, 2) := by decide +kernel
theorem dX10_arithmetic_51 : decode cX10_arithmetic 51 = .ok (.ifCond .eq 7, 3) := by decide +kernel
theorem dX10_arithmetic_54 : decode cX10_arithmetic 54 = .ok (.iconst 1, 1) := by decide +kernel
theorem dX10_arithmetic_55 : decode cX10_arithmetic 55 = .ok (.goto 4, 3) := by decide +kernel
theorem dX10_arithmetic_58 : decode cX10_arithmetic 58 = .ok (.iconst 0, 1) := by decide +kernel
theorem dX10_arithmetic_59 : decode cX10_arithmetic 59 = .ok (.iadd, 1) := by decide +kernel
theorem dX10_arithmetic_60 : decode cX10_arithmetic 60 = .ok (.ireturn, 1) := by decide +kernel
theorem dX10_arithmetic_61 : decode cX10_arithmetic 61 = .ok (.aload_n 0, 1) := by decide +kernel
theorem dX10_arithmetic_62 : decode cX10_arithmetic 62 = .ok (.iload_n 3, 1) := by decide +kernel
theorem dX10_arithmetic_63 : decode cX10_arithmetic 63 = .ok (.invokevirtual 172, 3) := by decide +kernel
theorem dX10_arithmetic_66 : decode cX10_arithmetic 66 = .ok (.istore 4, 2) := by decide +kernel
theorem dX10_arithmetic_68 : decode cX10_arithmetic 68 = .ok (.iload_n 1, 1) := by decide +kernel
theorem dX10_arithmetic_69 : decode cX10_arithmetic 69 = .ok (.tableswitch 132 0 6 #[43, 61, 79, 97, 132, 106, 119], 43) := by decide +kernel
theorem dX10_arithmetic_112 : decode cX10_arithmetic 112 = .ok (.aload_n 0, 1) := by decide +kernel
theorem dX10_arithmetic_113 : decode cX10_arithmetic 113 = .ok (.aload_n 0, 1) := by decide +kernel
theorem dX10_arithmetic_114 : decode cX10_arithmetic 114 = .ok (.aload_n 0, 1) := by decide +kernel
theorem dX10_arithmetic_115 : decode cX10_arithmetic 115 = .ok (.getfield 266, 3) := by decide +kernel
theorem dX10_arithmetic_118 : decode cX10_arithmetic 118 = .ok (.iload 4, 2) := by decide +kernel
theorem dX10_arithmetic_120 : decode cX10_arithmetic 120 = .ok (.ior, 1) := by decide +kernel
theorem dX10_arithmetic_121 : decode cX10_arithmetic 121 = .ok (.invokevirtual 263, 3) := by decide +kernel
theorem dX10_arithmetic_124 : decode cX10_arithmetic 124 = .ok (.putfield 266, 3) := by decide +kernel
theorem dX10_arithmetic_127 : decode cX10_arithmetic 127 = .ok (.goto 84, 3) := by decide +kernel
theorem dX10_arithmetic_130 : decode cX10_arithmetic 130 = .ok (.aload_n 0, 1) := by decide +kernel
theorem dX10_arithmetic_131 : decode cX10_arithmetic 131 = .ok (.aload_n 0, 1) := by decide +kernel
theorem dX10_arithmetic_132 : decode cX10_arithmetic 132 = .ok (.aload_n 0, 1) := by decide +kernel
theorem dX10_arithmetic_133 : decode cX10_arithmetic 133 = .ok (.getfield 266, 3) := by decide +kernel
theorem dX10_arithmetic_136 : decode cX10_arithmetic 136 = .ok (.iload 4, 2) := by decide +kernel
theorem dX10_arithmetic_138 : decode cX10_arithmetic 138 = .ok (.iand, 1) := by decide +kernel
theorem dX10_arithmetic_139 : decode cX10_arithmetic 139 = .ok (.invokevirtual 263, 3) := by decide +kernel
theorem dX10_arithmetic_142 : decode cX10_arithmetic 142 = .ok (.putfield 266, 3) := by decide +kernel
theorem dX10_arithmetic_145 : decode cX10_arithmetic 145 = .ok (.goto 66, 3) := by decide +kernel
theorem dX10_arithmetic_148 : decode cX10_arithmetic 148 = .ok (.aload_n 0, 1) := by decide +kernel
theorem dX10_arithmetic_149 : decode cX10_arithmetic 149 = .ok (.aload_n 0, 1) := by decide +kernel
theorem dX10_arithmetic_150 : decode cX10_arithmetic 150 = .ok (.aload_n 0, 1) := by decide +kernel
theorem dX10_arithmetic_151 : decode cX10_arithmetic 151 = .ok (.getfield 266, 3) := by decide +kernel
theorem dX10_arithmetic_154 : decode cX10_arithmetic 154 = .ok (.iload 4, 2) := by decide +kernel
theorem dX10_arithmetic_156 : decode cX10_arithmetic 156 = .ok (.ixor, 1) := by decide +kernel
theorem dX10_arithmetic_157 : decode cX10_arithmetic 157 = .ok (.invokevirtual 263, 3) := by decide +kernel
theorem dX10_arithmetic_160 : decode cX10_arithmetic 160 = .ok (.putfield 266, 3) := by decide +kernel
theorem dX10_arithmetic_163 : decode cX10_arithmetic 163 = .ok (.goto 48, 3) := by decide +kernel
theorem dX10_arithmetic_166 : decode cX10_arithmetic 166 = .ok (.aload_n 0, 1) := by decide +kernel
theorem dX10_arithmetic_167 : decode cX10_arithmetic 167 = .ok (.iload 4, 2) := by decide +kernel
theorem dX10_arithmetic_169 : decode cX10_arithmetic 169 = .ok (.invokevirtual 278, 3) := by decide +kernel
theorem dX10_arithmetic_172 : decode cX10_arithmetic 172 = .ok (.goto 39, 3) := by decide +kernel
theorem dX10_arithmetic_175 : decode cX10_arithmetic 175 = .ok (.aload_n 0, 1) := by decide +kernel
theorem dX10_arithmetic_176 : decode cX10_arithmetic 176 = .ok (.aload_n 0, 1) := by decide +kernel
theorem dX10_arithmetic_177 : decode cX10_arithmetic 177 = .ok (.iload 4, 2) := by decide +kernel
theorem dX10_arithmetic_179 : decode cX10_arithmetic 179 = .ok (.invokevirtual 263, 3) := by decide +kernel
theorem dX10_arithmetic_182 : decode cX10_arithmetic 182 = .ok (.putfield 266, 3) := by decide +kernel
theorem dX10_arithmetic_185 : decode cX10_arithmetic 185 = .ok (.goto 26, 3) := by decide +kernel
theorem dX10_arithmetic_188 : decode cX10_arithmetic 188 = .ok (.aload_n 0, 1) := by decide +kernel
theorem dX10_arithmetic_189 : decode cX10_arithmetic 189 = .ok (.aload_n 0, 1) := by decide +kernel
theorem dX10_arithmetic_190 : decode cX10_arithmetic 190 = .ok (.getfield 266, 3) := by decide +kernel
theorem dX10_arithmetic_193 : decode cX10_arithmetic 193 = .ok (.iload 4, 2) := by decide +kernel
theorem dX10_arithmetic_195 : decode cX10_arithmetic 195 = .ok (.invokevirtual 281, 3) := by decide +kernel
theorem dX10_arithmetic_198 : decode cX10_arithmetic 198 = .ok (.goto 13, 3) := by decide +kernel
theorem dX10_arithmetic_201 : decode cX10_arithmetic 201 = .ok (.aload_n 0, 1) := by decide +kernel
theorem dX10_arithmetic_202 : decode cX10_arithmetic 202 = .ok (.iload 4, 2) := by decide +kernel
theorem dX10_arithmetic_204 : decode cX10_arithmetic 204 = .ok (.sipush 255, 3) := by decide +kernel
theorem dX10_arithmetic_207 : decode cX10_arithmetic 207 = .ok (.ixor, 1) := by decide +kernel
theorem dX10_arithmetic_208 : decode cX10_arithmetic 208 = .ok (.invokevirtual 278, 3) := by decide +kernel
theorem dX10_arithmetic_211 : decode cX10_arithmetic 211 = .ok (.iload_n 2, 1) := by decide +kernel
theorem dX10_arithmetic_212 : decode cX10_arithmetic 212 = .ok (.invokestatic 275, 3) := by decide +kernel
theorem dX10_arithmetic_215 : decode cX10_arithmetic 215 = .ok (.aload_n 0, 1) := by decide +kernel
theorem dX10_arithmetic_216 : decode cX10_arithmetic 216 = .ok (.getfield 260, 3) := by decide +kernel
theorem dX10_arithmetic_219 : decode cX10_arithmetic 219 = .ok (.ifCond .eq 7, 3) := by decide +kernel
theorem dX10_arithmetic_222 : decode cX10_arithmetic 222 = .ok (.iconst 1, 1) := by decide +kernel
theorem dX10_arithmetic_223 : decode cX10_arithmetic 223 = .ok (.goto 4, 3) := by decide +kernel
theorem dX10_arithmetic_226 : decode cX10_arithmetic 226 = .ok (.iconst 0, 1) := by decide +kernel
theorem dX10_arithmetic_227 : decode cX10_arithmetic 227 = .ok (.iadd, 1) := by decide +kernel
theorem dX10_arithmetic_228 : decode cX10_arithmetic 228 = .ok (.ireturn, 1) := by decide +kernel
theorem dX10_changed_0 : decode cX10_changed 0 = .ok (.aload_n 0, 1) := by decide +kernel
theorem dX10_changed_1 : decode cX10_changed 1 = .ok (.getfield 22, 3) := by decide +kernel
theorem dX10_changed_4 : decode cX10_changed 4 = .ok (.iconst 1, 1) := by decide +kernel
theorem dX10_changed_5 : decode cX10_changed 5 = .ok (.iand, 1) := by decide +kernel
theorem dX10_changed_6 : decode cX10_changed 6 = .ok (.istore_n 3, 1) := by decide +kernel
theorem dX10_changed_7 : decode cX10_changed 7 = .ok (.iload_n 1, 1) := by decide +kernel
theorem dX10_changed_8 : decode cX10_changed 8 = .ok (.iconst 5, 1) := by decide +kernel
theorem dX10_changed_9 : decode cX10_changed 9 = .ok (.if_icmp .le 27, 3) := by decide +kernel
theorem dX10_changed_12 : decode cX10_changed 12 = .ok (.aload_n 0, 1) := by decide +kernel
theorem dX10_changed_13 : decode cX10_changed 13 = .ok (.iload_n 2, 1) := by decide +kernel
theorem dX10_changed_14 : decode cX10_changed 14 = .ok (.iload_n 1, 1) := by decide +kernel
theorem dX10_changed_15 : decode cX10_changed 15 = .ok (.bipush 6, 2) := by decide +kernel
theorem dX10_changed_17 : decode cX10_changed 17 = .ok (.if_icmp .ne 9, 3) := by decide +kernel
theorem dX10_changed_20 : decode cX10_changed 20 = .ok (.sipush 255, 3) := by decide +kernel
theorem dX10_changed_23 : decode cX10_changed 23 = .ok (.goto 4, 3) := by decide +kernel
theorem dX10_changed_26 : decode cX10_changed 26 = .ok (.iconst 1, 1) := by decide +kernel
theorem dX10_changed_27 : decode cX10_changed 27 = .ok (.iadd, 1) := by decide +kernel
theorem dX10_changed_28 : decode cX10_changed 28 = .ok (.sipush 255, 3) := by decide +kernel
theorem dX10_changed_31 : decode cX10_changed 31 = .ok (.iand, 1) := by decide +kernel
theorem dX10_changed_32 : decode cX10_changed 32 = .ok (.invokevirtual 263, 3) := by decide +kernel
theorem dX10_changed_35 : decode cX10_changed 35 = .ok (.ireturn, 1) := by decide +kernel
theorem dX10_changed_36 : decode cX10_changed 36 = .ok (.aload_n 0, 1) := by decide +kernel
theorem dX10_changed_37 : decode cX10_changed 37 = .ok (.iconst 1, 1) := by decide +kernel
theorem dX10_changed_38 : decode cX10_changed 38 = .ok (.iload_n 2, 1) := by decide +kernel
theorem dX10_changed_39 : decode cX10_changed 39 = .ok (.iload_n 1, 1) := by decide +kernel
theorem dX10_changed_40 : decode cX10_changed 40 = .ok (.iconst 2, 1) := by decide +kernel
theorem dX10_changed_41 : decode cX10_changed 41 = .ok (.if_icmp .ge 9, 3) := by decide +kernel
theorem dX10_changed_44 : decode cX10_changed 44 = .ok (.sipush 128, 3) := by decide +kernel
theorem dX10_changed_47 : decode cX10_changed 47 = .ok (.goto 4, 3) := by decide +kernel
theorem dX10_changed_50 : decode cX10_changed 50 = .ok (.iconst 1, 1) := by decide +kernel
theorem dX10_changed_51 : decode cX10_changed 51 = .ok (.iand, 1) := by decide +kernel
theorem dX10_changed_52 : decode cX10_changed 52 = .ok (.ifCond .eq 7, 3) := by decide +kernel
theorem dX10_changed_55 : decode cX10_changed 55 = .ok (.iconst 1, 1) := by decide +kernel
theorem dX10_changed_56 : decode cX10_changed 56 = .ok (.goto 4, 3) := by decide +kernel
theorem dX10_changed_59 : decode cX10_changed 59 = .ok (.iconst 0, 1) := by decide +kernel
theorem dX10_changed_60 : decode cX10_changed 60 = .ok (.invokevirtual 234, 3) := by decide +kernel
theorem dX10_changed_63 : decode cX10_changed 63 = .ok (.iload_n 1, 1) := by decide +kernel
theorem dX10_changed_64 : decode cX10_changed 64 = .ok (.iconst 2, 1) := by decide +kernel
theorem dX10_changed_65 : decode cX10_changed 65 = .ok (.if_icmp .ge 26, 3) := by decide +kernel
theorem dX10_changed_68 : decode cX10_changed 68 = .ok (.aload_n 0, 1) := by decide +kernel
theorem dX10_changed_69 : decode cX10_changed 69 = .ok (.iload_n 2, 1) := by decide +kernel
theorem dX10_changed_70 : decode cX10_changed 70 = .ok (.iconst 1, 1) := by decide +kernel
theorem dX10_changed_71 : decode cX10_changed 71 = .ok (.ishl, 1) := by decide +kernel
theorem dX10_changed_72 : decode cX10_changed 72 = .ok (.sipush 255, 3) := by decide +kernel
theorem dX10_changed_75 : decode cX10_changed 75 = .ok (.iand, 1) := by decide +kernel
theorem dX10_changed_76 : decode cX10_changed 76 = .ok (.iload_n 1, 1) := by decide +kernel
theorem dX10_changed_77 : decode cX10_changed 77 = .ok (.iconst 1, 1) := by decide +kernel
theorem dX10_changed_78 : decode cX10_changed 78 = .ok (.if_icmp .ne 7, 3) := by decide +kernel
theorem dX10_changed_81 : decode cX10_changed 81 = .ok (.iload_n 3, 1) := by decide +kernel
theorem dX10_changed_82 : decode cX10_changed 82 = .ok (.goto 4, 3) := by decide +kernel
theorem dX10_changed_85 : decode cX10_changed 85 = .ok (.iconst 0, 1) := by decide +kernel
theorem dX10_changed_86 : decode cX10_changed 86 = .ok (.ior, 1) := by decide +kernel
theorem dX10_changed_87 : decode cX10_changed 87 = .ok (.invokevirtual 263, 3) := by decide +kernel
theorem dX10_changed_90 : decode cX10_changed 90 = .ok (.ireturn, 1) := by decide +kernel
theorem dX10_changed_91 : decode cX10_changed 91 = .ok (.aload_n 0, 1) := by decide +kernel
theorem dX10_changed_92 : decode cX10_changed 92 = .ok (.iload_n 2, 1) := by decide +kernel
theorem dX10_changed_93 : decode cX10_changed 93 = .ok (.iconst 1, 1) := by decide +kernel
theorem dX10_changed_94 : decode cX10_changed 94 = .ok (.ishr, 1) := by decide +kernel
theorem dX10_changed_95 : decode cX10_changed 95 = .ok (.iload_n 1, 1) := by decide +kernel
theorem dX10_changed_96 : decode cX10_changed 96 = .ok (.iconst 3, 1) := by decide +kernel
theorem dX10_changed_97 : decode cX10_changed 97 = .ok (.if_icmp .ne 10, 3) := by decide +kernel
theorem dX10_changed_100 : decode cX10_changed 100 = .ok (.iload_n 3, 1) := by decide +kernel
theorem dX10_changed_101 : decode cX10_changed 101 = .ok (.bipush 7, 2) := by decide +kernel
theorem dX10_changed_103 : decode cX10_changed 103 = .ok (.ishl, 1) := by decide +kernel
theorem dX10_changed_104 : decode cX10_changed 104 = .ok (.goto 4, 3) := by decide +kernel
theorem dX10_changed_107 : decode cX10_changed 107 = .ok (.iconst 0, 1) := by decide +kernel
theorem dX10_changed_108 : decode cX10_changed 108 = .ok (.ior, 1) := by decide +kernel
theorem dX10_changed_109 : decode cX10_changed 109 = .ok (.invokevirtual 263, 3) := by decide +kernel
theorem dX10_changed_112 : decode cX10_changed 112 = .ok (.ireturn, 1) := by decide +kernel
theorem dX10_change_0 : decode cX10_change 0 = .ok (.iload_n 2, 1) := by decide +kernel
theorem dX10_change_1 : decode cX10_change 1 = .ok (.ifCond .ne 18, 3) := by decide +kernel
theorem dX10_change_4 : decode cX10_change 4 = .ok (.aload_n 0, 1) := by decide +kernel
theorem dX10_change_5 : decode cX10_change 5 = .ok (.aload_n 0, 1) := by decide +kernel
theorem dX10_change_6 : decode cX10_change 6 = .ok (.iload_n 1, 1) := by decide +kernel
theorem dX10_change_7 : decode cX10_change 7 = .ok (.aload_n 0, 1) := by decide +kernel
theorem dX10_change_8 : decode cX10_change 8 = .ok (.getfield 266, 3) := by decide +kernel
theorem dX10_change_11 : decode cX10_change 11 = .ok (.invokevirtual 284, 3) := by decide +kernel
theorem dX10_change_14 : decode cX10_change 14 = .ok (.putfield 266, 3) := by decide +kernel
theorem dX10_change_17 : decode cX10_change 17 = .ok (.iconst 2, 1) := by decide +kernel
theorem dX10_change_18 : decode cX10_change 18 = .ok (.ireturn, 1) := by decide +kernel
theorem dX10_change_19 : decode cX10_change 19 = .ok (.aload_n 0, 1) := by decide +kernel
theorem dX10_change_20 : decode cX10_change 20 = .ok (.iload_n 2, 1) := by decide +kernel
theorem dX10_change_21 : decode cX10_change 21 = .ok (.invokevirtual 269, 3) := by decide +kernel
theorem dX10_change_24 : decode cX10_change 24 = .ok (.istore_n 3, 1) := by decide +kernel
theorem dX10_change_25 : decode cX10_change 25 = .ok (.aload_n 0, 1) := by decide +kernel
theorem dX10_change_26 : decode cX10_change 26 = .ok (.iload_n 3, 1) := by decide +kernel
theorem dX10_change_27 : decode cX10_change 27 = .ok (.invokevirtual 172, 3) := by decide +kernel
theorem dX10_change_30 : decode cX10_change 30 = .ok (.istore 4, 2) := by decide +kernel
theorem dX10_change_32 : decode cX10_change 32 = .ok (.aload_n 0, 1) := by decide +kernel
theorem dX10_change_33 : decode cX10_change 33 = .ok (.iload_n 3, 1) := by decide +kernel
theorem dX10_change_34 : decode cX10_change 34 = .ok (.aload_n 0, 1) := by decide +kernel
theorem dX10_change_35 : decode cX10_change 35 = .ok (.iload_n 1, 1) := by decide +kernel
theorem dX10_change_36 : decode cX10_change 36 = .ok (.iload 4, 2) := by decide +kernel
theorem dX10_change_38 : decode cX10_change 38 = .ok (.invokevirtual 284, 3) := by decide +kernel
theorem dX10_change_41 : decode cX10_change 41 = .ok (.invokevirtual 272, 3) := by decide +kernel
theorem dX10_change_44 : decode cX10_change 44 = .ok (.iload_n 2, 1) := by decide +kernel
theorem dX10_change_45 : decode cX10_change 45 = .ok (.iconst 2, 1) := by decide +kernel
theorem dX10_change_46 : decode cX10_change 46 = .ok (.if_icmp .ne 7, 3) := by decide +kernel
theorem dX10_change_49 : decode cX10_change 49 = .ok (.iconst 5, 1) := by decide +kernel
theorem dX10_change_50 : decode cX10_change 50 = .ok (.goto 16, 3) := by decide +kernel
theorem dX10_change_53 : decode cX10_change 53 = .ok (.iload_n 2, 1) := by decide +kernel
theorem dX10_change_54 : decode cX10_change 54 = .ok (.bipush 6, 2) := by decide +kernel
theorem dX10_change_56 : decode cX10_change 56 = .ok (.if_icmp .ne 8, 3) := by decide +kernel
theorem dX10_change_59 : decode cX10_change 59 = .ok (.bipush 7, 2) := by decide +kernel
theorem dX10_change_61 : decode cX10_change 61 = .ok (.goto 5, 3) := by decide +kernel
theorem dX10_change_64 : decode cX10_change 64 = .ok (.bipush 6, 2) := by decide +kernel
theorem dX10_change_66 : decode cX10_change 66 = .ok (.ireturn, 1) := by decide +kernel
theorem dX10_doTwo_0 : decode cX10_doTwo 0 = .ok (.iload_n 1, 1) := by decide +kernel
theorem dX10_doTwo_1 : decode cX10_doTwo 1 = .ok (.iconst 4, 1) := by decide +kernel
theorem dX10_doTwo_2 : decode cX10_doTwo 2 = .ok (.if_icmp .eq 8, 3) := by decide +kernel
theorem dX10_doTwo_5 : decode cX10_doTwo 5 = .ok (.iload_n 1, 1) := by decide +kernel
theorem dX10_doTwo_6 : decode cX10_doTwo 6 = .ok (.iconst 5, 1) := by decide +kernel
theorem dX10_doTwo_7 : decode cX10_doTwo 7 = .ok (.if_icmp .ne 7, 3) := by decide +kernel
theorem dX10_doTwo_10 : decode cX10_doTwo 10 = .ok (.iconst 1, 1) := by decide +kernel
theorem dX10_doTwo_11 : decode cX10_doTwo 11 = .ok (.goto 4, 3) := by decide +kernel
theorem dX10_doTwo_14 : decode cX10_doTwo 14 = .ok (.iconst 0, 1) := by decide +kernel
theorem dX10_doTwo_15 : decode cX10_doTwo 15 = .ok (.istore_n 3, 1) := by decide +kernel
theorem dX10_doTwo_16 : decode cX10_doTwo 16 = .ok (.iload_n 2, 1) := by decide +kernel
theorem dX10_doTwo_17 : decode cX10_doTwo 17 = .ok (.ifCond .ne 18, 3) := by decide +kernel
theorem dX10_doTwo_20 : decode cX10_doTwo 20 = .ok (.iload_n 1, 1) := by decide +kernel
theorem dX10_doTwo_21 : decode cX10_doTwo 21 = .ok (.iconst 5, 1) := by decide +kernel
theorem dX10_doTwo_22 : decode cX10_doTwo 22 = .ok (.if_icmp .ne 11, 3) := by decide +kernel
theorem dX10_doTwo_25 : decode cX10_doTwo 25 = .ok (.aload_n 0, 1) := by decide +kernel
theorem dX10_doTwo_26 : decode cX10_doTwo 26 = .ok (.iconst 1, 1) := by decide +kernel
theorem dX10_doTwo_27 : decode cX10_doTwo 27 = .ok (.invokevirtual 287, 3) := by decide +kernel
theorem dX10_doTwo_30 : decode cX10_doTwo 30 = .ok (.goto 4, 3) := by decide +kernel
theorem dX10_doTwo_33 : decode cX10_doTwo 33 = .ok (.iconst (-1), 1) := by decide +kernel
theorem dX10_doTwo_34 : decode cX10_doTwo 34 = .ok (.ireturn, 1) := by decide +kernel
theorem dX10_doTwo_35 : decode cX10_doTwo 35 = .ok (.iload_n 2, 1) := by decide +kernel
theorem dX10_doTwo_36 : decode cX10_doTwo 36 = .ok (.iconst 2, 1) := by decide +kernel
theorem dX10_doTwo_37 : decode cX10_doTwo 37 = .ok (.if_icmp .ne 14, 3) := by decide +kernel
theorem dX10_doTwo_40 : decode cX10_doTwo 40 = .ok (.iload_n 1, 1) := by decide +kernel
theorem dX10_doTwo_41 : decode cX10_doTwo 41 = .ok (.iconst 3, 1) := by decide +kernel
theorem dX10_doTwo_42 : decode cX10_doTwo 42 = .ok (.if_icmp .le 9, 3) := by decide +kernel
theorem dX10_doTwo_45 : decode cX10_doTwo 45 = .ok (.aload_n 0, 1) := by decide +kernel
theorem dX10_doTwo_46 : decode cX10_doTwo 46 = .ok (.iload_n 1, 1) := by decide +kernel
theorem dX10_doTwo_47 : decode cX10_doTwo 47 = .ok (.invokevirtual 290, 3) := by decide +kernel
theorem dX10_doTwo_50 : decode cX10_doTwo 50 = .ok (.ireturn, 1) := by decide +kernel
theorem dX10_doTwo_51 : decode cX10_doTwo 51 = .ok (.iload_n 2, 1) := by decide +kernel
theorem dX10_doTwo_52 : decode cX10_doTwo 52 = .ok (.iconst 4, 1) := by decide +kernel
theorem dX10_doTwo_53 : decode cX10_doTwo 53 = .ok (.if_icmp .eq 13, 3) := by decide +kernel
theorem dX10_doTwo_56 : decode cX10_doTwo 56 = .ok (.iload_n 2, 1) := by decide +kernel
theorem dX10_doTwo_57 : decode cX10_doTwo 57 = .ok (.bipush 6, 2) := by decide +kernel
theorem dX10_doTwo_59 : decode cX10_doTwo 59 = .ok (.if_icmp .ne 9, 3) := by decide +kernel
theorem dX10_doTwo_62 : decode cX10_doTwo 62 = .ok (.iload_n 3, 1) := by decide +kernel
theorem dX10_doTwo_63 : decode cX10_doTwo 63 = .ok (.ifCond .ne 5, 3) := by decide +kernel
theorem dX10_doTwo_66 : decode cX10_doTwo 66 = .ok (.iconst (-1), 1) := by decide +kernel
theorem dX10_doTwo_67 : decode cX10_doTwo 67 = .ok (.ireturn, 1) := by decide +kernel
theorem dX10_doTwo_68 : decode cX10_doTwo 68 = .ok (.iload_n 2, 1) := by decide +kernel
theorem dX10_doTwo_69 : decode cX10_doTwo 69 = .ok (.bipush 6, 2) := by decide +kernel
theorem dX10_doTwo_71 : decode cX10_doTwo 71 = .ok (.if_icmp .ne 9, 3) := by decide +kernel
theorem dX10_doTwo_74 : decode cX10_doTwo 74 = .ok (.aload_n 0, 1) := by decide +kernel
theorem dX10_doTwo_75 : decode cX10_doTwo 75 = .ok (.iload_n 1, 1) := by decide +kernel
theorem dX10_doTwo_76 : decode cX10_doTwo 76 = .ok (.invokevirtual 293, 3) := by decide +kernel
theorem dX10_doTwo_79 : decode cX10_doTwo 79 = .ok (.ireturn, 1) := by decide +kernel
theorem dX10_doTwo_80 : decode cX10_doTwo 80 = .ok (.iload_n 2, 1) := by decide +kernel
theorem dX10_doTwo_81 : decode cX10_doTwo 81 = .ok (.iconst 1, 1) := by decide +kernel
theorem dX10_doTwo_82 : decode cX10_doTwo 82 = .ok (.if_icmp .ne 7, 3) := by decide +kernel
theorem dX10_doTwo_85 : decode cX10_doTwo 85 = .ok (.iconst 2, 1) := by decide +kernel
theorem dX10_doTwo_86 : decode cX10_doTwo 86 = .ok (.goto 49, 3) := by decide +kernel
theorem dX10_doTwo_89 : decode cX10_doTwo 89 = .ok (.iload_n 2, 1) := by decide +kernel
theorem dX10_doTwo_90 : decode cX10_doTwo 90 = .ok (.iconst 2, 1) := by decide +kernel
theorem dX10_doTwo_91 : decode cX10_doTwo 91 = .ok (.if_icmp .ne 7, 3) := by decide +kernel
theorem dX10_doTwo_94 : decode cX10_doTwo 94 = .ok (.iconst 0, 1) := by decide +kernel
theorem dX10_doTwo_95 : decode cX10_doTwo 95 = .ok (.goto 40, 3) := by decide +kernel
theorem dX10_doTwo_98 : decode cX10_doTwo 98 = .ok (.iload_n 2, 1) := by decide +kernel
theorem dX10_doTwo_99 : decode cX10_doTwo 99 = .ok (.iconst 3, 1) := by decide +kernel
theorem dX10_doTwo_100 : decode cX10_doTwo 100 = .ok (.if_icmp .ne 7, 3) := by decide +kernel
theorem dX10_doTwo_103 : decode cX10_doTwo 103 = .ok (.iconst 5, 1) := by decide +kernel
theorem dX10_doTwo_104 : decode cX10_doTwo 104 = .ok (.goto 31, 3) := by decide +kernel
theorem dX10_doTwo_107 : decode cX10_doTwo 107 = .ok (.iload_n 2, 1) := by decide +kernel
theorem dX10_doTwo_108 : decode cX10_doTwo 108 = .ok (.iconst 5, 1) := by decide +kernel
theorem dX10_doTwo_109 : decode cX10_doTwo 109 = .ok (.if_icmp .ne 15, 3) := by decide +kernel
theorem dX10_doTwo_112 : decode cX10_doTwo 112 = .ok (.iload_n 3, 1) := by decide +kernel
theorem dX10_doTwo_113 : decode cX10_doTwo 113 = .ok (.ifCond .eq 7, 3) := by decide +kernel
theorem dX10_doTwo_116 : decode cX10_doTwo 116 = .ok (.iconst 4, 1) := by decide +kernel
theorem dX10_doTwo_117 : decode cX10_doTwo 117 = .ok (.goto 18, 3) := by decide +kernel
theorem dX10_doTwo_120 : decode cX10_doTwo 120 = .ok (.iconst 3, 1) := by decide +kernel
theorem dX10_doTwo_121 : decode cX10_doTwo 121 = .ok (.goto 14, 3) := by decide +kernel
theorem dX10_doTwo_124 : decode cX10_doTwo 124 = .ok (.iload_n 3, 1) := by decide +kernel
theorem dX10_doTwo_125 : decode cX10_doTwo 125 = .ok (.ifCond .eq 8, 3) := by decide +kernel
theorem dX10_doTwo_128 : decode cX10_doTwo 128 = .ok (.bipush 7, 2) := by decide +kernel
theorem dX10_doTwo_130 : decode cX10_doTwo 130 = .ok (.goto 5, 3) := by decide +kernel
theorem dX10_doTwo_133 : decode cX10_doTwo 133 = .ok (.bipush 6, 2) := by decide +kernel
theorem dX10_doTwo_135 : decode cX10_doTwo 135 = .ok (.istore 4, 2) := by decide +kernel
theorem dX10_doTwo_137 : decode cX10_doTwo 137 = .ok (.iload_n 1, 1) := by decide +kernel
theorem dX10_doTwo_138 : decode cX10_doTwo 138 = .ok (.iconst 5, 1) := by decide +kernel
theorem dX10_doTwo_139 : decode cX10_doTwo 139 = .ok (.if_icmp .ne 10, 3) := by decide +kernel
theorem dX10_doTwo_142 : decode cX10_doTwo 142 = .ok (.aload_n 0, 1) := by decide +kernel
theorem dX10_doTwo_143 : decode cX10_doTwo 143 = .ok (.iload 4, 2) := by decide +kernel
theorem dX10_doTwo_145 : decode cX10_doTwo 145 = .ok (.invokevirtual 287, 3) := by decide +kernel
theorem dX10_doTwo_148 : decode cX10_doTwo 148 = .ok (.ireturn, 1) := by decide +kernel
theorem dX10_doTwo_149 : decode cX10_doTwo 149 = .ok (.iload_n 1, 1) := by decide +kernel
theorem dX10_doTwo_150 : decode cX10_doTwo 150 = .ok (.iconst 4, 1) := by decide +kernel
theorem dX10_doTwo_151 : decode cX10_doTwo 151 = .ok (.if_icmp .ne 11, 3) := by decide +kernel
theorem dX10_doTwo_154 : decode cX10_doTwo 154 = .ok (.iload_n 2, 1) := by decide +kernel
theorem dX10_doTwo_155 : decode cX10_doTwo 155 = .ok (.bipush 7, 2) := by decide +kernel
theorem dX10_doTwo_157 : decode cX10_doTwo 157 = .ok (.if_icmp .ne 5, 3) := by decide +kernel
theorem dX10_doTwo_160 : decode cX10_doTwo 160 = .ok (.iconst (-1), 1) := by decide +kernel
theorem dX10_doTwo_161 : decode cX10_doTwo 161 = .ok (.ireturn, 1) := by decide +kernel
theorem dX10_doTwo_162 : decode cX10_doTwo 162 = .ok (.iload_n 1, 1) := by decide +kernel
theorem dX10_doTwo_163 : decode cX10_doTwo 163 = .ok (.iconst 4, 1) := by decide +kernel
theorem dX10_doTwo_164 : decode cX10_doTwo 164 = .ok (.if_icmp .eq 11, 3) := by decide +kernel
theorem dX10_doTwo_167 : decode cX10_doTwo 167 = .ok (.aload_n 0, 1) := by decide +kernel
theorem dX10_doTwo_168 : decode cX10_doTwo 168 = .ok (.iload_n 1, 1) := by decide +kernel
theorem dX10_doTwo_169 : decode cX10_doTwo 169 = .ok (.iload 4, 2) := by decide +kernel
theorem dX10_doTwo_171 : decode cX10_doTwo 171 = .ok (.invokevirtual 296, 3) := by decide +kernel
theorem dX10_doTwo_174 : decode cX10_doTwo 174 = .ok (.ireturn, 1) := by decide +kernel
theorem dX10_doTwo_175 : decode cX10_doTwo 175 = .ok (.aload_n 0, 1) := by decide +kernel
theorem dX10_doTwo_176 : decode cX10_doTwo 176 = .ok (.aload_n 0, 1) := by decide +kernel
theorem dX10_doTwo_177 : decode cX10_doTwo 177 = .ok (.iload 4, 2) := by decide +kernel
theorem dX10_doTwo_179 : decode cX10_doTwo 179 = .ok (.invokevirtual 269, 3) := by decide +kernel
theorem dX10_doTwo_182 : decode cX10_doTwo 182 = .ok (.aload_n 0, 1) := by decide +kernel
theorem dX10_doTwo_183 : decode cX10_doTwo 183 = .ok (.getfield 244, 3) := by decide +kernel
theorem dX10_doTwo_186 : decode cX10_doTwo 186 = .ok (.invokevirtual 272, 3) := by decide +kernel
theorem dX10_doTwo_189 : decode cX10_doTwo 189 = .ok (.iload 4, 2) := by decide +kernel
theorem dX10_doTwo_191 : decode cX10_doTwo 191 = .ok (.invokestatic 275, 3) := by decide +kernel
theorem dX10_doTwo_194 : decode cX10_doTwo 194 = .ok (.ireturn, 1) := by decide +kernel
theorem dX10_loadX_0 : decode cX10_loadX 0 = .ok (.aload_n 0, 1) := by decide +kernel
theorem dX10_loadX_1 : decode cX10_loadX 1 = .ok (.iload_n 1, 1) := by decide +kernel
theorem dX10_loadX_2 : decode cX10_loadX 2 = .ok (.invokevirtual 269, 3) := by decide +kernel
theorem dX10_loadX_5 : decode cX10_loadX 5 = .ok (.istore_n 2, 1) := by decide +kernel
theorem dX10_loadX_6 : decode cX10_loadX 6 = .ok (.aload_n 0, 1) := by decide +kernel
theorem dX10_loadX_7 : decode cX10_loadX 7 = .ok (.aload_n 0, 1) := by decide +kernel
theorem dX10_loadX_8 : decode cX10_loadX 8 = .ok (.aload_n 0, 1) := by decide +kernel
theorem dX10_loadX_9 : decode cX10_loadX 9 = .ok (.iload_n 2, 1) := by decide +kernel
theorem dX10_loadX_10 : decode cX10_loadX 10 = .ok (.invokevirtual 172, 3) := by decide +kernel
theorem dX10_loadX_13 : decode cX10_loadX 13 = .ok (.invokevirtual 263, 3) := by decide +kernel
theorem dX10_loadX_16 : decode cX10_loadX 16 = .ok (.putfield 244, 3) := by decide +kernel
theorem dX10_loadX_19 : decode cX10_loadX 19 = .ok (.iload_n 1, 1) := by decide +kernel
theorem dX10_loadX_20 : decode cX10_loadX 20 = .ok (.invokestatic 275, 3) := by decide +kernel
theorem dX10_loadX_23 : decode cX10_loadX 23 = .ok (.aload_n 0, 1) := by decide +kernel
theorem dX10_loadX_24 : decode cX10_loadX 24 = .ok (.getfield 260, 3) := by decide +kernel
theorem dX10_loadX_27 : decode cX10_loadX 27 = .ok (.ifCond .eq 7, 3) := by decide +kernel
theorem dX10_loadX_30 : decode cX10_loadX 30 = .ok (.iconst 1, 1) := by decide +kernel
theorem dX10_loadX_31 : decode cX10_loadX 31 = .ok (.goto 4, 3) := by decide +kernel
theorem dX10_loadX_34 : decode cX10_loadX 34 = .ok (.iconst 0, 1) := by decide +kernel
theorem dX10_loadX_35 : decode cX10_loadX 35 = .ok (.iadd, 1) := by decide +kernel
theorem dX10_loadX_36 : decode cX10_loadX 36 = .ok (.ireturn, 1) := by decide +kernel
theorem dX10_moved_0 : decode cX10_moved 0 = .ok (.iload_n 1, 1) := by decide +kernel
theorem dX10_moved_1 : decode cX10_moved 1 = .ok (.iconst 4, 1) := by decide +kernel
theorem dX10_moved_2 : decode cX10_moved 2 = .ok (.if_icmp .ne 15, 3) := by decide +kernel
theorem dX10_moved_5 : decode cX10_moved 5 = .ok (.aload_n 0, 1) := by decide +kernel
theorem dX10_moved_6 : decode cX10_moved 6 = .ok (.aload_n 0, 1) := by decide +kernel
theorem dX10_moved_7 : decode cX10_moved 7 = .ok (.aload_n 0, 1) := by decide +kernel
theorem dX10_moved_8 : decode cX10_moved 8 = .ok (.getfield 244, 3) := by decide +kernel
theorem dX10_moved_11 : decode cX10_moved 11 = .ok (.invokevirtual 263, 3) := by decide +kernel
theorem dX10_moved_14 : decode cX10_moved 14 = .ok (.putfield 266, 3) := by decide +kernel
theorem dX10_moved_17 : decode cX10_moved 17 = .ok (.iload_n 1, 1) := by decide +kernel
theorem dX10_moved_18 : decode cX10_moved 18 = .ok (.iconst 5, 1) := by decide +kernel
theorem dX10_moved_19 : decode cX10_moved 19 = .ok (.if_icmp .ne 15, 3) := by decide +kernel
theorem dX10_moved_22 : decode cX10_moved 22 = .ok (.aload_n 0, 1) := by decide +kernel
theorem dX10_moved_23 : decode cX10_moved 23 = .ok (.aload_n 0, 1) := by decide +kernel
theorem dX10_moved_24 : decode cX10_moved 24 = .ok (.aload_n 0, 1) := by decide +kernel
theorem dX10_moved_25 : decode cX10_moved 25 = .ok (.getfield 266, 3) := by decide +kernel
theorem dX10_moved_28 : decode cX10_moved 28 = .ok (.invokevirtual 263, 3) := by decide +kernel
theorem dX10_moved_31 : decode cX10_moved 31 = .ok (.putfield 244, 3) := by decide +kernel
theorem dX10_moved_34 : decode cX10_moved 34 = .ok (.iload_n 1, 1) := by decide +kernel
theorem dX10_moved_35 : decode cX10_moved 35 = .ok (.bipush 6, 2) := by decide +kernel
theorem dX10_moved_37 : decode cX10_moved 37 = .ok (.if_icmp .ne 21, 3) := by decide +kernel
theorem dX10_moved_40 : decode cX10_moved 40 = .ok (.aload_n 0, 1) := by decide +kernel
theorem dX10_moved_41 : decode cX10_moved 41 = .ok (.aload_n 0, 1) := by decide +kernel
theorem dX10_moved_42 : decode cX10_moved 42 = .ok (.aload_n 0, 1) := by decide +kernel
theorem dX10_moved_43 : decode cX10_moved 43 = .ok (.getfield 244, 3) := by decide +kernel
theorem dX10_moved_46 : decode cX10_moved 46 = .ok (.iconst 1, 1) := by decide +kernel
theorem dX10_moved_47 : decode cX10_moved 47 = .ok (.isub, 1) := by decide +kernel
theorem dX10_moved_48 : decode cX10_moved 48 = .ok (.sipush 255, 3) := by decide +kernel
theorem dX10_moved_51 : decode cX10_moved 51 = .ok (.iand, 1) := by decide +kernel
theorem dX10_moved_52 : decode cX10_moved 52 = .ok (.invokevirtual 263, 3) := by decide +kernel
theorem dX10_moved_55 : decode cX10_moved 55 = .ok (.putfield 244, 3) := by decide +kernel
theorem dX10_moved_58 : decode cX10_moved 58 = .ok (.iconst 2, 1) := by decide +kernel
theorem dX10_moved_59 : decode cX10_moved 59 = .ok (.ireturn, 1) := by decide +kernel
theorem dX10_stackPointer_0 : decode cX10_stackPointer 0 = .ok (.iload_n 1, 1) := by decide +kernel
theorem dX10_stackPointer_1 : decode cX10_stackPointer 1 = .ok (.iconst 4, 1) := by decide +kernel
theorem dX10_stackPointer_2 : decode cX10_stackPointer 2 = .ok (.if_icmp .ne 14, 3) := by decide +kernel
theorem dX10_stackPointer_5 : decode cX10_stackPointer 5 = .ok (.aload_n 0, 1) := by decide +kernel
theorem dX10_stackPointer_6 : decode cX10_stackPointer 6 = .ok (.aload_n 0, 1) := by decide +kernel
theorem dX10_stackPointer_7 : decode cX10_stackPointer 7 = .ok (.getfield 244, 3) := by decide +kernel
theorem dX10_stackPointer_10 : decode cX10_stackPointer 10 = .ok (.putfield 225, 3) := by decide +kernel
theorem dX10_stackPointer_13 : decode cX10_stackPointer 13 = .ok (.goto 15, 3) := by decide +kernel
theorem dX10_stackPointer_16 : decode cX10_stackPointer 16 = .ok (.aload_n 0, 1) := by decide +kernel
theorem dX10_stackPointer_17 : decode cX10_stackPointer 17 = .ok (.aload_n 0, 1) := by decide +kernel
theorem dX10_stackPointer_18 : decode cX10_stackPointer 18 = .ok (.aload_n 0, 1) := by decide +kernel
theorem dX10_stackPointer_19 : decode cX10_stackPointer 19 = .ok (.getfield 225, 3) := by decide +kernel
theorem dX10_stackPointer_22 : decode cX10_stackPointer 22 = .ok (.invokevirtual 263, 3) := by decide +kernel
theorem dX10_stackPointer_25 : decode cX10_stackPointer 25 = .ok (.putfield 244, 3) := by decide +kernel
theorem dX10_stackPointer_28 : decode cX10_stackPointer 28 = .ok (.iconst 2, 1) := by decide +kernel
theorem dX10_stackPointer_29 : decode cX10_stackPointer 29 = .ok (.ireturn, 1) := by decide +kernel
theorem dX10_branch_0 : decode cX10_branch 0 = .ok (.aload_n 0, 1) := by decide +kernel
theorem dX10_branch_1 : decode cX10_branch 1 = .ok (.invokevirtual 221, 3) := by decide +kernel
theorem dX10_branch_4 : decode cX10_branch 4 = .ok (.istore_n 2, 1) := by decide +kernel
theorem dX10_branch_5 : decode cX10_branch 5 = .ok (.iload_n 1, 1) := by decide +kernel
theorem dX10_branch_6 : decode cX10_branch 6 = .ok (.iconst 2, 1) := by decide +kernel
theorem dX10_branch_7 : decode cX10_branch 7 = .ok (.if_icmp .ge 9, 3) := by decide +kernel
theorem dX10_branch_10 : decode cX10_branch 10 = .ok (.sipush 128, 3) := by decide +kernel
theorem dX10_branch_13 : decode cX10_branch 13 = .ok (.goto 24, 3) := by decide +kernel
theorem dX10_branch_16 : decode cX10_branch 16 = .ok (.iload_n 1, 1) := by decide +kernel
theorem dX10_branch_17 : decode cX10_branch 17 = .ok (.iconst 4, 1) := by decide +kernel
theorem dX10_branch_18 : decode cX10_branch 18 = .ok (.if_icmp .ge 8, 3) := by decide +kernel
theorem dX10_branch_21 : decode cX10_branch 21 = .ok (.bipush 64, 2) := by decide +kernel
theorem dX10_branch_23 : decode cX10_branch 23 = .ok (.goto 14, 3) := by decide +kernel
theorem dX10_branch_26 : decode cX10_branch 26 = .ok (.iload_n 1, 1) := by decide +kernel
theorem dX10_branch_27 : decode cX10_branch 27 = .ok (.bipush 6, 2) := by decide +kernel
theorem dX10_branch_29 : decode cX10_branch 29 = .ok (.if_icmp .ge 7, 3) := by decide +kernel
theorem dX10_branch_32 : decode cX10_branch 32 = .ok (.iconst 1, 1) := by decide +kernel
theorem dX10_branch_33 : decode cX10_branch 33 = .ok (.goto 4, 3) := by decide +kernel
theorem dX10_branch_36 : decode cX10_branch 36 = .ok (.iconst 2, 1) := by decide +kernel
theorem dX10_branch_37 : decode cX10_branch 37 = .ok (.istore_n 3, 1) := by decide +kernel
theorem dX10_branch_38 : decode cX10_branch 38 = .ok (.aload_n 0, 1) := by decide +kernel
theorem dX10_branch_39 : decode cX10_branch 39 = .ok (.getfield 22, 3) := by decide +kernel
theorem dX10_branch_42 : decode cX10_branch 42 = .ok (.iload_n 3, 1) := by decide +kernel
theorem dX10_branch_43 : decode cX10_branch 43 = .ok (.iand, 1) := by decide +kernel
theorem dX10_branch_44 : decode cX10_branch 44 = .ok (.ifCond .eq 7, 3) := by decide +kernel
theorem dX10_branch_47 : decode cX10_branch 47 = .ok (.iconst 1, 1) := by decide +kernel
theorem dX10_branch_48 : decode cX10_branch 48 = .ok (.goto 4, 3) := by decide +kernel
theorem dX10_branch_51 : decode cX10_branch 51 = .ok (.iconst 0, 1) := by decide +kernel
theorem dX10_branch_52 : decode cX10_branch 52 = .ok (.iload_n 1, 1) := by decide +kernel
theorem dX10_branch_53 : decode cX10_branch 53 = .ok (.iconst 1, 1) := by decide +kernel
theorem dX10_branch_54 : decode cX10_branch 54 = .ok (.iand, 1) := by decide +kernel
theorem dX10_branch_55 : decode cX10_branch 55 = .ok (.iconst 1, 1) := by decide +kernel
theorem dX10_branch_56 : decode cX10_branch 56 = .ok (.if_icmp .ne 7, 3) := by decide +kernel
theorem dX10_branch_59 : decode cX10_branch 59 = .ok (.iconst 1, 1) := by decide +kernel
theorem dX10_branch_60 : decode cX10_branch 60 = .ok (.goto 4, 3) := by decide +kernel
theorem dX10_branch_63 : decode cX10_branch 63 = .ok (.iconst 0, 1) := by decide +kernel
theorem dX10_branch_64 : decode cX10_branch 64 = .ok (.if_icmp .eq 5, 3) := by decide +kernel
theorem dX10_branch_67 : decode cX10_branch 67 = .ok (.iconst 2, 1) := by decide +kernel
theorem dX10_branch_68 : decode cX10_branch 68 = .ok (.ireturn, 1) := by decide +kernel
theorem dX10_branch_69 : decode cX10_branch 69 = .ok (.aload_n 0, 1) := by decide +kernel
theorem dX10_branch_70 : decode cX10_branch 70 = .ok (.getfield 218, 3) := by decide +kernel
theorem dX10_branch_73 : decode cX10_branch 73 = .ok (.istore 4, 2) := by decide +kernel
theorem dX10_branch_75 : decode cX10_branch 75 = .ok (.aload_n 0, 1) := by decide +kernel
theorem dX10_branch_76 : decode cX10_branch 76 = .ok (.aload_n 0, 1) := by decide +kernel
theorem dX10_branch_77 : decode cX10_branch 77 = .ok (.getfield 218, 3) := by decide +kernel
theorem dX10_branch_80 : decode cX10_branch 80 = .ok (.iload_n 2, 1) := by decide +kernel
theorem dX10_branch_81 : decode cX10_branch 81 = .ok (.sipush 128, 3) := by decide +kernel
theorem dX10_branch_84 : decode cX10_branch 84 = .ok (.if_icmp .ge 7, 3) := by decide +kernel
theorem dX10_branch_87 : decode cX10_branch 87 = .ok (.iload_n 2, 1) := by decide +kernel
theorem dX10_branch_88 : decode cX10_branch 88 = .ok (.goto 8, 3) := by decide +kernel
theorem dX10_branch_91 : decode cX10_branch 91 = .ok (.iload_n 2, 1) := by decide +kernel
theorem dX10_branch_92 : decode cX10_branch 92 = .ok (.sipush 256, 3) := by decide +kernel
theorem dX10_branch_95 : decode cX10_branch 95 = .ok (.isub, 1) := by decide +kernel
theorem dX10_branch_96 : decode cX10_branch 96 = .ok (.iadd, 1) := by decide +kernel
theorem dX10_branch_97 : decode cX10_branch 97 = .ok (.ldc 204, 2) := by decide +kernel
theorem dX10_branch_99 : decode cX10_branch 99 = .ok (.iand, 1) := by decide +kernel
theorem dX10_branch_100 : decode cX10_branch 100 = .ok (.putfield 218, 3) := by decide +kernel
theorem dX10_branch_103 : decode cX10_branch 103 = .ok (.aload_n 0, 1) := by decide +kernel
theorem dX10_branch_104 : decode cX10_branch 104 = .ok (.getfield 218, 3) := by decide +kernel
theorem dX10_branch_107 : decode cX10_branch 107 = .ok (.iload 4, 2) := by decide +kernel
theorem dX10_branch_109 : decode cX10_branch 109 = .ok (.ixor, 1) := by decide +kernel
theorem dX10_branch_110 : decode cX10_branch 110 = .ok (.sipush 255, 3) := by decide +kernel
theorem dX10_branch_113 : decode cX10_branch 113 = .ok (.if_icmp .le 7, 3) := by decide +kernel
theorem dX10_branch_116 : decode cX10_branch 116 = .ok (.iconst 4, 1) := by decide +kernel
theorem dX10_branch_117 : decode cX10_branch 117 = .ok (.goto 4, 3) := by decide +kernel
theorem dX10_branch_120 : decode cX10_branch 120 = .ok (.iconst 3, 1) := by decide +kernel
theorem dX10_branch_121 : decode cX10_branch 121 = .ok (.ireturn, 1) := by decide +kernel
theorem dX10_stacked_0 : decode cX10_stacked 0 = .ok (.iload_n 1, 1) := by decide +kernel
theorem dX10_stacked_1 : decode cX10_stacked 1 = .ok (.tableswitch 150 0 6 #[43, 56, 72, 82, 96, 116, 130], 43) := by decide +kernel
theorem dX10_stacked_44 : decode cX10_stacked 44 = .ok (.aload_n 0, 1) := by decide +kernel
theorem dX10_stacked_45 : decode cX10_stacked 45 = .ok (.aload_n 0, 1) := by decide +kernel
theorem dX10_stacked_46 : decode cX10_stacked 46 = .ok (.getfield 22, 3) := by decide +kernel
theorem dX10_stacked_49 : decode cX10_stacked 49 = .ok (.bipush 16, 2) := by decide +kernel
theorem dX10_stacked_51 : decode cX10_stacked 51 = .ok (.ior, 1) := by decide +kernel
theorem dX10_stacked_52 : decode cX10_stacked 52 = .ok (.invokevirtual 228, 3) := by decide +kernel
theorem dX10_stacked_55 : decode cX10_stacked 55 = .ok (.iconst 3, 1) := by decide +kernel
theorem dX10_stacked_56 : decode cX10_stacked 56 = .ok (.ireturn, 1) := by decide +kernel
theorem dX10_stacked_57 : decode cX10_stacked 57 = .ok (.aload_n 0, 1) := by decide +kernel
theorem dX10_stacked_58 : decode cX10_stacked 58 = .ok (.aload_n 0, 1) := by decide +kernel
theorem dX10_stacked_59 : decode cX10_stacked 59 = .ok (.invokevirtual 231, 3) := by decide +kernel
theorem dX10_stacked_62 : decode cX10_stacked 62 = .ok (.bipush (-17), 2) := by decide +kernel
theorem dX10_stacked_64 : decode cX10_stacked 64 = .ok (.iand, 1) := by decide +kernel
theorem dX10_stacked_65 : decode cX10_stacked 65 = .ok (.bipush 32, 2) := by decide +kernel
theorem dX10_stacked_67 : decode cX10_stacked 67 = .ok (.ior, 1) := by decide +kernel
theorem dX10_stacked_68 : decode cX10_stacked 68 = .ok (.putfield 22, 3) := by decide +kernel
theorem dX10_stacked_71 : decode cX10_stacked 71 = .ok (.iconst 4, 1) := by decide +kernel
theorem dX10_stacked_72 : decode cX10_stacked 72 = .ok (.ireturn, 1) := by decide +kernel
theorem dX10_stacked_73 : decode cX10_stacked 73 = .ok (.aload_n 0, 1) := by decide +kernel
theorem dX10_stacked_74 : decode cX10_stacked 74 = .ok (.aload_n 0, 1) := by decide +kernel
theorem dX10_stacked_75 : decode cX10_stacked 75 = .ok (.getfield 266, 3) := by decide +kernel
theorem dX10_stacked_78 : decode cX10_stacked 78 = .ok (.invokevirtual 228, 3) := by decide +kernel
theorem dX10_stacked_81 : decode cX10_stacked 81 = .ok (.iconst 3, 1) := by decide +kernel
theorem dX10_stacked_82 : decode cX10_stacked 82 = .ok (.ireturn, 1) := by decide +kernel
theorem dX10_stacked_83 : decode cX10_stacked 83 = .ok (.aload_n 0, 1) := by decide +kernel
theorem dX10_stacked_84 : decode cX10_stacked 84 = .ok (.aload_n 0, 1) := by decide +kernel
theorem dX10_stacked_85 : decode cX10_stacked 85 = .ok (.aload_n 0, 1) := by decide +kernel
theorem dX10_stacked_86 : decode cX10_stacked 86 = .ok (.invokevirtual 231, 3) := by decide +kernel
theorem dX10_stacked_89 : decode cX10_stacked 89 = .ok (.invokevirtual 263, 3) := by decide +kernel
theorem dX10_stacked_92 : decode cX10_stacked 92 = .ok (.putfield 266, 3) := by decide +kernel
theorem dX10_stacked_95 : decode cX10_stacked 95 = .ok (.iconst 4, 1) := by decide +kernel
theorem dX10_stacked_96 : decode cX10_stacked 96 = .ok (.ireturn, 1) := by decide +kernel
theorem dX10_stacked_97 : decode cX10_stacked 97 = .ok (.aload_n 0, 1) := by decide +kernel
theorem dX10_stacked_98 : decode cX10_stacked 98 = .ok (.aload_n 0, 1) := by decide +kernel
theorem dX10_stacked_99 : decode cX10_stacked 99 = .ok (.aload_n 0, 1) := by decide +kernel
theorem dX10_stacked_100 : decode cX10_stacked 100 = .ok (.getfield 247, 3) := by decide +kernel
theorem dX10_stacked_103 : decode cX10_stacked 103 = .ok (.iconst 1, 1) := by decide +kernel
theorem dX10_stacked_104 : decode cX10_stacked 104 = .ok (.isub, 1) := by decide +kernel
theorem dX10_stacked_105 : decode cX10_stacked 105 = .ok (.sipush 255, 3) := by decide +kernel
theorem dX10_stacked_108 : decode cX10_stacked 108 = .ok (.iand, 1) := by decide +kernel
theorem dX10_stacked_109 : decode cX10_stacked 109 = .ok (.invokevirtual 263, 3) := by decide +kernel
theorem dX10_stacked_112 : decode cX10_stacked 112 = .ok (.putfield 247, 3) := by decide +kernel
theorem dX10_stacked_115 : decode cX10_stacked 115 = .ok (.iconst 2, 1) := by decide +kernel
theorem dX10_stacked_116 : decode cX10_stacked 116 = .ok (.ireturn, 1) := by decide +kernel
theorem dX10_stacked_117 : decode cX10_stacked 117 = .ok (.aload_n 0, 1) := by decide +kernel
theorem dX10_stacked_118 : decode cX10_stacked 118 = .ok (.aload_n 0, 1) := by decide +kernel
theorem dX10_stacked_119 : decode cX10_stacked 119 = .ok (.aload_n 0, 1) := by decide +kernel
theorem dX10_stacked_120 : decode cX10_stacked 120 = .ok (.getfield 266, 3) := by decide +kernel
theorem dX10_stacked_123 : decode cX10_stacked 123 = .ok (.invokevirtual 263, 3) := by decide +kernel
theorem dX10_stacked_126 : decode cX10_stacked 126 = .ok (.putfield 247, 3) := by decide +kernel
theorem dX10_stacked_129 : decode cX10_stacked 129 = .ok (.iconst 2, 1) := by decide +kernel
theorem dX10_stacked_130 : decode cX10_stacked 130 = .ok (.ireturn, 1) := by decide +kernel
theorem dX10_stacked_131 : decode cX10_stacked 131 = .ok (.aload_n 0, 1) := by decide +kernel
theorem dX10_stacked_132 : decode cX10_stacked 132 = .ok (.aload_n 0, 1) := by decide +kernel
theorem dX10_stacked_133 : decode cX10_stacked 133 = .ok (.aload_n 0, 1) := by decide +kernel
theorem dX10_stacked_134 : decode cX10_stacked 134 = .ok (.getfield 247, 3) := by decide +kernel
theorem dX10_stacked_137 : decode cX10_stacked 137 = .ok (.iconst 1, 1) := by decide +kernel
theorem dX10_stacked_138 : decode cX10_stacked 138 = .ok (.iadd, 1) := by decide +kernel
theorem dX10_stacked_139 : decode cX10_stacked 139 = .ok (.sipush 255, 3) := by decide +kernel
theorem dX10_stacked_142 : decode cX10_stacked 142 = .ok (.iand, 1) := by decide +kernel
theorem dX10_stacked_143 : decode cX10_stacked 143 = .ok (.invokevirtual 263, 3) := by decide +kernel
theorem dX10_stacked_146 : decode cX10_stacked 146 = .ok (.putfield 247, 3) := by decide +kernel
theorem dX10_stacked_149 : decode cX10_stacked 149 = .ok (.iconst 2, 1) := by decide +kernel
theorem dX10_stacked_150 : decode cX10_stacked 150 = .ok (.ireturn, 1) := by decide +kernel
theorem dX10_stacked_151 : decode cX10_stacked 151 = .ok (.aload_n 0, 1) := by decide +kernel
theorem dX10_stacked_152 : decode cX10_stacked 152 = .ok (.aload_n 0, 1) := by decide +kernel
theorem dX10_stacked_153 : decode cX10_stacked 153 = .ok (.aload_n 0, 1) := by decide +kernel
theorem dX10_stacked_154 : decode cX10_stacked 154 = .ok (.getfield 244, 3) := by decide +kernel
theorem dX10_stacked_157 : decode cX10_stacked 157 = .ok (.iconst 1, 1) := by decide +kernel
theorem dX10_stacked_158 : decode cX10_stacked 158 = .ok (.iadd, 1) := by decide +kernel
theorem dX10_stacked_159 : decode cX10_stacked 159 = .ok (.sipush 255, 3) := by decide +kernel
theorem dX10_stacked_162 : decode cX10_stacked 162 = .ok (.iand, 1) := by decide +kernel
theorem dX10_stacked_163 : decode cX10_stacked 163 = .ok (.invokevirtual 263, 3) := by decide +kernel
theorem dX10_stacked_166 : decode cX10_stacked 166 = .ok (.putfield 244, 3) := by decide +kernel
theorem dX10_stacked_169 : decode cX10_stacked 169 = .ok (.iconst 2, 1) := by decide +kernel
theorem dX10_stacked_170 : decode cX10_stacked 170 = .ok (.ireturn, 1) := by decide +kernel
theorem dX10_flagged_0 : decode cX10_flagged 0 = .ok (.iload_n 1, 1) := by decide +kernel
theorem dX10_flagged_1 : decode cX10_flagged 1 = .ok (.tableswitch 100 0 5 #[39, 39, 57, 57, 75, 90], 39) := by decide +kernel
theorem dX10_flagged_40 : decode cX10_flagged 40 = .ok (.aload_n 0, 1) := by decide +kernel
theorem dX10_flagged_41 : decode cX10_flagged 41 = .ok (.iconst 1, 1) := by decide +kernel
theorem dX10_flagged_42 : decode cX10_flagged 42 = .ok (.iload_n 1, 1) := by decide +kernel
theorem dX10_flagged_43 : decode cX10_flagged 43 = .ok (.iconst 1, 1) := by decide +kernel
theorem dX10_flagged_44 : decode cX10_flagged 44 = .ok (.if_icmp .ne 7, 3) := by decide +kernel
theorem dX10_flagged_47 : decode cX10_flagged 47 = .ok (.iconst 1, 1) := by decide +kernel
theorem dX10_flagged_48 : decode cX10_flagged 48 = .ok (.goto 4, 3) := by decide +kernel
theorem dX10_flagged_51 : decode cX10_flagged 51 = .ok (.iconst 0, 1) := by decide +kernel
theorem dX10_flagged_52 : decode cX10_flagged 52 = .ok (.invokevirtual 234, 3) := by decide +kernel
theorem dX10_flagged_55 : decode cX10_flagged 55 = .ok (.goto 63, 3) := by decide +kernel
theorem dX10_flagged_58 : decode cX10_flagged 58 = .ok (.aload_n 0, 1) := by decide +kernel
theorem dX10_flagged_59 : decode cX10_flagged 59 = .ok (.iconst 4, 1) := by decide +kernel
theorem dX10_flagged_60 : decode cX10_flagged 60 = .ok (.iload_n 1, 1) := by decide +kernel
theorem dX10_flagged_61 : decode cX10_flagged 61 = .ok (.iconst 3, 1) := by decide +kernel
theorem dX10_flagged_62 : decode cX10_flagged 62 = .ok (.if_icmp .ne 7, 3) := by decide +kernel
theorem dX10_flagged_65 : decode cX10_flagged 65 = .ok (.iconst 1, 1) := by decide +kernel
theorem dX10_flagged_66 : decode cX10_flagged 66 = .ok (.goto 4, 3) := by decide +kernel
theorem dX10_flagged_69 : decode cX10_flagged 69 = .ok (.iconst 0, 1) := by decide +kernel
theorem dX10_flagged_70 : decode cX10_flagged 70 = .ok (.invokevirtual 234, 3) := by decide +kernel
theorem dX10_flagged_73 : decode cX10_flagged 73 = .ok (.goto 45, 3) := by decide +kernel
theorem dX10_flagged_76 : decode cX10_flagged 76 = .ok (.aload_n 0, 1) := by decide +kernel
theorem dX10_flagged_77 : decode cX10_flagged 77 = .ok (.aload_n 0, 1) := by decide +kernel
theorem dX10_flagged_78 : decode cX10_flagged 78 = .ok (.aload_n 0, 1) := by decide +kernel
theorem dX10_flagged_79 : decode cX10_flagged 79 = .ok (.getfield 247, 3) := by decide +kernel
theorem dX10_flagged_82 : decode cX10_flagged 82 = .ok (.invokevirtual 263, 3) := by decide +kernel
theorem dX10_flagged_85 : decode cX10_flagged 85 = .ok (.putfield 266, 3) := by decide +kernel
theorem dX10_flagged_88 : decode cX10_flagged 88 = .ok (.goto 30, 3) := by decide +kernel
theorem dX10_flagged_91 : decode cX10_flagged 91 = .ok (.aload_n 0, 1) := by decide +kernel
theorem dX10_flagged_92 : decode cX10_flagged 92 = .ok (.bipush 64, 2) := by decide +kernel
theorem dX10_flagged_94 : decode cX10_flagged 94 = .ok (.iconst 0, 1) := by decide +kernel
theorem dX10_flagged_95 : decode cX10_flagged 95 = .ok (.invokevirtual 234, 3) := by decide +kernel
theorem dX10_flagged_98 : decode cX10_flagged 98 = .ok (.goto 20, 3) := by decide +kernel
theorem dX10_flagged_101 : decode cX10_flagged 101 = .ok (.aload_n 0, 1) := by decide +kernel
theorem dX10_flagged_102 : decode cX10_flagged 102 = .ok (.bipush 8, 2) := by decide +kernel
theorem dX10_flagged_104 : decode cX10_flagged 104 = .ok (.iload_n 1, 1) := by decide +kernel
theorem dX10_flagged_105 : decode cX10_flagged 105 = .ok (.bipush 7, 2) := by decide +kernel
theorem dX10_flagged_107 : decode cX10_flagged 107 = .ok (.if_icmp .ne 7, 3) := by decide +kernel
theorem dX10_flagged_110 : decode cX10_flagged 110 = .ok (.iconst 1, 1) := by decide +kernel
theorem dX10_flagged_111 : decode cX10_flagged 111 = .ok (.goto 4, 3) := by decide +kernel
theorem dX10_flagged_114 : decode cX10_flagged 114 = .ok (.iconst 0, 1) := by decide +kernel
theorem dX10_flagged_115 : decode cX10_flagged 115 = .ok (.invokevirtual 234, 3) := by decide +kernel
theorem dX10_flagged_118 : decode cX10_flagged 118 = .ok (.iconst 2, 1) := by decide +kernel
theorem dX10_flagged_119 : decode cX10_flagged 119 = .ok (.ireturn, 1) := by decide +kernel
theorem dX10_called_0 : decode cX10_called 0 = .ok (.iload_n 1, 1) := by decide +kernel
theorem dX10_called_1 : decode cX10_called 1 = .ok (.ifCond .ne 33, 3) := by decide +kernel
theorem dX10_called_4 : decode cX10_called 4 = .ok (.aload_n 0, 1) := by decide +kernel
theorem dX10_called_5 : decode cX10_called 5 = .ok (.aload_n 0, 1) := by decide +kernel
theorem dX10_called_6 : decode cX10_called 6 = .ok (.getfield 218, 3) := by decide +kernel
theorem dX10_called_9 : decode cX10_called 9 = .ok (.iconst 1, 1) := by decide +kernel
theorem dX10_called_10 : decode cX10_called 10 = .ok (.iadd, 1) := by decide +kernel
theorem dX10_called_11 : decode cX10_called 11 = .ok (.ldc 204, 2) := by decide +kernel
theorem dX10_called_13 : decode cX10_called 13 = .ok (.iand, 1) := by decide +kernel
theorem dX10_called_14 : decode cX10_called 14 = .ok (.putfield 218, 3) := by decide +kernel
theorem dX10_called_17 : decode cX10_called 17 = .ok (.aload_n 0, 1) := by decide +kernel
theorem dX10_called_18 : decode cX10_called 18 = .ok (.ldc_w 299, 3) := by decide +kernel
theorem dX10_called_21 : decode cX10_called 21 = .ok (.aload_n 0, 1) := by decide +kernel
theorem dX10_called_22 : decode cX10_called 22 = .ok (.getfield 22, 3) := by decide +kernel
theorem dX10_called_25 : decode cX10_called 25 = .ok (.bipush 16, 2) := by decide +kernel
theorem dX10_called_27 : decode cX10_called 27 = .ok (.ior, 1) := by decide +kernel
theorem dX10_called_28 : decode cX10_called 28 = .ok (.invokevirtual 300, 3) := by decide +kernel
theorem dX10_called_31 : decode cX10_called 31 = .ok (.bipush 7, 2) := by decide +kernel
theorem dX10_called_33 : decode cX10_called 33 = .ok (.ireturn, 1) := by decide +kernel
theorem dX10_called_34 : decode cX10_called 34 = .ok (.iload_n 1, 1) := by decide +kernel
theorem dX10_called_35 : decode cX10_called 35 = .ok (.iconst 1, 1) := by decide +kernel
theorem dX10_called_36 : decode cX10_called 36 = .ok (.if_icmp .ne 29, 3) := by decide +kernel
theorem dX10_called_39 : decode cX10_called 39 = .ok (.aload_n 0, 1) := by decide +kernel
theorem dX10_called_40 : decode cX10_called 40 = .ok (.invokevirtual 250, 3) := by decide +kernel
theorem dX10_called_43 : decode cX10_called 43 = .ok (.istore_n 2, 1) := by decide +kernel
theorem dX10_called_44 : decode cX10_called 44 = .ok (.aload_n 0, 1) := by decide +kernel
theorem dX10_called_45 : decode cX10_called 45 = .ok (.aload_n 0, 1) := by decide +kernel
theorem dX10_called_46 : decode cX10_called 46 = .ok (.getfield 218, 3) := by decide +kernel
theorem dX10_called_49 : decode cX10_called 49 = .ok (.iconst 1, 1) := by decide +kernel
theorem dX10_called_50 : decode cX10_called 50 = .ok (.isub, 1) := by decide +kernel
theorem dX10_called_51 : decode cX10_called 51 = .ok (.ldc 204, 2) := by decide +kernel
theorem dX10_called_53 : decode cX10_called 53 = .ok (.iand, 1) := by decide +kernel
theorem dX10_called_54 : decode cX10_called 54 = .ok (.invokevirtual 238, 3) := by decide +kernel
theorem dX10_called_57 : decode cX10_called 57 = .ok (.aload_n 0, 1) := by decide +kernel
theorem dX10_called_58 : decode cX10_called 58 = .ok (.iload_n 2, 1) := by decide +kernel
theorem dX10_called_59 : decode cX10_called 59 = .ok (.putfield 218, 3) := by decide +kernel
theorem dX10_called_62 : decode cX10_called 62 = .ok (.bipush 6, 2) := by decide +kernel
theorem dX10_called_64 : decode cX10_called 64 = .ok (.ireturn, 1) := by decide +kernel
theorem dX10_called_65 : decode cX10_called 65 = .ok (.iload_n 1, 1) := by decide +kernel
theorem dX10_called_66 : decode cX10_called 66 = .ok (.iconst 2, 1) := by decide +kernel
theorem dX10_called_67 : decode cX10_called 67 = .ok (.if_icmp .ne 17, 3) := by decide +kernel
theorem dX10_called_70 : decode cX10_called 70 = .ok (.aload_n 0, 1) := by decide +kernel
theorem dX10_called_71 : decode cX10_called 71 = .ok (.aload_n 0, 1) := by decide +kernel
theorem dX10_called_72 : decode cX10_called 72 = .ok (.invokevirtual 231, 3) := by decide +kernel
theorem dX10_called_75 : decode cX10_called 75 = .ok (.bipush (-17), 2) := by decide +kernel
theorem dX10_called_77 : decode cX10_called 77 = .ok (.iand, 1) := by decide +kernel
theorem dX10_called_78 : decode cX10_called 78 = .ok (.bipush 32, 2) := by decide +kernel
theorem dX10_called_80 : decode cX10_called 80 = .ok (.ior, 1) := by decide +kernel
theorem dX10_called_81 : decode cX10_called 81 = .ok (.putfield 22, 3) := by decide +kernel
theorem dX10_called_84 : decode cX10_called 84 = .ok (.aload_n 0, 1) := by decide +kernel
theorem dX10_called_85 : decode cX10_called 85 = .ok (.aload_n 0, 1) := by decide +kernel
theorem dX10_called_86 : decode cX10_called 86 = .ok (.invokevirtual 303, 3) := by decide +kernel
theorem dX10_called_89 : decode cX10_called 89 = .ok (.putfield 218, 3) := by decide +kernel
theorem dX10_called_92 : decode cX10_called 92 = .ok (.iload_n 1, 1) := by decide +kernel
theorem dX10_called_93 : decode cX10_called 93 = .ok (.iconst 3, 1) := by decide +kernel
theorem dX10_called_94 : decode cX10_called 94 = .ok (.if_icmp .ne 16, 3) := by decide +kernel
theorem dX10_called_97 : decode cX10_called 97 = .ok (.aload_n 0, 1) := by decide +kernel
theorem dX10_called_98 : decode cX10_called 98 = .ok (.aload_n 0, 1) := by decide +kernel
theorem dX10_called_99 : decode cX10_called 99 = .ok (.getfield 218, 3) := by decide +kernel
theorem dX10_called_102 : decode cX10_called 102 = .ok (.iconst 1, 1) := by decide +kernel
theorem dX10_called_103 : decode cX10_called 103 = .ok (.iadd, 1) := by decide +kernel
theorem dX10_called_104 : decode cX10_called 104 = .ok (.ldc 204, 2) := by decide +kernel
theorem dX10_called_106 : decode cX10_called 106 = .ok (.iand, 1) := by decide +kernel
theorem dX10_called_107 : decode cX10_called 107 = .ok (.putfield 218, 3) := by decide +kernel
theorem dX10_called_110 : decode cX10_called 110 = .ok (.bipush 6, 2) := by decide +kernel
theorem dX10_called_112 : decode cX10_called 112 = .ok (.ireturn, 1) := by decide +kernel
theorem dX10_jump_0 : decode cX10_jump 0 = .ok (.aload_n 0, 1) := by decide +kernel
theorem dX10_jump_1 : decode cX10_jump 1 = .ok (.invokevirtual 250, 3) := by decide +kernel
theorem dX10_jump_4 : decode cX10_jump 4 = .ok (.istore_n 2, 1) := by decide +kernel
theorem dX10_jump_5 : decode cX10_jump 5 = .ok (.iload_n 1, 1) := by decide +kernel
theorem dX10_jump_6 : decode cX10_jump 6 = .ok (.ifCond .ne 10, 3) := by decide +kernel
theorem dX10_jump_9 : decode cX10_jump 9 = .ok (.aload_n 0, 1) := by decide +kernel
theorem dX10_jump_10 : decode cX10_jump 10 = .ok (.iload_n 2, 1) := by decide +kernel
theorem dX10_jump_11 : decode cX10_jump 11 = .ok (.putfield 218, 3) := by decide +kernel
theorem dX10_jump_14 : decode cX10_jump 14 = .ok (.iconst 3, 1) := by decide +kernel
theorem dX10_jump_15 : decode cX10_jump 15 = .ok (.ireturn, 1) := by decide +kernel
theorem dX10_jump_16 : decode cX10_jump 16 = .ok (.aload_n 0, 1) := by decide +kernel
theorem dX10_jump_17 : decode cX10_jump 17 = .ok (.iload_n 2, 1) := by decide +kernel
theorem dX10_jump_18 : decode cX10_jump 18 = .ok (.invokevirtual 172, 3) := by decide +kernel
theorem dX10_jump_21 : decode cX10_jump 21 = .ok (.istore_n 3, 1) := by decide +kernel
theorem dX10_jump_22 : decode cX10_jump 22 = .ok (.aload_n 0, 1) := by decide +kernel
theorem dX10_jump_23 : decode cX10_jump 23 = .ok (.iload_n 3, 1) := by decide +kernel
theorem dX10_jump_24 : decode cX10_jump 24 = .ok (.aload_n 0, 1) := by decide +kernel
theorem dX10_jump_25 : decode cX10_jump 25 = .ok (.iload_n 2, 1) := by decide +kernel
theorem dX10_jump_26 : decode cX10_jump 26 = .ok (.ldc_w 306, 3) := by decide +kernel
theorem dX10_jump_29 : decode cX10_jump 29 = .ok (.iand, 1) := by decide +kernel
theorem dX10_jump_30 : decode cX10_jump 30 = .ok (.iload_n 2, 1) := by decide +kernel
theorem dX10_jump_31 : decode cX10_jump 31 = .ok (.iconst 1, 1) := by decide +kernel
theorem dX10_jump_32 : decode cX10_jump 32 = .ok (.iadd, 1) := by decide +kernel
theorem dX10_jump_33 : decode cX10_jump 33 = .ok (.sipush 255, 3) := by decide +kernel
theorem dX10_jump_36 : decode cX10_jump 36 = .ok (.iand, 1) := by decide +kernel
theorem dX10_jump_37 : decode cX10_jump 37 = .ok (.ior, 1) := by decide +kernel
theorem dX10_jump_38 : decode cX10_jump 38 = .ok (.invokevirtual 172, 3) := by decide +kernel
theorem dX10_jump_41 : decode cX10_jump 41 = .ok (.bipush 8, 2) := by decide +kernel
theorem dX10_jump_43 : decode cX10_jump 43 = .ok (.ishl, 1) := by decide +kernel
theorem dX10_jump_44 : decode cX10_jump 44 = .ok (.ior, 1) := by decide +kernel
theorem dX10_jump_45 : decode cX10_jump 45 = .ok (.putfield 218, 3) := by decide +kernel
theorem dX10_jump_48 : decode cX10_jump 48 = .ok (.iconst 5, 1) := by decide +kernel
theorem dX10_jump_49 : decode cX10_jump 49 = .ok (.ireturn, 1) := by decide +kernel
theorem dX10_listed_0 : decode cX10_listed 0 = .ok (.aload_n 0, 1) := by decide +kernel
theorem dX10_listed_1 : decode cX10_listed 1 = .ok (.iload_n 2, 1) := by decide +kernel
theorem dX10_listed_2 : decode cX10_listed 2 = .ok (.invokevirtual 269, 3) := by decide +kernel
theorem dX10_listed_5 : decode cX10_listed 5 = .ok (.istore_n 3, 1) := by decide +kernel
theorem dX10_listed_6 : decode cX10_listed 6 = .ok (.iload_n 1, 1) := by decide +kernel
theorem dX10_listed_7 : decode cX10_listed 7 = .ok (.iconst 4, 1) := by decide +kernel
theorem dX10_listed_8 : decode cX10_listed 8 = .ok (.if_icmp .ne 17, 3) := by decide +kernel
theorem dX10_listed_11 : decode cX10_listed 11 = .ok (.aload_n 0, 1) := by decide +kernel
theorem dX10_listed_12 : decode cX10_listed 12 = .ok (.iload_n 3, 1) := by decide +kernel
theorem dX10_listed_13 : decode cX10_listed 13 = .ok (.aload_n 0, 1) := by decide +kernel
theorem dX10_listed_14 : decode cX10_listed 14 = .ok (.getfield 247, 3) := by decide +kernel
theorem dX10_listed_17 : decode cX10_listed 17 = .ok (.invokevirtual 272, 3) := by decide +kernel
theorem dX10_listed_20 : decode cX10_listed 20 = .ok (.iload_n 2, 1) := by decide +kernel
theorem dX10_listed_21 : decode cX10_listed 21 = .ok (.invokestatic 275, 3) := by decide +kernel
theorem dX10_listed_24 : decode cX10_listed 24 = .ok (.ireturn, 1) := by decide +kernel
theorem dX10_listed_25 : decode cX10_listed 25 = .ok (.aload_n 0, 1) := by decide +kernel
theorem dX10_listed_26 : decode cX10_listed 26 = .ok (.iload_n 3, 1) := by decide +kernel
theorem dX10_listed_27 : decode cX10_listed 27 = .ok (.invokevirtual 172, 3) := by decide +kernel
theorem dX10_listed_30 : decode cX10_listed 30 = .ok (.istore 4, 2) := by decide +kernel
theorem dX10_listed_32 : decode cX10_listed 32 = .ok (.iload_n 1, 1) := by decide +kernel
theorem dX10_listed_33 : decode cX10_listed 33 = .ok (.iconst 1, 1) := by decide +kernel
theorem dX10_listed_34 : decode cX10_listed 34 = .ok (.if_icmp .ne 42, 3) := by decide +kernel
theorem dX10_listed_37 : decode cX10_listed 37 = .ok (.aload_n 0, 1) := by decide +kernel
theorem dX10_listed_38 : decode cX10_listed 38 = .ok (.iconst 2, 1) := by decide +kernel
theorem dX10_listed_39 : decode cX10_listed 39 = .ok (.aload_n 0, 1) := by decide +kernel
theorem dX10_listed_40 : decode cX10_listed 40 = .ok (.getfield 266, 3) := by decide +kernel
theorem dX10_listed_43 : decode cX10_listed 43 = .ok (.iload 4, 2) := by decide +kernel
theorem dX10_listed_45 : decode cX10_listed 45 = .ok (.iand, 1) := by decide +kernel
theorem dX10_listed_46 : decode cX10_listed 46 = .ok (.ifCond .ne 7, 3) := by decide +kernel
theorem dX10_listed_49 : decode cX10_listed 49 = .ok (.iconst 1, 1) := by decide +kernel
theorem dX10_listed_50 : decode cX10_listed 50 = .ok (.goto 4, 3) := by decide +kernel
theorem dX10_listed_53 : decode cX10_listed 53 = .ok (.iconst 0, 1) := by decide +kernel
theorem dX10_listed_54 : decode cX10_listed 54 = .ok (.invokevirtual 234, 3) := by decide +kernel
theorem dX10_listed_57 : decode cX10_listed 57 = .ok (.aload_n 0, 1) := by decide +kernel
theorem dX10_listed_58 : decode cX10_listed 58 = .ok (.aload_n 0, 1) := by decide +kernel
theorem dX10_listed_59 : decode cX10_listed 59 = .ok (.getfield 22, 3) := by decide +kernel
theorem dX10_listed_62 : decode cX10_listed 62 = .ok (.sipush (-193), 3) := by decide +kernel
theorem dX10_listed_65 : decode cX10_listed 65 = .ok (.iand, 1) := by decide +kernel
theorem dX10_listed_66 : decode cX10_listed 66 = .ok (.iload 4, 2) := by decide +kernel
theorem dX10_listed_68 : decode cX10_listed 68 = .ok (.sipush 192, 3) := by decide +kernel
theorem dX10_listed_71 : decode cX10_listed 71 = .ok (.iand, 1) := by decide +kernel
theorem dX10_listed_72 : decode cX10_listed 72 = .ok (.ior, 1) := by decide +kernel
theorem dX10_listed_73 : decode cX10_listed 73 = .ok (.putfield 22, 3) := by decide +kernel
theorem dX10_listed_76 : decode cX10_listed 76 = .ok (.iload_n 1, 1) := by decide +kernel
theorem dX10_listed_77 : decode cX10_listed 77 = .ok (.iconst 5, 1) := by decide +kernel
theorem dX10_listed_78 : decode cX10_listed 78 = .ok (.if_icmp .ne 13, 3) := by decide +kernel
theorem dX10_listed_81 : decode cX10_listed 81 = .ok (.aload_n 0, 1) := by decide +kernel
theorem dX10_listed_82 : decode cX10_listed 82 = .ok (.aload_n 0, 1) := by decide +kernel
theorem dX10_listed_83 : decode cX10_listed 83 = .ok (.iload 4, 2) := by decide +kernel
theorem dX10_listed_85 : decode cX10_listed 85 = .ok (.invokevirtual 263, 3) := by decide +kernel
theorem dX10_listed_88 : decode cX10_listed 88 = .ok (.putfield 247, 3) := by decide +kernel
theorem dX10_listed_91 : decode cX10_listed 91 = .ok (.iload_n 1, 1) := by decide +kernel
theorem dX10_listed_92 : decode cX10_listed 92 = .ok (.iconst 5, 1) := by decide +kernel
theorem dX10_listed_93 : decode cX10_listed 93 = .ok (.if_icmp .le 26, 3) := by decide +kernel
theorem dX10_listed_96 : decode cX10_listed 96 = .ok (.aload_n 0, 1) := by decide +kernel
theorem dX10_listed_97 : decode cX10_listed 97 = .ok (.iload_n 1, 1) := by decide +kernel
theorem dX10_listed_98 : decode cX10_listed 98 = .ok (.bipush 6, 2) := by decide +kernel
theorem dX10_listed_100 : decode cX10_listed 100 = .ok (.if_icmp .ne 10, 3) := by decide +kernel
theorem dX10_listed_103 : decode cX10_listed 103 = .ok (.aload_n 0, 1) := by decide +kernel
theorem dX10_listed_104 : decode cX10_listed 104 = .ok (.getfield 247, 3) := by decide +kernel
theorem dX10_listed_107 : decode cX10_listed 107 = .ok (.goto 7, 3) := by decide +kernel
theorem dX10_listed_110 : decode cX10_listed 110 = .ok (.aload_n 0, 1) := by decide +kernel
theorem dX10_listed_111 : decode cX10_listed 111 = .ok (.getfield 244, 3) := by decide +kernel
theorem dX10_listed_114 : decode cX10_listed 114 = .ok (.iload 4, 2) := by decide +kernel
theorem dX10_listed_116 : decode cX10_listed 116 = .ok (.invokevirtual 281, 3) := by decide +kernel
theorem dX10_listed_119 : decode cX10_listed 119 = .ok (.iload_n 2, 1) := by decide +kernel
theorem dX10_listed_120 : decode cX10_listed 120 = .ok (.invokestatic 275, 3) := by decide +kernel
theorem dX10_listed_123 : decode cX10_listed 123 = .ok (.aload_n 0, 1) := by decide +kernel
theorem dX10_listed_124 : decode cX10_listed 124 = .ok (.getfield 260, 3) := by decide +kernel
theorem dX10_listed_127 : decode cX10_listed 127 = .ok (.ifCond .eq 7, 3) := by decide +kernel
theorem dX10_listed_130 : decode cX10_listed 130 = .ok (.iconst 1, 1) := by decide +kernel
theorem dX10_listed_131 : decode cX10_listed 131 = .ok (.goto 4, 3) := by decide +kernel
theorem dX10_listed_134 : decode cX10_listed 134 = .ok (.iconst 0, 1) := by decide +kernel
theorem dX10_listed_135 : decode cX10_listed 135 = .ok (.iadd, 1) := by decide +kernel
theorem dX10_listed_136 : decode cX10_listed 136 = .ok (.ireturn, 1) := by decide +kernel
theorem dX10_doZero_0 : decode cX10_doZero 0 = .ok (.iload_n 2, 1) := by decide +kernel
theorem dX10_doZero_1 : decode cX10_doZero 1 = .ok (.iconst 4, 1) := by decide +kernel
theorem dX10_doZero_2 : decode cX10_doZero 2 = .ok (.if_icmp .ne 9, 3) := by decide +kernel
theorem dX10_doZero_5 : decode cX10_doZero 5 = .ok (.aload_n 0, 1) := by decide +kernel
theorem dX10_doZero_6 : decode cX10_doZero 6 = .ok (.iload_n 1, 1) := by decide +kernel
theorem dX10_doZero_7 : decode cX10_doZero 7 = .ok (.invokevirtual 307, 3) := by decide +kernel
theorem dX10_doZero_10 : decode cX10_doZero 10 = .ok (.ireturn, 1) := by decide +kernel
theorem dX10_doZero_11 : decode cX10_doZero 11 = .ok (.iload_n 2, 1) := by decide +kernel
theorem dX10_doZero_12 : decode cX10_doZero 12 = .ok (.iconst 2, 1) := by decide +kernel
theorem dX10_doZero_13 : decode cX10_doZero 13 = .ok (.if_icmp .ne 9, 3) := by decide +kernel
theorem dX10_doZero_16 : decode cX10_doZero 16 = .ok (.aload_n 0, 1) := by decide +kernel
theorem dX10_doZero_17 : decode cX10_doZero 17 = .ok (.iload_n 1, 1) := by decide +kernel
theorem dX10_doZero_18 : decode cX10_doZero 18 = .ok (.invokevirtual 310, 3) := by decide +kernel
theorem dX10_doZero_21 : decode cX10_doZero 21 = .ok (.ireturn, 1) := by decide +kernel
theorem dX10_doZero_22 : decode cX10_doZero 22 = .ok (.iload_n 2, 1) := by decide +kernel
theorem dX10_doZero_23 : decode cX10_doZero 23 = .ok (.bipush 6, 2) := by decide +kernel
theorem dX10_doZero_25 : decode cX10_doZero 25 = .ok (.if_icmp .ne 9, 3) := by decide +kernel
theorem dX10_doZero_28 : decode cX10_doZero 28 = .ok (.aload_n 0, 1) := by decide +kernel
theorem dX10_doZero_29 : decode cX10_doZero 29 = .ok (.iload_n 1, 1) := by decide +kernel
theorem dX10_doZero_30 : decode cX10_doZero 30 = .ok (.invokevirtual 313, 3) := by decide +kernel
theorem dX10_doZero_33 : decode cX10_doZero 33 = .ok (.ireturn, 1) := by decide +kernel
theorem dX10_doZero_34 : decode cX10_doZero 34 = .ok (.iload_n 2, 1) := by decide +kernel
theorem dX10_doZero_35 : decode cX10_doZero 35 = .ok (.ifCond .ne 14, 3) := by decide +kernel
theorem dX10_doZero_38 : decode cX10_doZero 38 = .ok (.iload_n 1, 1) := by decide +kernel
theorem dX10_doZero_39 : decode cX10_doZero 39 = .ok (.iconst 4, 1) := by decide +kernel
theorem dX10_doZero_40 : decode cX10_doZero 40 = .ok (.if_icmp .ge 9, 3) := by decide +kernel
theorem dX10_doZero_43 : decode cX10_doZero 43 = .ok (.aload_n 0, 1) := by decide +kernel
theorem dX10_doZero_44 : decode cX10_doZero 44 = .ok (.iload_n 1, 1) := by decide +kernel
theorem dX10_doZero_45 : decode cX10_doZero 45 = .ok (.invokevirtual 316, 3) := by decide +kernel
theorem dX10_doZero_48 : decode cX10_doZero 48 = .ok (.ireturn, 1) := by decide +kernel
theorem dX10_doZero_49 : decode cX10_doZero 49 = .ok (.iload_n 2, 1) := by decide +kernel
theorem dX10_doZero_50 : decode cX10_doZero 50 = .ok (.iconst 3, 1) := by decide +kernel
theorem dX10_doZero_51 : decode cX10_doZero 51 = .ok (.if_icmp .ne 28, 3) := by decide +kernel
theorem dX10_doZero_54 : decode cX10_doZero 54 = .ok (.iload_n 1, 1) := by decide +kernel
theorem dX10_doZero_55 : decode cX10_doZero 55 = .ok (.iconst 2, 1) := by decide +kernel
theorem dX10_doZero_56 : decode cX10_doZero 56 = .ok (.if_icmp .eq 8, 3) := by decide +kernel
theorem dX10_doZero_59 : decode cX10_doZero 59 = .ok (.iload_n 1, 1) := by decide +kernel
theorem dX10_doZero_60 : decode cX10_doZero 60 = .ok (.iconst 3, 1) := by decide +kernel
theorem dX10_doZero_61 : decode cX10_doZero 61 = .ok (.if_icmp .ne 18, 3) := by decide +kernel
theorem dX10_doZero_64 : decode cX10_doZero 64 = .ok (.aload_n 0, 1) := by decide +kernel
theorem dX10_doZero_65 : decode cX10_doZero 65 = .ok (.iload_n 1, 1) := by decide +kernel
theorem dX10_doZero_66 : decode cX10_doZero 66 = .ok (.iconst 3, 1) := by decide +kernel
theorem dX10_doZero_67 : decode cX10_doZero 67 = .ok (.if_icmp .ne 7, 3) := by decide +kernel
theorem dX10_doZero_70 : decode cX10_doZero 70 = .ok (.iconst 1, 1) := by decide +kernel
theorem dX10_doZero_71 : decode cX10_doZero 71 = .ok (.goto 4, 3) := by decide +kernel
theorem dX10_doZero_74 : decode cX10_doZero 74 = .ok (.iconst 0, 1) := by decide +kernel
theorem dX10_doZero_75 : decode cX10_doZero 75 = .ok (.invokevirtual 319, 3) := by decide +kernel
theorem dX10_doZero_78 : decode cX10_doZero 78 = .ok (.ireturn, 1) := by decide +kernel
theorem dX10_doZero_79 : decode cX10_doZero 79 = .ok (.iload_n 2, 1) := by decide +kernel
theorem dX10_doZero_80 : decode cX10_doZero 80 = .ok (.ifCond .ne 16, 3) := by decide +kernel
theorem dX10_doZero_83 : decode cX10_doZero 83 = .ok (.iload_n 1, 1) := by decide +kernel
theorem dX10_doZero_84 : decode cX10_doZero 84 = .ok (.iconst 4, 1) := by decide +kernel
theorem dX10_doZero_85 : decode cX10_doZero 85 = .ok (.if_icmp .le 7, 3) := by decide +kernel
theorem dX10_doZero_88 : decode cX10_doZero 88 = .ok (.iconst 1, 1) := by decide +kernel
theorem dX10_doZero_89 : decode cX10_doZero 89 = .ok (.goto 68, 3) := by decide +kernel
theorem dX10_doZero_92 : decode cX10_doZero 92 = .ok (.iconst 0, 1) := by decide +kernel
theorem dX10_doZero_93 : decode cX10_doZero 93 = .ok (.goto 64, 3) := by decide +kernel
theorem dX10_doZero_96 : decode cX10_doZero 96 = .ok (.iload_n 2, 1) := by decide +kernel
theorem dX10_doZero_97 : decode cX10_doZero 97 = .ok (.iconst 1, 1) := by decide +kernel
theorem dX10_doZero_98 : decode cX10_doZero 98 = .ok (.if_icmp .eq 8, 3) := by decide +kernel
theorem dX10_doZero_101 : decode cX10_doZero 101 = .ok (.iload_n 2, 1) := by decide +kernel
theorem dX10_doZero_102 : decode cX10_doZero 102 = .ok (.iconst 3, 1) := by decide +kernel
theorem dX10_doZero_103 : decode cX10_doZero 103 = .ok (.if_icmp .ne 21, 3) := by decide +kernel
theorem dX10_doZero_106 : decode cX10_doZero 106 = .ok (.iload_n 1, 1) := by decide +kernel
theorem dX10_doZero_107 : decode cX10_doZero 107 = .ok (.iconst 1, 1) := by decide +kernel
theorem dX10_doZero_108 : decode cX10_doZero 108 = .ok (.if_icmp .eq 8, 3) := by decide +kernel
theorem dX10_doZero_111 : decode cX10_doZero 111 = .ok (.iload_n 1, 1) := by decide +kernel
theorem dX10_doZero_112 : decode cX10_doZero 112 = .ok (.iconst 3, 1) := by decide +kernel
theorem dX10_doZero_113 : decode cX10_doZero 113 = .ok (.if_icmp .le 7, 3) := by decide +kernel
theorem dX10_doZero_116 : decode cX10_doZero 116 = .ok (.iconst 1, 1) := by decide +kernel
theorem dX10_doZero_117 : decode cX10_doZero 117 = .ok (.goto 40, 3) := by decide +kernel
theorem dX10_doZero_120 : decode cX10_doZero 120 = .ok (.iconst 0, 1) := by decide +kernel
theorem dX10_doZero_121 : decode cX10_doZero 121 = .ok (.goto 36, 3) := by decide +kernel
theorem dX10_doZero_124 : decode cX10_doZero 124 = .ok (.iload_n 2, 1) := by decide +kernel
theorem dX10_doZero_125 : decode cX10_doZero 125 = .ok (.iconst 5, 1) := by decide +kernel
theorem dX10_doZero_126 : decode cX10_doZero 126 = .ok (.if_icmp .ne 21, 3) := by decide +kernel
theorem dX10_doZero_129 : decode cX10_doZero 129 = .ok (.iload_n 1, 1) := by decide +kernel
theorem dX10_doZero_130 : decode cX10_doZero 130 = .ok (.iconst 4, 1) := by decide +kernel
theorem dX10_doZero_131 : decode cX10_doZero 131 = .ok (.if_icmp .eq 8, 3) := by decide +kernel
theorem dX10_doZero_134 : decode cX10_doZero 134 = .ok (.iload_n 1, 1) := by decide +kernel
theorem dX10_doZero_135 : decode cX10_doZero 135 = .ok (.iconst 5, 1) := by decide +kernel
theorem dX10_doZero_136 : decode cX10_doZero 136 = .ok (.if_icmp .ne 7, 3) := by decide +kernel
theorem dX10_doZero_139 : decode cX10_doZero 139 = .ok (.iconst 1, 1) := by decide +kernel
theorem dX10_doZero_140 : decode cX10_doZero 140 = .ok (.goto 17, 3) := by decide +kernel
theorem dX10_doZero_143 : decode cX10_doZero 143 = .ok (.iconst 0, 1) := by decide +kernel
theorem dX10_doZero_144 : decode cX10_doZero 144 = .ok (.goto 13, 3) := by decide +kernel
theorem dX10_doZero_147 : decode cX10_doZero 147 = .ok (.iload_n 1, 1) := by decide +kernel
theorem dX10_doZero_148 : decode cX10_doZero 148 = .ok (.iconst 5, 1) := by decide +kernel
theorem dX10_doZero_149 : decode cX10_doZero 149 = .ok (.if_icmp .ne 7, 3) := by decide +kernel
theorem dX10_doZero_152 : decode cX10_doZero 152 = .ok (.iconst 1, 1) := by decide +kernel
theorem dX10_doZero_153 : decode cX10_doZero 153 = .ok (.goto 4, 3) := by decide +kernel
theorem dX10_doZero_156 : decode cX10_doZero 156 = .ok (.iconst 0, 1) := by decide +kernel
theorem dX10_doZero_157 : decode cX10_doZero 157 = .ok (.istore_n 3, 1) := by decide +kernel
theorem dX10_doZero_158 : decode cX10_doZero 158 = .ok (.iload_n 3, 1) := by decide +kernel
theorem dX10_doZero_159 : decode cX10_doZero 159 = .ok (.ifCond .ne 5, 3) := by decide +kernel
theorem dX10_doZero_162 : decode cX10_doZero 162 = .ok (.iconst (-1), 1) := by decide +kernel
theorem dX10_doZero_163 : decode cX10_doZero 163 = .ok (.ireturn, 1) := by decide +kernel
theorem dX10_doZero_164 : decode cX10_doZero 164 = .ok (.aload_n 0, 1) := by decide +kernel
theorem dX10_doZero_165 : decode cX10_doZero 165 = .ok (.iload_n 1, 1) := by decide +kernel
theorem dX10_doZero_166 : decode cX10_doZero 166 = .ok (.iload_n 2, 1) := by decide +kernel
theorem dX10_doZero_167 : decode cX10_doZero 167 = .ok (.ifCond .ne 7, 3) := by decide +kernel
theorem dX10_doZero_170 : decode cX10_doZero 170 = .ok (.iconst 1, 1) := by decide +kernel
theorem dX10_doZero_171 : decode cX10_doZero 171 = .ok (.goto 32, 3) := by decide +kernel
theorem dX10_doZero_174 : decode cX10_doZero 174 = .ok (.iload_n 2, 1) := by decide +kernel
theorem dX10_doZero_175 : decode cX10_doZero 175 = .ok (.iconst 1, 1) := by decide +kernel
theorem dX10_doZero_176 : decode cX10_doZero 176 = .ok (.if_icmp .ne 7, 3) := by decide +kernel
theorem dX10_doZero_179 : decode cX10_doZero 179 = .ok (.iconst 2, 1) := by decide +kernel
theorem dX10_doZero_180 : decode cX10_doZero 180 = .ok (.goto 23, 3) := by decide +kernel
theorem dX10_doZero_183 : decode cX10_doZero 183 = .ok (.iload_n 2, 1) := by decide +kernel
theorem dX10_doZero_184 : decode cX10_doZero 184 = .ok (.iconst 3, 1) := by decide +kernel
theorem dX10_doZero_185 : decode cX10_doZero 185 = .ok (.if_icmp .ne 7, 3) := by decide +kernel
theorem dX10_doZero_188 : decode cX10_doZero 188 = .ok (.iconst 5, 1) := by decide +kernel
theorem dX10_doZero_189 : decode cX10_doZero 189 = .ok (.goto 14, 3) := by decide +kernel
theorem dX10_doZero_192 : decode cX10_doZero 192 = .ok (.iload_n 2, 1) := by decide +kernel
theorem dX10_doZero_193 : decode cX10_doZero 193 = .ok (.iconst 5, 1) := by decide +kernel
theorem dX10_doZero_194 : decode cX10_doZero 194 = .ok (.if_icmp .ne 7, 3) := by decide +kernel
theorem dX10_doZero_197 : decode cX10_doZero 197 = .ok (.iconst 3, 1) := by decide +kernel
theorem dX10_doZero_198 : decode cX10_doZero 198 = .ok (.goto 5, 3) := by decide +kernel
theorem dX10_doZero_201 : decode cX10_doZero 201 = .ok (.bipush 6, 2) := by decide +kernel
theorem dX10_doZero_203 : decode cX10_doZero 203 = .ok (.invokevirtual 323, 3) := by decide +kernel
theorem dX10_doZero_206 : decode cX10_doZero 206 = .ok (.ireturn, 1) := by decide +kernel
theorem dX10_perform_0 : decode cX10_perform 0 = .ok (.aload_n 0, 1) := by decide +kernel
theorem dX10_perform_1 : decode cX10_perform 1 = .ok (.iconst 0, 1) := by decide +kernel
theorem dX10_perform_2 : decode cX10_perform 2 = .ok (.putfield 260, 3) := by decide +kernel
theorem dX10_perform_5 : decode cX10_perform 5 = .ok (.aload_n 0, 1) := by decide +kernel
theorem dX10_perform_6 : decode cX10_perform 6 = .ok (.getfield 128, 3) := by decide +kernel
theorem dX10_perform_9 : decode cX10_perform 9 = .ok (.ifCond .eq 22, 3) := by decide +kernel
theorem dX10_perform_12 : decode cX10_perform 12 = .ok (.aload_n 0, 1) := by decide +kernel
theorem dX10_perform_13 : decode cX10_perform 13 = .ok (.iconst 0, 1) := by decide +kernel
theorem dX10_perform_14 : decode cX10_perform 14 = .ok (.putfield 128, 3) := by decide +kernel
theorem dX10_perform_17 : decode cX10_perform 17 = .ok (.aload_n 0, 1) := by decide +kernel
theorem dX10_perform_18 : decode cX10_perform 18 = .ok (.ldc_w 326, 3) := by decide +kernel
theorem dX10_perform_21 : decode cX10_perform 21 = .ok (.aload_n 0, 1) := by decide +kernel
theorem dX10_perform_22 : decode cX10_perform 22 = .ok (.getfield 22, 3) := by decide +kernel
theorem dX10_perform_25 : decode cX10_perform 25 = .ok (.invokevirtual 300, 3) := by decide +kernel
theorem dX10_perform_28 : decode cX10_perform 28 = .ok (.bipush 7, 2) := by decide +kernel
theorem dX10_perform_30 : decode cX10_perform 30 = .ok (.ireturn, 1) := by decide +kernel
theorem dX10_perform_31 : decode cX10_perform 31 = .ok (.aload_n 0, 1) := by decide +kernel
theorem dX10_perform_32 : decode cX10_perform 32 = .ok (.getfield 163, 3) := by decide +kernel
theorem dX10_perform_35 : decode cX10_perform 35 = .ok (.aload_n 0, 1) := by decide +kernel
theorem dX10_perform_36 : decode cX10_perform 36 = .ok (.getfield 91, 3) := by decide +kernel
theorem dX10_perform_39 : decode cX10_perform 39 = .ok (.ior, 1) := by decide +kernel
theorem dX10_perform_40 : decode cX10_perform 40 = .ok (.ifCond .eq 26, 3) := by decide +kernel
theorem dX10_perform_43 : decode cX10_perform 43 = .ok (.aload_n 0, 1) := by decide +kernel
theorem dX10_perform_44 : decode cX10_perform 44 = .ok (.getfield 22, 3) := by decide +kernel
theorem dX10_perform_47 : decode cX10_perform 47 = .ok (.iconst 4, 1) := by decide +kernel
theorem dX10_perform_48 : decode cX10_perform 48 = .ok (.iand, 1) := by decide +kernel
theorem dX10_perform_49 : decode cX10_perform 49 = .ok (.ifCond .ne 17, 3) := by decide +kernel
theorem dX10_perform_52 : decode cX10_perform 52 = .ok (.aload_n 0, 1) := by decide +kernel
theorem dX10_perform_53 : decode cX10_perform 53 = .ok (.ldc_w 299, 3) := by decide +kernel
theorem dX10_perform_56 : decode cX10_perform 56 = .ok (.aload_n 0, 1) := by decide +kernel
theorem dX10_perform_57 : decode cX10_perform 57 = .ok (.getfield 22, 3) := by decide +kernel
theorem dX10_perform_60 : decode cX10_perform 60 = .ok (.invokevirtual 300, 3) := by decide +kernel
theorem dX10_perform_63 : decode cX10_perform 63 = .ok (.bipush 7, 2) := by decide +kernel
theorem dX10_perform_65 : decode cX10_perform 65 = .ok (.ireturn, 1) := by decide +kernel
theorem dX10_perform_66 : decode cX10_perform 66 = .ok (.aload_n 0, 1) := by decide +kernel
theorem dX10_perform_67 : decode cX10_perform 67 = .ok (.getfield 218, 3) := by decide +kernel
theorem dX10_perform_70 : decode cX10_perform 70 = .ok (.istore_n 1, 1) := by decide +kernel
theorem dX10_perform_71 : decode cX10_perform 71 = .ok (.aload_n 0, 1) := by decide +kernel
theorem dX10_perform_72 : decode cX10_perform 72 = .ok (.invokevirtual 221, 3) := by decide +kernel
theorem dX10_perform_75 : decode cX10_perform 75 = .ok (.istore_n 2, 1) := by decide +kernel
theorem dX10_perform_76 : decode cX10_perform 76 = .ok (.iload_n 2, 1) := by decide +kernel
theorem dX10_perform_77 : decode cX10_perform 77 = .ok (.iconst 5, 1) := by decide +kernel
theorem dX10_perform_78 : decode cX10_perform 78 = .ok (.ishr, 1) := by decide +kernel
theorem dX10_perform_79 : decode cX10_perform 79 = .ok (.istore_n 3, 1) := by decide +kernel
theorem dX10_perform_80 : decode cX10_perform 80 = .ok (.iload_n 2, 1) := by decide +kernel
theorem dX10_perform_81 : decode cX10_perform 81 = .ok (.iconst 2, 1) := by decide +kernel
theorem dX10_perform_82 : decode cX10_perform 82 = .ok (.ishr, 1) := by decide +kernel
theorem dX10_perform_83 : decode cX10_perform 83 = .ok (.bipush 7, 2) := by decide +kernel
theorem dX10_perform_85 : decode cX10_perform 85 = .ok (.iand, 1) := by decide +kernel
theorem dX10_perform_86 : decode cX10_perform 86 = .ok (.istore 4, 2) := by decide +kernel
theorem dX10_perform_88 : decode cX10_perform 88 = .ok (.iconst (-1), 1) := by decide +kernel
theorem dX10_perform_89 : decode cX10_perform 89 = .ok (.istore 5, 2) := by decide +kernel
theorem dX10_perform_91 : decode cX10_perform 91 = .ok (.iload_n 2, 1) := by decide +kernel
theorem dX10_perform_92 : decode cX10_perform 92 = .ok (.iconst 3, 1) := by decide +kernel
theorem dX10_perform_93 : decode cX10_perform 93 = .ok (.iand, 1) := by decide +kernel
theorem dX10_perform_94 : decode cX10_perform 94 = .ok (.iconst 1, 1) := by decide +kernel
theorem dX10_perform_95 : decode cX10_perform 95 = .ok (.if_icmp .ne 23, 3) := by decide +kernel
theorem dX10_perform_98 : decode cX10_perform 98 = .ok (.iload_n 2, 1) := by decide +kernel
theorem dX10_perform_99 : decode cX10_perform 99 = .ok (.sipush 137, 3) := by decide +kernel
theorem dX10_perform_102 : decode cX10_perform 102 = .ok (.if_icmp .eq 16, 3) := by decide +kernel
theorem dX10_perform_105 : decode cX10_perform 105 = .ok (.aload_n 0, 1) := by decide +kernel
theorem dX10_perform_106 : decode cX10_perform 106 = .ok (.iload_n 3, 1) := by decide +kernel
theorem dX10_perform_107 : decode cX10_perform 107 = .ok (.aload_n 0, 1) := by decide +kernel
theorem dX10_perform_108 : decode cX10_perform 108 = .ok (.iload 4, 2) := by decide +kernel
theorem dX10_perform_110 : decode cX10_perform 110 = .ok (.invokevirtual 327, 3) := by decide +kernel
theorem dX10_perform_113 : decode cX10_perform 113 = .ok (.invokevirtual 330, 3) := by decide +kernel
theorem dX10_perform_116 : decode cX10_perform 116 = .ok (.istore 5, 2) := by decide +kernel
theorem dX10_perform_118 : decode cX10_perform 118 = .ok (.iload_n 2, 1) := by decide +kernel
theorem dX10_perform_119 : decode cX10_perform 119 = .ok (.iconst 3, 1) := by decide +kernel
theorem dX10_perform_120 : decode cX10_perform 120 = .ok (.iand, 1) := by decide +kernel
theorem dX10_perform_121 : decode cX10_perform 121 = .ok (.iconst 2, 1) := by decide +kernel
theorem dX10_perform_122 : decode cX10_perform 122 = .ok (.if_icmp .ne 12, 3) := by decide +kernel
theorem dX10_perform_125 : decode cX10_perform 125 = .ok (.aload_n 0, 1) := by decide +kernel
theorem dX10_perform_126 : decode cX10_perform 126 = .ok (.iload_n 3, 1) := by decide +kernel
theorem dX10_perform_127 : decode cX10_perform 127 = .ok (.iload 4, 2) := by decide +kernel
theorem dX10_perform_129 : decode cX10_perform 129 = .ok (.invokevirtual 333, 3) := by decide +kernel
theorem dX10_perform_132 : decode cX10_perform 132 = .ok (.istore 5, 2) := by decide +kernel
theorem dX10_perform_134 : decode cX10_perform 134 = .ok (.iload_n 2, 1) := by decide +kernel
theorem dX10_perform_135 : decode cX10_perform 135 = .ok (.iconst 3, 1) := by decide +kernel
theorem dX10_perform_136 : decode cX10_perform 136 = .ok (.iand, 1) := by decide +kernel
theorem dX10_perform_137 : decode cX10_perform 137 = .ok (.ifCond .ne 12, 3) := by decide +kernel
theorem dX10_perform_140 : decode cX10_perform 140 = .ok (.aload_n 0, 1) := by decide +kernel
theorem dX10_perform_141 : decode cX10_perform 141 = .ok (.iload_n 3, 1) := by decide +kernel
theorem dX10_perform_142 : decode cX10_perform 142 = .ok (.iload 4, 2) := by decide +kernel
theorem dX10_perform_144 : decode cX10_perform 144 = .ok (.invokevirtual 336, 3) := by decide +kernel
theorem dX10_perform_147 : decode cX10_perform 147 = .ok (.istore 5, 2) := by decide +kernel
theorem dX10_perform_149 : decode cX10_perform 149 = .ok (.iload 5, 2) := by decide +kernel
theorem dX10_perform_151 : decode cX10_perform 151 = .ok (.ifCond .le 6, 3) := by decide +kernel
theorem dX10_perform_154 : decode cX10_perform 154 = .ok (.iload 5, 2) := by decide +kernel
theorem dX10_perform_156 : decode cX10_perform 156 = .ok (.ireturn, 1) := by decide +kernel
theorem dX10_perform_157 : decode cX10_perform 157 = .ok (.aload_n 0, 1) := by decide +kernel
theorem dX10_perform_158 : decode cX10_perform 158 = .ok (.iload_n 1, 1) := by decide +kernel
theorem dX10_perform_159 : decode cX10_perform 159 = .ok (.putfield 218, 3) := by decide +kernel
theorem dX10_perform_162 : decode cX10_perform 162 = .ok (.iconst 2, 1) := by decide +kernel
theorem dX10_perform_163 : decode cX10_perform 163 = .ok (.ireturn, 1) := by decide +kernel
theorem dX10_oneStep_0 : decode cX10_oneStep 0 = .ok (.aload_n 0, 1) := by decide +kernel
theorem dX10_oneStep_1 : decode cX10_oneStep 1 = .ok (.iconst 0, 1) := by decide +kernel
theorem dX10_oneStep_2 : decode cX10_oneStep 2 = .ok (.putfield 178, 3) := by decide +kernel
theorem dX10_oneStep_5 : decode cX10_oneStep 5 = .ok (.aload_n 0, 1) := by decide +kernel
theorem dX10_oneStep_6 : decode cX10_oneStep 6 = .ok (.invokevirtual 339, 3) := by decide +kernel
theorem dX10_oneStep_9 : decode cX10_oneStep 9 = .ok (.istore_n 1, 1) := by decide +kernel
theorem dX10_oneStep_10 : decode cX10_oneStep 10 = .ok (.aload_n 0, 1) := by decide +kernel
theorem dX10_oneStep_11 : decode cX10_oneStep 11 = .ok (.dup, 1) := by decide +kernel
theorem dX10_oneStep_12 : decode cX10_oneStep 12 = .ok (.getfield 178, 3) := by decide +kernel
theorem dX10_oneStep_15 : decode cX10_oneStep 15 = .ok (.iload_n 1, 1) := by decide +kernel
theorem dX10_oneStep_16 : decode cX10_oneStep 16 = .ok (.iadd, 1) := by decide +kernel
theorem dX10_oneStep_17 : decode cX10_oneStep 17 = .ok (.putfield 178, 3) := by decide +kernel
theorem dX10_oneStep_20 : decode cX10_oneStep 20 = .ok (.aload_n 0, 1) := by decide +kernel
theorem dX10_oneStep_21 : decode cX10_oneStep 21 = .ok (.aload_n 0, 1) := by decide +kernel
theorem dX10_oneStep_22 : decode cX10_oneStep 22 = .ok (.getfield 178, 3) := by decide +kernel
theorem dX10_oneStep_25 : decode cX10_oneStep 25 = .ok (.invokevirtual 342, 3) := by decide +kernel
theorem dX10_oneStep_28 : decode cX10_oneStep 28 = .ok (.aload_n 0, 1) := by decide +kernel
theorem dX10_oneStep_29 : decode cX10_oneStep 29 = .ok (.getfield 178, 3) := by decide +kernel
theorem dX10_oneStep_32 : decode cX10_oneStep 32 = .ok (.ireturn, 1) := by decide +kernel
theorem dX10_step_0 : decode cX10_step 0 = .ok (.aload_n 0, 1) := by decide +kernel
theorem dX10_step_1 : decode cX10_step 1 = .ok (.iconst 0, 1) := by decide +kernel
theorem dX10_step_2 : decode cX10_step 2 = .ok (.putfield 61, 3) := by decide +kernel
theorem dX10_step_5 : decode cX10_step 5 = .ok (.aload_n 0, 1) := by decide +kernel
theorem dX10_step_6 : decode cX10_step 6 = .ok (.invokevirtual 345, 3) := by decide +kernel
theorem dX10_step_9 : decode cX10_step 9 = .ok (.ireturn, 1) := by decide +kernel
theorem dX10_run_0 : decode cX10_run 0 = .ok (.aload_n 0, 1) := by decide +kernel
theorem dX10_run_1 : decode cX10_run 1 = .ok (.iconst 0, 1) := by decide +kernel
theorem dX10_run_2 : decode cX10_run 2 = .ok (.putfield 61, 3) := by decide +kernel
theorem dX10_run_5 : decode cX10_run 5 = .ok (.iload_n 1, 1) := by decide +kernel
theorem dX10_run_6 : decode cX10_run 6 = .ok (.ifCond .lt 10, 3) := by decide +kernel
theorem dX10_run_9 : decode cX10_run 9 = .ok (.iload_n 1, 1) := by decide +kernel
theorem dX10_run_10 : decode cX10_run 10 = .ok (.sipush 200, 3) := by decide +kernel
theorem dX10_run_13 : decode cX10_run 13 = .ok (.if_icmp .le 5, 3) := by decide +kernel
theorem dX10_run_16 : decode cX10_run 16 = .ok (.iconst (-1), 1) := by decide +kernel
theorem dX10_run_17 : decode cX10_run 17 = .ok (.ireturn, 1) := by decide +kernel
theorem dX10_run_18 : decode cX10_run 18 = .ok (.iconst 0, 1) := by decide +kernel
theorem dX10_run_19 : decode cX10_run 19 = .ok (.istore_n 2, 1) := by decide +kernel
theorem dX10_run_20 : decode cX10_run 20 = .ok (.iconst 0, 1) := by decide +kernel
theorem dX10_run_21 : decode cX10_run 21 = .ok (.istore_n 3, 1) := by decide +kernel
theorem dX10_run_22 : decode cX10_run 22 = .ok (.iload_n 3, 1) := by decide +kernel
theorem dX10_run_23 : decode cX10_run 23 = .ok (.iload_n 1, 1) := by decide +kernel
theorem dX10_run_24 : decode cX10_run 24 = .ok (.if_icmp .ge 16, 3) := by decide +kernel
theorem dX10_run_27 : decode cX10_run 27 = .ok (.iload_n 2, 1) := by decide +kernel
theorem dX10_run_28 : decode cX10_run 28 = .ok (.aload_n 0, 1) := by decide +kernel
theorem dX10_run_29 : decode cX10_run 29 = .ok (.invokevirtual 345, 3) := by decide +kernel
theorem dX10_run_32 : decode cX10_run 32 = .ok (.iadd, 1) := by decide +kernel
theorem dX10_run_33 : decode cX10_run 33 = .ok (.istore_n 2, 1) := by decide +kernel
theorem dX10_run_34 : decode cX10_run 34 = .ok (.iinc 3 1, 3) := by decide +kernel
theorem dX10_run_37 : decode cX10_run 37 = .ok (.goto (-15), 3) := by decide +kernel
theorem dX10_run_40 : decode cX10_run 40 = .ok (.iload_n 2, 1) := by decide +kernel
theorem dX10_run_41 : decode cX10_run 41 = .ok (.ireturn, 1) := by decide +kernel
theorem dX10_reset_0 : decode cX10_reset 0 = .ok (.aload_n 0, 1) := by decide +kernel
theorem dX10_reset_1 : decode cX10_reset 1 = .ok (.iconst 0, 1) := by decide +kernel
theorem dX10_reset_2 : decode cX10_reset 2 = .ok (.putfield 61, 3) := by decide +kernel
theorem dX10_reset_5 : decode cX10_reset 5 = .ok (.aload_n 0, 1) := by decide +kernel
theorem dX10_reset_6 : decode cX10_reset 6 = .ok (.aload_n 0, 1) := by decide +kernel
theorem dX10_reset_7 : decode cX10_reset 7 = .ok (.getfield 225, 3) := by decide +kernel
theorem dX10_reset_10 : decode cX10_reset 10 = .ok (.iconst 3, 1) := by decide +kernel
theorem dX10_reset_11 : decode cX10_reset 11 = .ok (.isub, 1) := by decide +kernel
theorem dX10_reset_12 : decode cX10_reset 12 = .ok (.sipush 255, 3) := by decide +kernel
theorem dX10_reset_15 : decode cX10_reset 15 = .ok (.iand, 1) := by decide +kernel
theorem dX10_reset_16 : decode cX10_reset 16 = .ok (.putfield 225, 3) := by decide +kernel
theorem dX10_reset_19 : decode cX10_reset 19 = .ok (.aload_n 0, 1) := by decide +kernel
theorem dX10_reset_20 : decode cX10_reset 20 = .ok (.iconst 4, 1) := by decide +kernel
theorem dX10_reset_21 : decode cX10_reset 21 = .ok (.iconst 1, 1) := by decide +kernel
theorem dX10_reset_22 : decode cX10_reset 22 = .ok (.invokevirtual 234, 3) := by decide +kernel
theorem dX10_reset_25 : decode cX10_reset 25 = .ok (.aload_n 0, 1) := by decide +kernel
theorem dX10_reset_26 : decode cX10_reset 26 = .ok (.aload_n 0, 1) := by decide +kernel
theorem dX10_reset_27 : decode cX10_reset 27 = .ok (.ldc_w 348, 3) := by decide +kernel
theorem dX10_reset_30 : decode cX10_reset 30 = .ok (.invokevirtual 241, 3) := by decide +kernel
theorem dX10_reset_33 : decode cX10_reset 33 = .ok (.putfield 218, 3) := by decide +kernel
theorem dX10_reset_36 : decode cX10_reset 36 = .ok (.aload_n 0, 1) := by decide +kernel
theorem dX10_reset_37 : decode cX10_reset 37 = .ok (.iconst 0, 1) := by decide +kernel
theorem dX10_reset_38 : decode cX10_reset 38 = .ok (.putfield 107, 3) := by decide +kernel
theorem dX10_reset_41 : decode cX10_reset 41 = .ok (.aload_n 0, 1) := by decide +kernel
theorem dX10_reset_42 : decode cX10_reset 42 = .ok (.iconst 0, 1) := by decide +kernel
theorem dX10_reset_43 : decode cX10_reset 43 = .ok (.putfield 134, 3) := by decide +kernel
theorem dX10_reset_46 : decode cX10_reset 46 = .ok (.aload_n 0, 1) := by decide +kernel
theorem dX10_reset_47 : decode cX10_reset 47 = .ok (.iconst 0, 1) := by decide +kernel
theorem dX10_reset_48 : decode cX10_reset 48 = .ok (.putfield 113, 3) := by decide +kernel
theorem dX10_reset_51 : decode cX10_reset 51 = .ok (.aload_n 0, 1) := by decide +kernel
theorem dX10_reset_52 : decode cX10_reset 52 = .ok (.iconst 0, 1) := by decide +kernel
theorem dX10_reset_53 : decode cX10_reset 53 = .ok (.putfield 128, 3) := by decide +kernel
theorem dX10_reset_56 : decode cX10_reset 56 = .ok (.aload_n 0, 1) := by decide +kernel
theorem dX10_reset_57 : decode cX10_reset 57 = .ok (.iconst 0, 1) := by decide +kernel
theorem dX10_reset_58 : decode cX10_reset 58 = .ok (.putfield 144, 3) := by decide +kernel
theorem dX10_reset_61 : decode cX10_reset 61 = .ok (.iconst 0, 1) := by decide +kernel
theorem dX10_reset_62 : decode cX10_reset 62 = .ok (.istore_n 1, 1) := by decide +kernel
theorem dX10_reset_63 : decode cX10_reset 63 = .ok (.iload_n 1, 1) := by decide +kernel
theorem dX10_reset_64 : decode cX10_reset 64 = .ok (.iconst 4, 1) := by decide +kernel
theorem dX10_reset_65 : decode cX10_reset 65 = .ok (.if_icmp .ge 16, 3) := by decide +kernel
theorem dX10_reset_68 : decode cX10_reset 68 = .ok (.aload_n 0, 1) := by decide +kernel
theorem dX10_reset_69 : decode cX10_reset 69 = .ok (.getfield 38, 3) := by decide +kernel
theorem dX10_reset_72 : decode cX10_reset 72 = .ok (.iload_n 1, 1) := by decide +kernel
theorem dX10_reset_73 : decode cX10_reset 73 = .ok (.iconst 0, 1) := by decide +kernel
theorem dX10_reset_74 : decode cX10_reset 74 = .ok (.iastore, 1) := by decide +kernel
theorem dX10_reset_75 : decode cX10_reset 75 = .ok (.iinc 1 1, 3) := by decide +kernel
theorem dX10_reset_78 : decode cX10_reset 78 = .ok (.goto (-15), 3) := by decide +kernel
theorem dX10_reset_81 : decode cX10_reset 81 = .ok (.aload_n 0, 1) := by decide +kernel
theorem dX10_reset_82 : decode cX10_reset 82 = .ok (.iconst 0, 1) := by decide +kernel
theorem dX10_reset_83 : decode cX10_reset 83 = .ok (.putfield 163, 3) := by decide +kernel
theorem dX10_reset_86 : decode cX10_reset 86 = .ok (.aload_n 0, 1) := by decide +kernel
theorem dX10_reset_87 : decode cX10_reset 87 = .ok (.iconst 0, 1) := by decide +kernel
theorem dX10_reset_88 : decode cX10_reset 88 = .ok (.putfield 76, 3) := by decide +kernel
theorem dX10_reset_91 : decode cX10_reset 91 = .ok (.aload_n 0, 1) := by decide +kernel
theorem dX10_reset_92 : decode cX10_reset 92 = .ok (.iconst 0, 1) := by decide +kernel
theorem dX10_reset_93 : decode cX10_reset 93 = .ok (.putfield 79, 3) := by decide +kernel
theorem dX10_reset_96 : decode cX10_reset 96 = .ok (.return_, 1) := by decide +kernel
theorem dX10_pass_0 : decode cX10_pass 0 = .ok (.aload_n 0, 1) := by decide +kernel
theorem dX10_pass_1 : decode cX10_pass 1 = .ok (.iconst 0, 1) := by decide +kernel
theorem dX10_pass_2 : decode cX10_pass 2 = .ok (.putfield 61, 3) := by decide +kernel
theorem dX10_pass_5 : decode cX10_pass 5 = .ok (.iload_n 1, 1) := by decide +kernel
theorem dX10_pass_6 : decode cX10_pass 6 = .ok (.ifCond .lt 10, 3) := by decide +kernel
theorem dX10_pass_9 : decode cX10_pass 9 = .ok (.iload_n 1, 1) := by decide +kernel
theorem dX10_pass_10 : decode cX10_pass 10 = .ok (.sipush 30000, 3) := by decide +kernel
theorem dX10_pass_13 : decode cX10_pass 13 = .ok (.if_icmp .le 5, 3) := by decide +kernel
theorem dX10_pass_16 : decode cX10_pass 16 = .ok (.iconst 0, 1) := by decide +kernel
theorem dX10_pass_17 : decode cX10_pass 17 = .ok (.ireturn, 1) := by decide +kernel
theorem dX10_pass_18 : decode cX10_pass 18 = .ok (.aload_n 0, 1) := by decide +kernel
theorem dX10_pass_19 : decode cX10_pass 19 = .ok (.iload_n 1, 1) := by decide +kernel
theorem dX10_pass_20 : decode cX10_pass 20 = .ok (.invokevirtual 342, 3) := by decide +kernel
theorem dX10_pass_23 : decode cX10_pass 23 = .ok (.iconst 1, 1) := by decide +kernel
theorem dX10_pass_24 : decode cX10_pass 24 = .ok (.ireturn, 1) := by decide +kernel
theorem dX10_read_0 : decode cX10_read 0 = .ok (.aload_n 0, 1) := by decide +kernel
theorem dX10_read_1 : decode cX10_read 1 = .ok (.iconst 0, 1) := by decide +kernel
theorem dX10_read_2 : decode cX10_read 2 = .ok (.putfield 61, 3) := by decide +kernel
theorem dX10_read_5 : decode cX10_read 5 = .ok (.aload_n 0, 1) := by decide +kernel
theorem dX10_read_6 : decode cX10_read 6 = .ok (.iload_n 1, 1) := by decide +kernel
theorem dX10_read_7 : decode cX10_read 7 = .ok (.ldc 204, 2) := by decide +kernel
theorem dX10_read_9 : decode cX10_read 9 = .ok (.iand, 1) := by decide +kernel
theorem dX10_read_10 : decode cX10_read 10 = .ok (.invokevirtual 172, 3) := by decide +kernel
theorem dX10_read_13 : decode cX10_read 13 = .ok (.ireturn, 1) := by decide +kernel
theorem dX10_write_0 : decode cX10_write 0 = .ok (.aload_n 0, 1) := by decide +kernel
theorem dX10_write_1 : decode cX10_write 1 = .ok (.iconst 0, 1) := by decide +kernel
theorem dX10_write_2 : decode cX10_write 2 = .ok (.putfield 61, 3) := by decide +kernel
theorem dX10_write_5 : decode cX10_write 5 = .ok (.aload_n 0, 1) := by decide +kernel
theorem dX10_write_6 : decode cX10_write 6 = .ok (.iconst 0, 1) := by decide +kernel
theorem dX10_write_7 : decode cX10_write 7 = .ok (.putfield 178, 3) := by decide +kernel
theorem dX10_write_10 : decode cX10_write 10 = .ok (.aload_n 0, 1) := by decide +kernel
theorem dX10_write_11 : decode cX10_write 11 = .ok (.iload_n 1, 1) := by decide +kernel
theorem dX10_write_12 : decode cX10_write 12 = .ok (.ldc 204, 2) := by decide +kernel
theorem dX10_write_14 : decode cX10_write 14 = .ok (.iand, 1) := by decide +kernel
theorem dX10_write_15 : decode cX10_write 15 = .ok (.iload_n 2, 1) := by decide +kernel
theorem dX10_write_16 : decode cX10_write 16 = .ok (.sipush 255, 3) := by decide +kernel
theorem dX10_write_19 : decode cX10_write 19 = .ok (.iand, 1) := by decide +kernel
theorem dX10_write_20 : decode cX10_write 20 = .ok (.invokevirtual 272, 3) := by decide +kernel
theorem dX10_write_23 : decode cX10_write 23 = .ok (.aload_n 0, 1) := by decide +kernel
theorem dX10_write_24 : decode cX10_write 24 = .ok (.aload_n 0, 1) := by decide +kernel
theorem dX10_write_25 : decode cX10_write 25 = .ok (.getfield 178, 3) := by decide +kernel
theorem dX10_write_28 : decode cX10_write 28 = .ok (.invokevirtual 342, 3) := by decide +kernel
theorem dX10_write_31 : decode cX10_write 31 = .ok (.return_, 1) := by decide +kernel
theorem dX10_pad_0 : decode cX10_pad 0 = .ok (.aload_n 0, 1) := by decide +kernel
theorem dX10_pad_1 : decode cX10_pad 1 = .ok (.iload_n 1, 1) := by decide +kernel
theorem dX10_pad_2 : decode cX10_pad 2 = .ok (.ifCond .eq 8, 3) := by decide +kernel
theorem dX10_pad_5 : decode cX10_pad 5 = .ok (.iload_n 1, 1) := by decide +kernel
theorem dX10_pad_6 : decode cX10_pad 6 = .ok (.iconst 1, 1) := by decide +kernel
theorem dX10_pad_7 : decode cX10_pad 7 = .ok (.if_icmp .ne 7, 3) := by decide +kernel
theorem dX10_pad_10 : decode cX10_pad 10 = .ok (.iconst 0, 1) := by decide +kernel
theorem dX10_pad_11 : decode cX10_pad 11 = .ok (.goto 4, 3) := by decide +kernel
theorem dX10_pad_14 : decode cX10_pad 14 = .ok (.iconst 1, 1) := by decide +kernel
theorem dX10_pad_15 : decode cX10_pad 15 = .ok (.putfield 61, 3) := by decide +kernel
theorem dX10_pad_18 : decode cX10_pad 18 = .ok (.aload_n 0, 1) := by decide +kernel
theorem dX10_pad_19 : decode cX10_pad 19 = .ok (.getfield 61, 3) := by decide +kernel
theorem dX10_pad_22 : decode cX10_pad 22 = .ok (.ifCond .ne 14, 3) := by decide +kernel
theorem dX10_pad_25 : decode cX10_pad 25 = .ok (.aload_n 0, 1) := by decide +kernel
theorem dX10_pad_26 : decode cX10_pad 26 = .ok (.getfield 45, 3) := by decide +kernel
theorem dX10_pad_29 : decode cX10_pad 29 = .ok (.iload_n 1, 1) := by decide +kernel
theorem dX10_pad_30 : decode cX10_pad 30 = .ok (.iload_n 2, 1) := by decide +kernel
theorem dX10_pad_31 : decode cX10_pad 31 = .ok (.sipush 255, 3) := by decide +kernel
theorem dX10_pad_34 : decode cX10_pad 34 = .ok (.iand, 1) := by decide +kernel
theorem dX10_pad_35 : decode cX10_pad 35 = .ok (.iastore, 1) := by decide +kernel
theorem dX10_pad_36 : decode cX10_pad 36 = .ok (.return_, 1) := by decide +kernel
theorem dX10_core_0 : decode cX10_core 0 = .ok (.aload_n 0, 1) := by decide +kernel
theorem dX10_core_1 : decode cX10_core 1 = .ok (.iconst 0, 1) := by decide +kernel
theorem dX10_core_2 : decode cX10_core 2 = .ok (.putfield 61, 3) := by decide +kernel
theorem dX10_core_5 : decode cX10_core 5 = .ok (.iload_n 1, 1) := by decide +kernel
theorem dX10_core_6 : decode cX10_core 6 = .ok (.tableswitch 115 0 8 #[50, 55, 60, 65, 70, 75, 80, 90, 103], 50) := by decide +kernel
theorem dX10_core_56 : decode cX10_core 56 = .ok (.aload_n 0, 1) := by decide +kernel
theorem dX10_core_57 : decode cX10_core 57 = .ok (.getfield 266, 3) := by decide +kernel
theorem dX10_core_60 : decode cX10_core 60 = .ok (.ireturn, 1) := by decide +kernel
theorem dX10_core_61 : decode cX10_core 61 = .ok (.aload_n 0, 1) := by decide +kernel
theorem dX10_core_62 : decode cX10_core 62 = .ok (.getfield 244, 3) := by decide +kernel
theorem dX10_core_65 : decode cX10_core 65 = .ok (.ireturn, 1) := by decide +kernel
theorem dX10_core_66 : decode cX10_core 66 = .ok (.aload_n 0, 1) := by decide +kernel
theorem dX10_core_67 : decode cX10_core 67 = .ok (.getfield 247, 3) := by decide +kernel
theorem dX10_core_70 : decode cX10_core 70 = .ok (.ireturn, 1) := by decide +kernel
theorem dX10_core_71 : decode cX10_core 71 = .ok (.aload_n 0, 1) := by decide +kernel
theorem dX10_core_72 : decode cX10_core 72 = .ok (.getfield 225, 3) := by decide +kernel
theorem dX10_core_75 : decode cX10_core 75 = .ok (.ireturn, 1) := by decide +kernel
theorem dX10_core_76 : decode cX10_core 76 = .ok (.aload_n 0, 1) := by decide +kernel
theorem dX10_core_77 : decode cX10_core 77 = .ok (.getfield 22, 3) := by decide +kernel
theorem dX10_core_80 : decode cX10_core 80 = .ok (.ireturn, 1) := by decide +kernel
theorem dX10_core_81 : decode cX10_core 81 = .ok (.aload_n 0, 1) := by decide +kernel
theorem dX10_core_82 : decode cX10_core 82 = .ok (.getfield 218, 3) := by decide +kernel
theorem dX10_core_85 : decode cX10_core 85 = .ok (.ireturn, 1) := by decide +kernel
theorem dX10_core_86 : decode cX10_core 86 = .ok (.aload_n 0, 1) := by decide +kernel
theorem dX10_core_87 : decode cX10_core 87 = .ok (.getfield 181, 3) := by decide +kernel
theorem dX10_core_90 : decode cX10_core 90 = .ok (.ldc2_w 349, 3) := by decide +kernel
theorem dX10_core_93 : decode cX10_core 93 = .ok (.land, 1) := by decide +kernel
theorem dX10_core_94 : decode cX10_core 94 = .ok (.l2i, 1) := by decide +kernel
theorem dX10_core_95 : decode cX10_core 95 = .ok (.ireturn, 1) := by decide +kernel
theorem dX10_core_96 : decode cX10_core 96 = .ok (.aload_n 0, 1) := by decide +kernel
theorem dX10_core_97 : decode cX10_core 97 = .ok (.getfield 128, 3) := by decide +kernel
theorem dX10_core_100 : decode cX10_core 100 = .ok (.ifCond .eq 7, 3) := by decide +kernel
theorem dX10_core_103 : decode cX10_core 103 = .ok (.iconst 1, 1) := by decide +kernel
theorem dX10_core_104 : decode cX10_core 104 = .ok (.goto 4, 3) := by decide +kernel
theorem dX10_core_107 : decode cX10_core 107 = .ok (.iconst 0, 1) := by decide +kernel
theorem dX10_core_108 : decode cX10_core 108 = .ok (.ireturn, 1) := by decide +kernel
theorem dX10_core_109 : decode cX10_core 109 = .ok (.aload_n 0, 1) := by decide +kernel
theorem dX10_core_110 : decode cX10_core 110 = .ok (.getfield 163, 3) := by decide +kernel
theorem dX10_core_113 : decode cX10_core 113 = .ok (.iconst 2, 1) := by decide +kernel
theorem dX10_core_114 : decode cX10_core 114 = .ok (.aload_n 0, 1) := by decide +kernel
theorem dX10_core_115 : decode cX10_core 115 = .ok (.getfield 91, 3) := by decide +kernel
theorem dX10_core_118 : decode cX10_core 118 = .ok (.imul, 1) := by decide +kernel
theorem dX10_core_119 : decode cX10_core 119 = .ok (.iadd, 1) := by decide +kernel
theorem dX10_core_120 : decode cX10_core 120 = .ok (.ireturn, 1) := by decide +kernel
theorem dX10_core_121 : decode cX10_core 121 = .ok (.aload_n 0, 1) := by decide +kernel
theorem dX10_core_122 : decode cX10_core 122 = .ok (.invokevirtual 351, 3) := by decide +kernel
theorem dX10_core_125 : decode cX10_core 125 = .ok (.ireturn, 1) := by decide +kernel
theorem dX10_picture_0 : decode cX10_picture 0 = .ok (.aload_n 0, 1) := by decide +kernel
theorem dX10_picture_1 : decode cX10_picture 1 = .ok (.iconst 0, 1) := by decide +kernel
theorem dX10_picture_2 : decode cX10_picture 2 = .ok (.putfield 61, 3) := by decide +kernel
theorem dX10_picture_5 : decode cX10_picture 5 = .ok (.iload_n 1, 1) := by decide +kernel
theorem dX10_picture_6 : decode cX10_picture 6 = .ok (.tableswitch 113 0 10 #[58, 63, 68, 73, 78, 83, 88, 93, 98, 103, 108], 58) := by decide +kernel
theorem dX10_picture_64 : decode cX10_picture 64 = .ok (.aload_n 0, 1) := by decide +kernel
theorem dX10_picture_65 : decode cX10_picture 65 = .ok (.getfield 104, 3) := by decide +kernel
theorem dX10_picture_68 : decode cX10_picture 68 = .ok (.ireturn, 1) := by decide +kernel
theorem dX10_picture_69 : decode cX10_picture 69 = .ok (.aload_n 0, 1) := by decide +kernel
theorem dX10_picture_70 : decode cX10_picture 70 = .ok (.getfield 131, 3) := by decide +kernel
theorem dX10_picture_73 : decode cX10_picture 73 = .ok (.ireturn, 1) := by decide +kernel
theorem dX10_picture_74 : decode cX10_picture 74 = .ok (.aload_n 0, 1) := by decide +kernel
theorem dX10_picture_75 : decode cX10_picture 75 = .ok (.getfield 137, 3) := by decide +kernel
theorem dX10_picture_78 : decode cX10_picture 78 = .ok (.ireturn, 1) := by decide +kernel
theorem dX10_picture_79 : decode cX10_picture 79 = .ok (.aload_n 0, 1) := by decide +kernel
theorem dX10_picture_80 : decode cX10_picture 80 = .ok (.getfield 113, 3) := by decide +kernel
theorem dX10_picture_83 : decode cX10_picture 83 = .ok (.ireturn, 1) := by decide +kernel
theorem dX10_picture_84 : decode cX10_picture 84 = .ok (.aload_n 0, 1) := by decide +kernel
theorem dX10_picture_85 : decode cX10_picture 85 = .ok (.getfield 107, 3) := by decide +kernel
theorem dX10_picture_88 : decode cX10_picture 88 = .ok (.ireturn, 1) := by decide +kernel
theorem dX10_picture_89 : decode cX10_picture 89 = .ok (.aload_n 0, 1) := by decide +kernel
theorem dX10_picture_90 : decode cX10_picture 90 = .ok (.getfield 134, 3) := by decide +kernel
theorem dX10_picture_93 : decode cX10_picture 93 = .ok (.ireturn, 1) := by decide +kernel
theorem dX10_picture_94 : decode cX10_picture 94 = .ok (.aload_n 0, 1) := by decide +kernel
theorem dX10_picture_95 : decode cX10_picture 95 = .ok (.getfield 110, 3) := by decide +kernel
theorem dX10_picture_98 : decode cX10_picture 98 = .ok (.ireturn, 1) := by decide +kernel
theorem dX10_picture_99 : decode cX10_picture 99 = .ok (.aload_n 0, 1) := by decide +kernel
theorem dX10_picture_100 : decode cX10_picture 100 = .ok (.getfield 116, 3) := by decide +kernel
theorem dX10_picture_103 : decode cX10_picture 103 = .ok (.ireturn, 1) := by decide +kernel
theorem dX10_picture_104 : decode cX10_picture 104 = .ok (.aload_n 0, 1) := by decide +kernel
theorem dX10_picture_105 : decode cX10_picture 105 = .ok (.getfield 208, 3) := by decide +kernel
theorem dX10_picture_108 : decode cX10_picture 108 = .ok (.ireturn, 1) := by decide +kernel
theorem dX10_picture_109 : decode cX10_picture 109 = .ok (.aload_n 0, 1) := by decide +kernel
theorem dX10_picture_110 : decode cX10_picture 110 = .ok (.getfield 205, 3) := by decide +kernel
theorem dX10_picture_113 : decode cX10_picture 113 = .ok (.ireturn, 1) := by decide +kernel
theorem dX10_picture_114 : decode cX10_picture 114 = .ok (.aload_n 0, 1) := by decide +kernel
theorem dX10_picture_115 : decode cX10_picture 115 = .ok (.getfield 122, 3) := by decide +kernel
theorem dX10_picture_118 : decode cX10_picture 118 = .ok (.ireturn, 1) := by decide +kernel
theorem dX10_picture_119 : decode cX10_picture 119 = .ok (.aload_n 0, 1) := by decide +kernel
theorem dX10_picture_120 : decode cX10_picture 120 = .ok (.invokevirtual 351, 3) := by decide +kernel
theorem dX10_picture_123 : decode cX10_picture 123 = .ok (.ireturn, 1) := by decide +kernel
theorem dX10_memory_0 : decode cX10_memory 0 = .ok (.aload_n 0, 1) := by decide +kernel
theorem dX10_memory_1 : decode cX10_memory 1 = .ok (.iconst 0, 1) := by decide +kernel
theorem dX10_memory_2 : decode cX10_memory 2 = .ok (.putfield 61, 3) := by decide +kernel
theorem dX10_memory_5 : decode cX10_memory 5 = .ok (.aload_n 0, 1) := by decide +kernel
theorem dX10_memory_6 : decode cX10_memory 6 = .ok (.iload_n 1, 1) := by decide +kernel
theorem dX10_memory_7 : decode cX10_memory 7 = .ok (.invokevirtual 119, 3) := by decide +kernel
theorem dX10_memory_10 : decode cX10_memory 10 = .ok (.ireturn, 1) := by decide +kernel
theorem dX10_oam_0 : decode cX10_oam 0 = .ok (.aload_n 0, 1) := by decide +kernel
theorem dX10_oam_1 : decode cX10_oam 1 = .ok (.iconst 0, 1) := by decide +kernel
theorem dX10_oam_2 : decode cX10_oam 2 = .ok (.putfield 61, 3) := by decide +kernel
theorem dX10_oam_5 : decode cX10_oam 5 = .ok (.iload_n 1, 1) := by decide +kernel
theorem dX10_oam_6 : decode cX10_oam 6 = .ok (.ifCond .lt 19, 3) := by decide +kernel
theorem dX10_oam_9 : decode cX10_oam 9 = .ok (.iload_n 1, 1) := by decide +kernel
theorem dX10_oam_10 : decode cX10_oam 10 = .ok (.sipush 255, 3) := by decide +kernel
theorem dX10_oam_13 : decode cX10_oam 13 = .ok (.if_icmp .gt 12, 3) := by decide +kernel
theorem dX10_oam_16 : decode cX10_oam 16 = .ok (.aload_n 0, 1) := by decide +kernel
theorem dX10_oam_17 : decode cX10_oam 17 = .ok (.getfield 26, 3) := by decide +kernel
theorem dX10_oam_20 : decode cX10_oam 20 = .ok (.iload_n 1, 1) := by decide +kernel
theorem dX10_oam_21 : decode cX10_oam 21 = .ok (.iaload, 1) := by decide +kernel
theorem dX10_oam_22 : decode cX10_oam 22 = .ok (.goto 7, 3) := by decide +kernel
theorem dX10_oam_25 : decode cX10_oam 25 = .ok (.aload_n 0, 1) := by decide +kernel
theorem dX10_oam_26 : decode cX10_oam 26 = .ok (.invokevirtual 351, 3) := by decide +kernel
theorem dX10_oam_29 : decode cX10_oam 29 = .ok (.ireturn, 1) := by decide +kernel
theorem dX10_cartridge_0 : decode cX10_cartridge 0 = .ok (.aload_n 0, 1) := by decide +kernel
theorem dX10_cartridge_1 : decode cX10_cartridge 1 = .ok (.iconst 0, 1) := by decide +kernel
theorem dX10_cartridge_2 : decode cX10_cartridge 2 = .ok (.putfield 61, 3) := by decide +kernel
theorem dX10_cartridge_5 : decode cX10_cartridge 5 = .ok (.iload_n 1, 1) := by decide +kernel
theorem dX10_cartridge_6 : decode cX10_cartridge 6 = .ok (.ifCond .lt 9, 3) := by decide +kernel
theorem dX10_cartridge_9 : decode cX10_cartridge 9 = .ok (.iload_n 1, 1) := by decide +kernel
theorem dX10_cartridge_10 : decode cX10_cartridge 10 = .ok (.bipush 13, 2) := by decide +kernel
theorem dX10_cartridge_12 : decode cX10_cartridge 12 = .ok (.if_icmp .le 8, 3) := by decide +kernel
theorem dX10_cartridge_15 : decode cX10_cartridge 15 = .ok (.aload_n 0, 1) := by decide +kernel
theorem dX10_cartridge_16 : decode cX10_cartridge 16 = .ok (.invokevirtual 351, 3) := by decide +kernel
theorem dX10_cartridge_19 : decode cX10_cartridge 19 = .ok (.ireturn, 1) := by decide +kernel
theorem dX10_cartridge_20 : decode cX10_cartridge 20 = .ok (.iload_n 1, 1) := by decide +kernel
theorem dX10_cartridge_21 : decode cX10_cartridge 21 = .ok (.iconst 4, 1) := by decide +kernel
theorem dX10_cartridge_22 : decode cX10_cartridge 22 = .ok (.if_icmp .ge 9, 3) := by decide +kernel
theorem dX10_cartridge_25 : decode cX10_cartridge 25 = .ok (.aload_n 0, 1) := by decide +kernel
theorem dX10_cartridge_26 : decode cX10_cartridge 26 = .ok (.iload_n 1, 1) := by decide +kernel
theorem dX10_cartridge_27 : decode cX10_cartridge 27 = .ok (.invokevirtual 192, 3) := by decide +kernel
theorem dX10_cartridge_30 : decode cX10_cartridge 30 = .ok (.ireturn, 1) := by decide +kernel
theorem dX10_cartridge_31 : decode cX10_cartridge 31 = .ok (.iload_n 1, 1) := by decide +kernel
theorem dX10_cartridge_32 : decode cX10_cartridge 32 = .ok (.bipush 12, 2) := by decide +kernel
theorem dX10_cartridge_34 : decode cX10_cartridge 34 = .ok (.if_icmp .ge 13, 3) := by decide +kernel
theorem dX10_cartridge_37 : decode cX10_cartridge 37 = .ok (.aload_n 0, 1) := by decide +kernel
theorem dX10_cartridge_38 : decode cX10_cartridge 38 = .ok (.iload_n 1, 1) := by decide +kernel
theorem dX10_cartridge_39 : decode cX10_cartridge 39 = .ok (.iconst 4, 1) := by decide +kernel
theorem dX10_cartridge_40 : decode cX10_cartridge 40 = .ok (.isub, 1) := by decide +kernel
theorem dX10_cartridge_41 : decode cX10_cartridge 41 = .ok (.invokevirtual 94, 3) := by decide +kernel
theorem dX10_cartridge_44 : decode cX10_cartridge 44 = .ok (.goto 20, 3) := by decide +kernel
theorem dX10_cartridge_47 : decode cX10_cartridge 47 = .ok (.iload_n 1, 1) := by decide +kernel
theorem dX10_cartridge_48 : decode cX10_cartridge 48 = .ok (.bipush 12, 2) := by decide +kernel
theorem dX10_cartridge_50 : decode cX10_cartridge 50 = .ok (.if_icmp .ne 10, 3) := by decide +kernel
theorem dX10_cartridge_53 : decode cX10_cartridge 53 = .ok (.aload_n 0, 1) := by decide +kernel
theorem dX10_cartridge_54 : decode cX10_cartridge 54 = .ok (.getfield 55, 3) := by decide +kernel
theorem dX10_cartridge_57 : decode cX10_cartridge 57 = .ok (.goto 7, 3) := by decide +kernel
theorem dX10_cartridge_60 : decode cX10_cartridge 60 = .ok (.aload_n 0, 1) := by decide +kernel
theorem dX10_cartridge_61 : decode cX10_cartridge 61 = .ok (.getfield 82, 3) := by decide +kernel
theorem dX10_cartridge_64 : decode cX10_cartridge 64 = .ok (.ireturn, 1) := by decide +kernel
theorem dX10_sound_0 : decode cX10_sound 0 = .ok (.aload_n 0, 1) := by decide +kernel
theorem dX10_sound_1 : decode cX10_sound 1 = .ok (.iconst 0, 1) := by decide +kernel
theorem dX10_sound_2 : decode cX10_sound 2 = .ok (.putfield 61, 3) := by decide +kernel
theorem dX10_sound_5 : decode cX10_sound 5 = .ok (.iload_n 1, 1) := by decide +kernel
theorem dX10_sound_6 : decode cX10_sound 6 = .ok (.ifCond .lt 8, 3) := by decide +kernel
theorem dX10_sound_9 : decode cX10_sound 9 = .ok (.iload_n 1, 1) := by decide +kernel
theorem dX10_sound_10 : decode cX10_sound 10 = .ok (.iconst 4, 1) := by decide +kernel
theorem dX10_sound_11 : decode cX10_sound 11 = .ok (.if_icmp .le 8, 3) := by decide +kernel
theorem dX10_sound_14 : decode cX10_sound 14 = .ok (.aload_n 0, 1) := by decide +kernel
theorem dX10_sound_15 : decode cX10_sound 15 = .ok (.invokevirtual 351, 3) := by decide +kernel
theorem dX10_sound_18 : decode cX10_sound 18 = .ok (.ireturn, 1) := by decide +kernel
theorem dX10_sound_19 : decode cX10_sound 19 = .ok (.iload_n 1, 1) := by decide +kernel
theorem dX10_sound_20 : decode cX10_sound 20 = .ok (.iconst 4, 1) := by decide +kernel
theorem dX10_sound_21 : decode cX10_sound 21 = .ok (.if_icmp .ge 12, 3) := by decide +kernel
theorem dX10_sound_24 : decode cX10_sound 24 = .ok (.aload_n 0, 1) := by decide +kernel
theorem dX10_sound_25 : decode cX10_sound 25 = .ok (.getfield 38, 3) := by decide +kernel
theorem dX10_sound_28 : decode cX10_sound 28 = .ok (.iload_n 1, 1) := by decide +kernel
theorem dX10_sound_29 : decode cX10_sound 29 = .ok (.iaload, 1) := by decide +kernel
theorem dX10_sound_30 : decode cX10_sound 30 = .ok (.goto 7, 3) := by decide +kernel
theorem dX10_sound_33 : decode cX10_sound 33 = .ok (.aload_n 0, 1) := by decide +kernel
theorem dX10_sound_34 : decode cX10_sound 34 = .ok (.getfield 166, 3) := by decide +kernel
theorem dX10_sound_37 : decode cX10_sound 37 = .ok (.ireturn, 1) := by decide +kernel
end
section
theorem dJ9_min_7cf53_0 : decode cJ9_min_7cf53 0 = .ok (.iload_n 0, 1) := by decide +kernel
theorem dJ9_min_7cf53_1 : decode cJ9_min_7cf53 1 = .ok (.iload_n 1, 1) := by decide +kernel
theorem dJ9_min_7cf53_2 : decode cJ9_min_7cf53 2 = .ok (.if_icmp .gt 7, 3) := by decide +kernel
theorem dJ9_min_7cf53_5 : decode cJ9_min_7cf53 5 = .ok (.iload_n 0, 1) := by decide +kernel
theorem dJ9_min_7cf53_6 : decode cJ9_min_7cf53 6 = .ok (.goto 4, 3) := by decide +kernel
theorem dJ9_min_7cf53_9 : decode cJ9_min_7cf53 9 = .ok (.iload_n 1, 1) := by decide +kernel
theorem dJ9_min_7cf53_10 : decode cJ9_min_7cf53 10 = .ok (.ireturn, 1) := by decide +kernel
theorem dL_cell_0 : decode cL_cell 0 = .ok (.iload_n 1, 1) := by decide +kernel
theorem dL_cell_1 : decode cL_cell 1 = .ok (.aload_n 0, 1) := by decide +kernel
theorem dL_cell_2 : decode cL_cell 2 = .ok (.arraylength, 1) := by decide +kernel
theorem dL_cell_3 : decode cL_cell 3 = .ok (.if_icmp .ge 9, 3) := by decide +kernel
theorem dL_cell_6 : decode cL_cell 6 = .ok (.aload_n 0, 1) := by decide +kernel
theorem dL_cell_7 : decode cL_cell 7 = .ok (.iload_n 1, 1) := by decide +kernel
theorem dL_cell_8 : decode cL_cell 8 = .ok (.iaload, 1) := by decide +kernel
theorem dL_cell_9 : decode cL_cell 9 = .ok (.goto 4, 3) := by decide +kernel
theorem dL_cell_12 : decode cL_cell 12 = .ok (.iconst 0, 1) := by decide +kernel
theorem dL_cell_13 : decode cL_cell 13 = .ok (.ireturn, 1) := by decide +kernel
theorem dL_rom_0 : decode cL_rom 0 = .ok (.aload_n 0, 1) := by decide +kernel
theorem dL_rom_1 : decode cL_rom 1 = .ok (.iload_n 1, 1) := by decide +kernel
theorem dL_rom_2 : decode cL_rom 2 = .ok (.iload_n 2, 1) := by decide +kernel
theorem dL_rom_3 : decode cL_rom 3 = .ok (.invokevirtual 7, 3) := by decide +kernel
theorem dL_rom_6 : decode cL_rom 6 = .ok (.goto 6, 3) := by decide +kernel
theorem dL_rom_9 : decode cL_rom 9 = .ok (.astore_n 3, 1) := by decide +kernel
theorem dL_rom_10 : decode cL_rom 10 = .ok (.iconst 1, 1) := by decide +kernel
theorem dL_rom_11 : decode cL_rom 11 = .ok (.ireturn, 1) := by decide +kernel
theorem dL_rom_12 : decode cL_rom 12 = .ok (.iconst 0, 1) := by decide +kernel
theorem dL_rom_13 : decode cL_rom 13 = .ok (.ireturn, 1) := by decide +kernel
theorem dL_chr_0 : decode cL_chr 0 = .ok (.aload_n 0, 1) := by decide +kernel
theorem dL_chr_1 : decode cL_chr 1 = .ok (.iload_n 1, 1) := by decide +kernel
theorem dL_chr_2 : decode cL_chr 2 = .ok (.iload_n 2, 1) := by decide +kernel
theorem dL_chr_3 : decode cL_chr 3 = .ok (.invokevirtual 15, 3) := by decide +kernel
theorem dL_chr_6 : decode cL_chr 6 = .ok (.goto 6, 3) := by decide +kernel
theorem dL_chr_9 : decode cL_chr 9 = .ok (.astore_n 3, 1) := by decide +kernel
theorem dL_chr_10 : decode cL_chr 10 = .ok (.iconst 1, 1) := by decide +kernel
theorem dL_chr_11 : decode cL_chr 11 = .ok (.ireturn, 1) := by decide +kernel
theorem dL_chr_12 : decode cL_chr 12 = .ok (.iconst 0, 1) := by decide +kernel
theorem dL_chr_13 : decode cL_chr 13 = .ok (.ireturn, 1) := by decide +kernel
theorem dL_pad_0 : decode cL_pad 0 = .ok (.aload_n 0, 1) := by decide +kernel
theorem dL_pad_1 : decode cL_pad 1 = .ok (.iload_n 1, 1) := by decide +kernel
theorem dL_pad_2 : decode cL_pad 2 = .ok (.iload_n 2, 1) := by decide +kernel
theorem dL_pad_3 : decode cL_pad 3 = .ok (.invokevirtual 18, 3) := by decide +kernel
theorem dL_pad_6 : decode cL_pad 6 = .ok (.goto 6, 3) := by decide +kernel
theorem dL_pad_9 : decode cL_pad 9 = .ok (.astore_n 3, 1) := by decide +kernel
theorem dL_pad_10 : decode cL_pad 10 = .ok (.iconst 1, 1) := by decide +kernel
theorem dL_pad_11 : decode cL_pad 11 = .ok (.ireturn, 1) := by decide +kernel
theorem dL_pad_12 : decode cL_pad 12 = .ok (.iconst 0, 1) := by decide +kernel
theorem dL_pad_13 : decode cL_pad 13 = .ok (.ireturn, 1) := by decide +kernel
theorem dL_core_0 : decode cL_core 0 = .ok (.aload_n 2, 1) := by decide +kernel
theorem dL_core_1 : decode cL_core 1 = .ok (.iconst 0, 1) := by decide +kernel
theorem dL_core_2 : decode cL_core 2 = .ok (.aload_n 0, 1) := by decide +kernel
theorem dL_core_3 : decode cL_core 3 = .ok (.iload_n 1, 1) := by decide +kernel
theorem dL_core_4 : decode cL_core 4 = .ok (.invokevirtual 23, 3) := by decide +kernel
theorem dL_core_7 : decode cL_core 7 = .ok (.i2l, 1) := by decide +kernel
theorem dL_core_8 : decode cL_core 8 = .ok (.lastore, 1) := by decide +kernel
theorem dL_core_9 : decode cL_core 9 = .ok (.goto 6, 3) := by decide +kernel
theorem dL_core_12 : decode cL_core 12 = .ok (.astore_n 3, 1) := by decide +kernel
theorem dL_core_13 : decode cL_core 13 = .ok (.iconst 1, 1) := by decide +kernel
theorem dL_core_14 : decode cL_core 14 = .ok (.ireturn, 1) := by decide +kernel
theorem dL_core_15 : decode cL_core 15 = .ok (.iconst 0, 1) := by decide +kernel
theorem dL_core_16 : decode cL_core 16 = .ok (.ireturn, 1) := by decide +kernel
theorem dL_picture_0 : decode cL_picture 0 = .ok (.aload_n 2, 1) := by decide +kernel
theorem dL_picture_1 : decode cL_picture 1 = .ok (.iconst 0, 1) := by decide +kernel
theorem dL_picture_2 : decode cL_picture 2 = .ok (.aload_n 0, 1) := by decide +kernel
theorem dL_picture_3 : decode cL_picture 3 = .ok (.iload_n 1, 1) := by decide +kernel
theorem dL_picture_4 : decode cL_picture 4 = .ok (.invokevirtual 27, 3) := by decide +kernel
theorem dL_picture_7 : decode cL_picture 7 = .ok (.i2l, 1) := by decide +kernel
theorem dL_picture_8 : decode cL_picture 8 = .ok (.lastore, 1) := by decide +kernel
theorem dL_picture_9 : decode cL_picture 9 = .ok (.goto 6, 3) := by decide +kernel
theorem dL_picture_12 : decode cL_picture 12 = .ok (.astore_n 3, 1) := by decide +kernel
theorem dL_picture_13 : decode cL_picture 13 = .ok (.iconst 1, 1) := by decide +kernel
theorem dL_picture_14 : decode cL_picture 14 = .ok (.ireturn, 1) := by decide +kernel
theorem dL_picture_15 : decode cL_picture 15 = .ok (.iconst 0, 1) := by decide +kernel
theorem dL_picture_16 : decode cL_picture 16 = .ok (.ireturn, 1) := by decide +kernel
theorem dL_oam_0 : decode cL_oam 0 = .ok (.aload_n 2, 1) := by decide +kernel
theorem dL_oam_1 : decode cL_oam 1 = .ok (.iconst 0, 1) := by decide +kernel
theorem dL_oam_2 : decode cL_oam 2 = .ok (.aload_n 0, 1) := by decide +kernel
theorem dL_oam_3 : decode cL_oam 3 = .ok (.iload_n 1, 1) := by decide +kernel
theorem dL_oam_4 : decode cL_oam 4 = .ok (.invokevirtual 30, 3) := by decide +kernel
theorem dL_oam_7 : decode cL_oam 7 = .ok (.i2l, 1) := by decide +kernel
theorem dL_oam_8 : decode cL_oam 8 = .ok (.lastore, 1) := by decide +kernel
theorem dL_oam_9 : decode cL_oam 9 = .ok (.goto 6, 3) := by decide +kernel
theorem dL_oam_12 : decode cL_oam 12 = .ok (.astore_n 3, 1) := by decide +kernel
theorem dL_oam_13 : decode cL_oam 13 = .ok (.iconst 1, 1) := by decide +kernel
theorem dL_oam_14 : decode cL_oam 14 = .ok (.ireturn, 1) := by decide +kernel
theorem dL_oam_15 : decode cL_oam 15 = .ok (.iconst 0, 1) := by decide +kernel
theorem dL_oam_16 : decode cL_oam 16 = .ok (.ireturn, 1) := by decide +kernel
theorem dL_cartridge_0 : decode cL_cartridge 0 = .ok (.aload_n 2, 1) := by decide +kernel
theorem dL_cartridge_1 : decode cL_cartridge 1 = .ok (.iconst 0, 1) := by decide +kernel
theorem dL_cartridge_2 : decode cL_cartridge 2 = .ok (.aload_n 0, 1) := by decide +kernel
theorem dL_cartridge_3 : decode cL_cartridge 3 = .ok (.iload_n 1, 1) := by decide +kernel
theorem dL_cartridge_4 : decode cL_cartridge 4 = .ok (.invokevirtual 33, 3) := by decide +kernel
theorem dL_cartridge_7 : decode cL_cartridge 7 = .ok (.i2l, 1) := by decide +kernel
theorem dL_cartridge_8 : decode cL_cartridge 8 = .ok (.lastore, 1) := by decide +kernel
theorem dL_cartridge_9 : decode cL_cartridge 9 = .ok (.goto 6, 3) := by decide +kernel
theorem dL_cartridge_12 : decode cL_cartridge 12 = .ok (.astore_n 3, 1) := by decide +kernel
theorem dL_cartridge_13 : decode cL_cartridge 13 = .ok (.iconst 1, 1) := by decide +kernel
theorem dL_cartridge_14 : decode cL_cartridge 14 = .ok (.ireturn, 1) := by decide +kernel
theorem dL_cartridge_15 : decode cL_cartridge 15 = .ok (.iconst 0, 1) := by decide +kernel
theorem dL_cartridge_16 : decode cL_cartridge 16 = .ok (.ireturn, 1) := by decide +kernel
theorem dL_sound_0 : decode cL_sound 0 = .ok (.aload_n 2, 1) := by decide +kernel
theorem dL_sound_1 : decode cL_sound 1 = .ok (.iconst 0, 1) := by decide +kernel
theorem dL_sound_2 : decode cL_sound 2 = .ok (.aload_n 0, 1) := by decide +kernel
theorem dL_sound_3 : decode cL_sound 3 = .ok (.iload_n 1, 1) := by decide +kernel
theorem dL_sound_4 : decode cL_sound 4 = .ok (.invokevirtual 36, 3) := by decide +kernel
theorem dL_sound_7 : decode cL_sound 7 = .ok (.i2l, 1) := by decide +kernel
theorem dL_sound_8 : decode cL_sound 8 = .ok (.lastore, 1) := by decide +kernel
theorem dL_sound_9 : decode cL_sound 9 = .ok (.goto 6, 3) := by decide +kernel
theorem dL_sound_12 : decode cL_sound 12 = .ok (.astore_n 3, 1) := by decide +kernel
theorem dL_sound_13 : decode cL_sound 13 = .ok (.iconst 1, 1) := by decide +kernel
theorem dL_sound_14 : decode cL_sound 14 = .ok (.ireturn, 1) := by decide +kernel
theorem dL_sound_15 : decode cL_sound 15 = .ok (.iconst 0, 1) := by decide +kernel
theorem dL_sound_16 : decode cL_sound 16 = .ok (.ireturn, 1) := by decide +kernel
theorem dL_law_0 : decode cL_law 0 = .ok (.new 8, 3) := by decide +kernel
theorem dL_law_3 : decode cL_law 3 = .ok (.dup, 1) := by decide +kernel
theorem dL_law_4 : decode cL_law 4 = .ok (.aload_n 0, 1) := by decide +kernel
theorem dL_law_5 : decode cL_law 5 = .ok (.iconst 0, 1) := by decide +kernel
theorem dL_law_6 : decode cL_law 6 = .ok (.invokestatic 39, 3) := by decide +kernel
theorem dL_law_9 : decode cL_law 9 = .ok (.invokespecial 45, 3) := by decide +kernel
theorem dL_law_12 : decode cL_law 12 = .ok (.astore_n 1, 1) := by decide +kernel
theorem dL_law_13 : decode cL_law 13 = .ok (.new 48, 3) := by decide +kernel
theorem dL_law_16 : decode cL_law 16 = .ok (.dup, 1) := by decide +kernel
theorem dL_law_17 : decode cL_law 17 = .ok (.aload_n 0, 1) := by decide +kernel
theorem dL_law_18 : decode cL_law 18 = .ok (.iconst 0, 1) := by decide +kernel
theorem dL_law_19 : decode cL_law 19 = .ok (.invokestatic 39, 3) := by decide +kernel
theorem dL_law_22 : decode cL_law 22 = .ok (.invokespecial 50, 3) := by decide +kernel
theorem dL_law_25 : decode cL_law 25 = .ok (.astore_n 2, 1) := by decide +kernel
theorem dL_law_26 : decode cL_law 26 = .ok (.iconst 1, 1) := by decide +kernel
theorem dL_law_27 : decode cL_law 27 = .ok (.newarray .long, 2) := by decide +kernel
theorem dL_law_29 : decode cL_law 29 = .ok (.astore_n 3, 1) := by decide +kernel
theorem dL_law_30 : decode cL_law 30 = .ok (.iconst 1, 1) := by decide +kernel
theorem dL_law_31 : decode cL_law 31 = .ok (.istore 4, 2) := by decide +kernel
theorem dL_law_33 : decode cL_law 33 = .ok (.iload 4, 2) := by decide +kernel
theorem dL_law_35 : decode cL_law 35 = .ok (.aload_n 0, 1) := by decide +kernel
theorem dL_law_36 : decode cL_law 36 = .ok (.arraylength, 1) := by decide +kernel
theorem dL_law_37 : decode cL_law 37 = .ok (.iconst 3, 1) := by decide +kernel
theorem dL_law_38 : decode cL_law 38 = .ok (.isub, 1) := by decide +kernel
theorem dL_law_39 : decode cL_law 39 = .ok (.if_icmp .gt 674, 3) := by decide +kernel
theorem dL_law_42 : decode cL_law 42 = .ok (.aload_n 0, 1) := by decide +kernel
theorem dL_law_43 : decode cL_law 43 = .ok (.iload 4, 2) := by decide +kernel
theorem dL_law_45 : decode cL_law 45 = .ok (.iaload, 1) := by decide +kernel
theorem dL_law_46 : decode cL_law 46 = .ok (.bipush 15, 2) := by decide +kernel
theorem dL_law_48 : decode cL_law 48 = .ok (.iand, 1) := by decide +kernel
theorem dL_law_49 : decode cL_law 49 = .ok (.tableswitch 658 0 14 #[75, 123, 171, 182, 195, 220, 245, 270, 305, 353, 409, 465, 490, 546, 602], 75) := by decide +kernel
theorem dL_law_124 : decode cL_law 124 = .ok (.aload_n 1, 1) := by decide +kernel
theorem dL_law_125 : decode cL_law 125 = .ok (.aload_n 0, 1) := by decide +kernel
theorem dL_law_126 : decode cL_law 126 = .ok (.iload 4, 2) := by decide +kernel
theorem dL_law_128 : decode cL_law 128 = .ok (.iconst 1, 1) := by decide +kernel
theorem dL_law_129 : decode cL_law 129 = .ok (.iadd, 1) := by decide +kernel
theorem dL_law_130 : decode cL_law 130 = .ok (.iaload, 1) := by decide +kernel
theorem dL_law_131 : decode cL_law 131 = .ok (.aload_n 0, 1) := by decide +kernel
theorem dL_law_132 : decode cL_law 132 = .ok (.iload 4, 2) := by decide +kernel
theorem dL_law_134 : decode cL_law 134 = .ok (.iconst 2, 1) := by decide +kernel
theorem dL_law_135 : decode cL_law 135 = .ok (.iadd, 1) := by decide +kernel
theorem dL_law_136 : decode cL_law 136 = .ok (.iaload, 1) := by decide +kernel
theorem dL_law_137 : decode cL_law 137 = .ok (.invokestatic 51, 3) := by decide +kernel
theorem dL_law_140 : decode cL_law 140 = .ok (.istore 5, 2) := by decide +kernel
theorem dL_law_142 : decode cL_law 142 = .ok (.aload_n 2, 1) := by decide +kernel
theorem dL_law_143 : decode cL_law 143 = .ok (.aload_n 0, 1) := by decide +kernel
theorem dL_law_144 : decode cL_law 144 = .ok (.iload 4, 2) := by decide +kernel
theorem dL_law_146 : decode cL_law 146 = .ok (.iconst 1, 1) := by decide +kernel
theorem dL_law_147 : decode cL_law 147 = .ok (.iadd, 1) := by decide +kernel
theorem dL_law_148 : decode cL_law 148 = .ok (.iaload, 1) := by decide +kernel
theorem dL_law_149 : decode cL_law 149 = .ok (.aload_n 0, 1) := by decide +kernel
theorem dL_law_150 : decode cL_law 150 = .ok (.iload 4, 2) := by decide +kernel
theorem dL_law_152 : decode cL_law 152 = .ok (.iconst 2, 1) := by decide +kernel
theorem dL_law_153 : decode cL_law 153 = .ok (.iadd, 1) := by decide +kernel
theorem dL_law_154 : decode cL_law 154 = .ok (.iaload, 1) := by decide +kernel
theorem dL_law_155 : decode cL_law 155 = .ok (.invokevirtual 54, 3) := by decide +kernel
theorem dL_law_158 : decode cL_law 158 = .ok (.aload_n 2, 1) := by decide +kernel
theorem dL_law_159 : decode cL_law 159 = .ok (.invokevirtual 55, 3) := by decide +kernel
theorem dL_law_162 : decode cL_law 162 = .ok (.iload 5, 2) := by decide +kernel
theorem dL_law_164 : decode cL_law 164 = .ok (.if_icmp .eq 5, 3) := by decide +kernel
theorem dL_law_167 : decode cL_law 167 = .ok (.iconst 0, 1) := by decide +kernel
theorem dL_law_168 : decode cL_law 168 = .ok (.ireturn, 1) := by decide +kernel
theorem dL_law_169 : decode cL_law 169 = .ok (.goto 538, 3) := by decide +kernel
theorem dL_law_172 : decode cL_law 172 = .ok (.aload_n 1, 1) := by decide +kernel
theorem dL_law_173 : decode cL_law 173 = .ok (.aload_n 0, 1) := by decide +kernel
theorem dL_law_174 : decode cL_law 174 = .ok (.iload 4, 2) := by decide +kernel
theorem dL_law_176 : decode cL_law 176 = .ok (.iconst 1, 1) := by decide +kernel
theorem dL_law_177 : decode cL_law 177 = .ok (.iadd, 1) := by decide +kernel
theorem dL_law_178 : decode cL_law 178 = .ok (.iaload, 1) := by decide +kernel
theorem dL_law_179 : decode cL_law 179 = .ok (.aload_n 0, 1) := by decide +kernel
theorem dL_law_180 : decode cL_law 180 = .ok (.iload 4, 2) := by decide +kernel
theorem dL_law_182 : decode cL_law 182 = .ok (.iconst 2, 1) := by decide +kernel
theorem dL_law_183 : decode cL_law 183 = .ok (.iadd, 1) := by decide +kernel
theorem dL_law_184 : decode cL_law 184 = .ok (.iaload, 1) := by decide +kernel
theorem dL_law_185 : decode cL_law 185 = .ok (.invokestatic 59, 3) := by decide +kernel
theorem dL_law_188 : decode cL_law 188 = .ok (.istore 5, 2) := by decide +kernel
theorem dL_law_190 : decode cL_law 190 = .ok (.aload_n 2, 1) := by decide +kernel
theorem dL_law_191 : decode cL_law 191 = .ok (.aload_n 0, 1) := by decide +kernel
theorem dL_law_192 : decode cL_law 192 = .ok (.iload 4, 2) := by decide +kernel
theorem dL_law_194 : decode cL_law 194 = .ok (.iconst 1, 1) := by decide +kernel
theorem dL_law_195 : decode cL_law 195 = .ok (.iadd, 1) := by decide +kernel
theorem dL_law_196 : decode cL_law 196 = .ok (.iaload, 1) := by decide +kernel
theorem dL_law_197 : decode cL_law 197 = .ok (.aload_n 0, 1) := by decide +kernel
theorem dL_law_198 : decode cL_law 198 = .ok (.iload 4, 2) := by decide +kernel
theorem dL_law_200 : decode cL_law 200 = .ok (.iconst 2, 1) := by decide +kernel
theorem dL_law_201 : decode cL_law 201 = .ok (.iadd, 1) := by decide +kernel
theorem dL_law_202 : decode cL_law 202 = .ok (.iaload, 1) := by decide +kernel
theorem dL_law_203 : decode cL_law 203 = .ok (.invokevirtual 61, 3) := by decide +kernel
theorem dL_law_206 : decode cL_law 206 = .ok (.aload_n 2, 1) := by decide +kernel
theorem dL_law_207 : decode cL_law 207 = .ok (.invokevirtual 55, 3) := by decide +kernel
theorem dL_law_210 : decode cL_law 210 = .ok (.iload 5, 2) := by decide +kernel
theorem dL_law_212 : decode cL_law 212 = .ok (.if_icmp .eq 5, 3) := by decide +kernel
theorem dL_law_215 : decode cL_law 215 = .ok (.iconst 0, 1) := by decide +kernel
theorem dL_law_216 : decode cL_law 216 = .ok (.ireturn, 1) := by decide +kernel
theorem dL_law_217 : decode cL_law 217 = .ok (.goto 490, 3) := by decide +kernel
theorem dL_law_220 : decode cL_law 220 = .ok (.aload_n 1, 1) := by decide +kernel
theorem dL_law_221 : decode cL_law 221 = .ok (.invokevirtual 62, 3) := by decide +kernel
theorem dL_law_224 : decode cL_law 224 = .ok (.aload_n 2, 1) := by decide +kernel
theorem dL_law_225 : decode cL_law 225 = .ok (.invokevirtual 65, 3) := by decide +kernel
theorem dL_law_228 : decode cL_law 228 = .ok (.goto 479, 3) := by decide +kernel
theorem dL_law_231 : decode cL_law 231 = .ok (.aload_n 1, 1) := by decide +kernel
theorem dL_law_232 : decode cL_law 232 = .ok (.invokevirtual 66, 3) := by decide +kernel
theorem dL_law_235 : decode cL_law 235 = .ok (.aload_n 2, 1) := by decide +kernel
theorem dL_law_236 : decode cL_law 236 = .ok (.invokevirtual 69, 3) := by decide +kernel
theorem dL_law_239 : decode cL_law 239 = .ok (.if_icmp .eq 468, 3) := by decide +kernel
theorem dL_law_242 : decode cL_law 242 = .ok (.iconst 0, 1) := by decide +kernel
theorem dL_law_243 : decode cL_law 243 = .ok (.ireturn, 1) := by decide +kernel
theorem dL_law_244 : decode cL_law 244 = .ok (.aload_n 1, 1) := by decide +kernel
theorem dL_law_245 : decode cL_law 245 = .ok (.aload_n 0, 1) := by decide +kernel
theorem dL_law_246 : decode cL_law 246 = .ok (.iload 4, 2) := by decide +kernel
theorem dL_law_248 : decode cL_law 248 = .ok (.iconst 1, 1) := by decide +kernel
theorem dL_law_249 : decode cL_law 249 = .ok (.iadd, 1) := by decide +kernel
theorem dL_law_250 : decode cL_law 250 = .ok (.iaload, 1) := by decide +kernel
theorem dL_law_251 : decode cL_law 251 = .ok (.invokevirtual 70, 3) := by decide +kernel
theorem dL_law_254 : decode cL_law 254 = .ok (.aload_n 2, 1) := by decide +kernel
theorem dL_law_255 : decode cL_law 255 = .ok (.aload_n 0, 1) := by decide +kernel
theorem dL_law_256 : decode cL_law 256 = .ok (.iload 4, 2) := by decide +kernel
theorem dL_law_258 : decode cL_law 258 = .ok (.iconst 1, 1) := by decide +kernel
theorem dL_law_259 : decode cL_law 259 = .ok (.iadd, 1) := by decide +kernel
theorem dL_law_260 : decode cL_law 260 = .ok (.iaload, 1) := by decide +kernel
theorem dL_law_261 : decode cL_law 261 = .ok (.invokevirtual 73, 3) := by decide +kernel
theorem dL_law_264 : decode cL_law 264 = .ok (.if_icmp .eq 443, 3) := by decide +kernel
theorem dL_law_267 : decode cL_law 267 = .ok (.iconst 0, 1) := by decide +kernel
theorem dL_law_268 : decode cL_law 268 = .ok (.ireturn, 1) := by decide +kernel
theorem dL_law_269 : decode cL_law 269 = .ok (.aload_n 1, 1) := by decide +kernel
theorem dL_law_270 : decode cL_law 270 = .ok (.aload_n 0, 1) := by decide +kernel
theorem dL_law_271 : decode cL_law 271 = .ok (.iload 4, 2) := by decide +kernel
theorem dL_law_273 : decode cL_law 273 = .ok (.iconst 1, 1) := by decide +kernel
theorem dL_law_274 : decode cL_law 274 = .ok (.iadd, 1) := by decide +kernel
theorem dL_law_275 : decode cL_law 275 = .ok (.iaload, 1) := by decide +kernel
theorem dL_law_276 : decode cL_law 276 = .ok (.invokevirtual 74, 3) := by decide +kernel
theorem dL_law_279 : decode cL_law 279 = .ok (.aload_n 2, 1) := by decide +kernel
theorem dL_law_280 : decode cL_law 280 = .ok (.aload_n 0, 1) := by decide +kernel
theorem dL_law_281 : decode cL_law 281 = .ok (.iload 4, 2) := by decide +kernel
theorem dL_law_283 : decode cL_law 283 = .ok (.iconst 1, 1) := by decide +kernel
theorem dL_law_284 : decode cL_law 284 = .ok (.iadd, 1) := by decide +kernel
theorem dL_law_285 : decode cL_law 285 = .ok (.iaload, 1) := by decide +kernel
theorem dL_law_286 : decode cL_law 286 = .ok (.invokevirtual 78, 3) := by decide +kernel
theorem dL_law_289 : decode cL_law 289 = .ok (.if_icmp .eq 418, 3) := by decide +kernel
theorem dL_law_292 : decode cL_law 292 = .ok (.iconst 0, 1) := by decide +kernel
theorem dL_law_293 : decode cL_law 293 = .ok (.ireturn, 1) := by decide +kernel
theorem dL_law_294 : decode cL_law 294 = .ok (.aload_n 1, 1) := by decide +kernel
theorem dL_law_295 : decode cL_law 295 = .ok (.aload_n 0, 1) := by decide +kernel
theorem dL_law_296 : decode cL_law 296 = .ok (.iload 4, 2) := by decide +kernel
theorem dL_law_298 : decode cL_law 298 = .ok (.iconst 1, 1) := by decide +kernel
theorem dL_law_299 : decode cL_law 299 = .ok (.iadd, 1) := by decide +kernel
theorem dL_law_300 : decode cL_law 300 = .ok (.iaload, 1) := by decide +kernel
theorem dL_law_301 : decode cL_law 301 = .ok (.invokevirtual 79, 3) := by decide +kernel
theorem dL_law_304 : decode cL_law 304 = .ok (.aload_n 2, 1) := by decide +kernel
theorem dL_law_305 : decode cL_law 305 = .ok (.aload_n 0, 1) := by decide +kernel
theorem dL_law_306 : decode cL_law 306 = .ok (.iload 4, 2) := by decide +kernel
theorem dL_law_308 : decode cL_law 308 = .ok (.iconst 1, 1) := by decide +kernel
theorem dL_law_309 : decode cL_law 309 = .ok (.iadd, 1) := by decide +kernel
theorem dL_law_310 : decode cL_law 310 = .ok (.iaload, 1) := by decide +kernel
theorem dL_law_311 : decode cL_law 311 = .ok (.invokevirtual 82, 3) := by decide +kernel
theorem dL_law_314 : decode cL_law 314 = .ok (.if_icmp .eq 393, 3) := by decide +kernel
theorem dL_law_317 : decode cL_law 317 = .ok (.iconst 0, 1) := by decide +kernel
theorem dL_law_318 : decode cL_law 318 = .ok (.ireturn, 1) := by decide +kernel
theorem dL_law_319 : decode cL_law 319 = .ok (.aload_n 1, 1) := by decide +kernel
theorem dL_law_320 : decode cL_law 320 = .ok (.aload_n 0, 1) := by decide +kernel
theorem dL_law_321 : decode cL_law 321 = .ok (.iload 4, 2) := by decide +kernel
theorem dL_law_323 : decode cL_law 323 = .ok (.iconst 1, 1) := by decide +kernel
theorem dL_law_324 : decode cL_law 324 = .ok (.iadd, 1) := by decide +kernel
theorem dL_law_325 : decode cL_law 325 = .ok (.iaload, 1) := by decide +kernel
theorem dL_law_326 : decode cL_law 326 = .ok (.aload_n 0, 1) := by decide +kernel
theorem dL_law_327 : decode cL_law 327 = .ok (.iload 4, 2) := by decide +kernel
theorem dL_law_329 : decode cL_law 329 = .ok (.iconst 2, 1) := by decide +kernel
theorem dL_law_330 : decode cL_law 330 = .ok (.iadd, 1) := by decide +kernel
theorem dL_law_331 : decode cL_law 331 = .ok (.iaload, 1) := by decide +kernel
theorem dL_law_332 : decode cL_law 332 = .ok (.invokevirtual 83, 3) := by decide +kernel
theorem dL_law_335 : decode cL_law 335 = .ok (.aload_n 2, 1) := by decide +kernel
theorem dL_law_336 : decode cL_law 336 = .ok (.aload_n 0, 1) := by decide +kernel
theorem dL_law_337 : decode cL_law 337 = .ok (.iload 4, 2) := by decide +kernel
theorem dL_law_339 : decode cL_law 339 = .ok (.iconst 1, 1) := by decide +kernel
theorem dL_law_340 : decode cL_law 340 = .ok (.iadd, 1) := by decide +kernel
theorem dL_law_341 : decode cL_law 341 = .ok (.iaload, 1) := by decide +kernel
theorem dL_law_342 : decode cL_law 342 = .ok (.aload_n 0, 1) := by decide +kernel
theorem dL_law_343 : decode cL_law 343 = .ok (.iload 4, 2) := by decide +kernel
theorem dL_law_345 : decode cL_law 345 = .ok (.iconst 2, 1) := by decide +kernel
theorem dL_law_346 : decode cL_law 346 = .ok (.iadd, 1) := by decide +kernel
theorem dL_law_347 : decode cL_law 347 = .ok (.iaload, 1) := by decide +kernel
theorem dL_law_348 : decode cL_law 348 = .ok (.invokevirtual 86, 3) := by decide +kernel
theorem dL_law_351 : decode cL_law 351 = .ok (.goto 356, 3) := by decide +kernel
theorem dL_law_354 : decode cL_law 354 = .ok (.aload_n 1, 1) := by decide +kernel
theorem dL_law_355 : decode cL_law 355 = .ok (.aload_n 0, 1) := by decide +kernel
theorem dL_law_356 : decode cL_law 356 = .ok (.iload 4, 2) := by decide +kernel
theorem dL_law_358 : decode cL_law 358 = .ok (.iconst 1, 1) := by decide +kernel
theorem dL_law_359 : decode cL_law 359 = .ok (.iadd, 1) := by decide +kernel
theorem dL_law_360 : decode cL_law 360 = .ok (.iaload, 1) := by decide +kernel
theorem dL_law_361 : decode cL_law 361 = .ok (.aload_n 0, 1) := by decide +kernel
theorem dL_law_362 : decode cL_law 362 = .ok (.iload 4, 2) := by decide +kernel
theorem dL_law_364 : decode cL_law 364 = .ok (.iconst 2, 1) := by decide +kernel
theorem dL_law_365 : decode cL_law 365 = .ok (.iadd, 1) := by decide +kernel
theorem dL_law_366 : decode cL_law 366 = .ok (.iaload, 1) := by decide +kernel
theorem dL_law_367 : decode cL_law 367 = .ok (.invokestatic 87, 3) := by decide +kernel
theorem dL_law_370 : decode cL_law 370 = .ok (.istore 5, 2) := by decide +kernel
theorem dL_law_372 : decode cL_law 372 = .ok (.aload_n 2, 1) := by decide +kernel
theorem dL_law_373 : decode cL_law 373 = .ok (.aload_n 0, 1) := by decide +kernel
theorem dL_law_374 : decode cL_law 374 = .ok (.iload 4, 2) := by decide +kernel
theorem dL_law_376 : decode cL_law 376 = .ok (.iconst 1, 1) := by decide +kernel
theorem dL_law_377 : decode cL_law 377 = .ok (.iadd, 1) := by decide +kernel
theorem dL_law_378 : decode cL_law 378 = .ok (.iaload, 1) := by decide +kernel
theorem dL_law_379 : decode cL_law 379 = .ok (.aload_n 0, 1) := by decide +kernel
theorem dL_law_380 : decode cL_law 380 = .ok (.iload 4, 2) := by decide +kernel
theorem dL_law_382 : decode cL_law 382 = .ok (.iconst 2, 1) := by decide +kernel
theorem dL_law_383 : decode cL_law 383 = .ok (.iadd, 1) := by decide +kernel
theorem dL_law_384 : decode cL_law 384 = .ok (.iaload, 1) := by decide +kernel
theorem dL_law_385 : decode cL_law 385 = .ok (.invokevirtual 89, 3) := by decide +kernel
theorem dL_law_388 : decode cL_law 388 = .ok (.aload_n 2, 1) := by decide +kernel
theorem dL_law_389 : decode cL_law 389 = .ok (.invokevirtual 55, 3) := by decide +kernel
theorem dL_law_392 : decode cL_law 392 = .ok (.iload 5, 2) := by decide +kernel
theorem dL_law_394 : decode cL_law 394 = .ok (.if_icmp .eq 5, 3) := by decide +kernel
theorem dL_law_397 : decode cL_law 397 = .ok (.iconst 0, 1) := by decide +kernel
theorem dL_law_398 : decode cL_law 398 = .ok (.ireturn, 1) := by decide +kernel
theorem dL_law_399 : decode cL_law 399 = .ok (.goto 308, 3) := by decide +kernel
theorem dL_law_402 : decode cL_law 402 = .ok (.aload_n 1, 1) := by decide +kernel
theorem dL_law_403 : decode cL_law 403 = .ok (.aload_n 0, 1) := by decide +kernel
theorem dL_law_404 : decode cL_law 404 = .ok (.iload 4, 2) := by decide +kernel
theorem dL_law_406 : decode cL_law 406 = .ok (.iconst 1, 1) := by decide +kernel
theorem dL_law_407 : decode cL_law 407 = .ok (.iadd, 1) := by decide +kernel
theorem dL_law_408 : decode cL_law 408 = .ok (.iaload, 1) := by decide +kernel
theorem dL_law_409 : decode cL_law 409 = .ok (.aload_n 3, 1) := by decide +kernel
theorem dL_law_410 : decode cL_law 410 = .ok (.invokestatic 90, 3) := by decide +kernel
theorem dL_law_413 : decode cL_law 413 = .ok (.istore 5, 2) := by decide +kernel
theorem dL_law_415 : decode cL_law 415 = .ok (.aload_n 2, 1) := by decide +kernel
theorem dL_law_416 : decode cL_law 416 = .ok (.aload_n 0, 1) := by decide +kernel
theorem dL_law_417 : decode cL_law 417 = .ok (.iload 4, 2) := by decide +kernel
theorem dL_law_419 : decode cL_law 419 = .ok (.iconst 1, 1) := by decide +kernel
theorem dL_law_420 : decode cL_law 420 = .ok (.iadd, 1) := by decide +kernel
theorem dL_law_421 : decode cL_law 421 = .ok (.iaload, 1) := by decide +kernel
theorem dL_law_422 : decode cL_law 422 = .ok (.invokevirtual 93, 3) := by decide +kernel
theorem dL_law_425 : decode cL_law 425 = .ok (.istore 6, 2) := by decide +kernel
theorem dL_law_427 : decode cL_law 427 = .ok (.aload_n 2, 1) := by decide +kernel
theorem dL_law_428 : decode cL_law 428 = .ok (.invokevirtual 55, 3) := by decide +kernel
theorem dL_law_431 : decode cL_law 431 = .ok (.iload 5, 2) := by decide +kernel
theorem dL_law_433 : decode cL_law 433 = .ok (.if_icmp .eq 5, 3) := by decide +kernel
theorem dL_law_436 : decode cL_law 436 = .ok (.iconst 0, 1) := by decide +kernel
theorem dL_law_437 : decode cL_law 437 = .ok (.ireturn, 1) := by decide +kernel
theorem dL_law_438 : decode cL_law 438 = .ok (.iload 5, 2) := by decide +kernel
theorem dL_law_440 : decode cL_law 440 = .ok (.ifCond .ne 15, 3) := by decide +kernel
theorem dL_law_443 : decode cL_law 443 = .ok (.aload_n 3, 1) := by decide +kernel
theorem dL_law_444 : decode cL_law 444 = .ok (.iconst 0, 1) := by decide +kernel
theorem dL_law_445 : decode cL_law 445 = .ok (.laload, 1) := by decide +kernel
theorem dL_law_446 : decode cL_law 446 = .ok (.iload 6, 2) := by decide +kernel
theorem dL_law_448 : decode cL_law 448 = .ok (.i2l, 1) := by decide +kernel
theorem dL_law_449 : decode cL_law 449 = .ok (.lcmp, 1) := by decide +kernel
theorem dL_law_450 : decode cL_law 450 = .ok (.ifCond .eq 5, 3) := by decide +kernel
theorem dL_law_453 : decode cL_law 453 = .ok (.iconst 0, 1) := by decide +kernel
theorem dL_law_454 : decode cL_law 454 = .ok (.ireturn, 1) := by decide +kernel
theorem dL_law_455 : decode cL_law 455 = .ok (.goto 252, 3) := by decide +kernel
theorem dL_law_458 : decode cL_law 458 = .ok (.aload_n 1, 1) := by decide +kernel
theorem dL_law_459 : decode cL_law 459 = .ok (.aload_n 0, 1) := by decide +kernel
theorem dL_law_460 : decode cL_law 460 = .ok (.iload 4, 2) := by decide +kernel
theorem dL_law_462 : decode cL_law 462 = .ok (.iconst 1, 1) := by decide +kernel
theorem dL_law_463 : decode cL_law 463 = .ok (.iadd, 1) := by decide +kernel
theorem dL_law_464 : decode cL_law 464 = .ok (.iaload, 1) := by decide +kernel
theorem dL_law_465 : decode cL_law 465 = .ok (.aload_n 3, 1) := by decide +kernel
theorem dL_law_466 : decode cL_law 466 = .ok (.invokestatic 94, 3) := by decide +kernel
theorem dL_law_469 : decode cL_law 469 = .ok (.istore 5, 2) := by decide +kernel
theorem dL_law_471 : decode cL_law 471 = .ok (.aload_n 2, 1) := by decide +kernel
theorem dL_law_472 : decode cL_law 472 = .ok (.aload_n 0, 1) := by decide +kernel
theorem dL_law_473 : decode cL_law 473 = .ok (.iload 4, 2) := by decide +kernel
theorem dL_law_475 : decode cL_law 475 = .ok (.iconst 1, 1) := by decide +kernel
theorem dL_law_476 : decode cL_law 476 = .ok (.iadd, 1) := by decide +kernel
theorem dL_law_477 : decode cL_law 477 = .ok (.iaload, 1) := by decide +kernel
theorem dL_law_478 : decode cL_law 478 = .ok (.invokevirtual 96, 3) := by decide +kernel
theorem dL_law_481 : decode cL_law 481 = .ok (.istore 6, 2) := by decide +kernel
theorem dL_law_483 : decode cL_law 483 = .ok (.aload_n 2, 1) := by decide +kernel
theorem dL_law_484 : decode cL_law 484 = .ok (.invokevirtual 55, 3) := by decide +kernel
theorem dL_law_487 : decode cL_law 487 = .ok (.iload 5, 2) := by decide +kernel
theorem dL_law_489 : decode cL_law 489 = .ok (.if_icmp .eq 5, 3) := by decide +kernel
theorem dL_law_492 : decode cL_law 492 = .ok (.iconst 0, 1) := by decide +kernel
theorem dL_law_493 : decode cL_law 493 = .ok (.ireturn, 1) := by decide +kernel
theorem dL_law_494 : decode cL_law 494 = .ok (.iload 5, 2) := by decide +kernel
theorem dL_law_496 : decode cL_law 496 = .ok (.ifCond .ne 15, 3) := by decide +kernel
theorem dL_law_499 : decode cL_law 499 = .ok (.aload_n 3, 1) := by decide +kernel
theorem dL_law_500 : decode cL_law 500 = .ok (.iconst 0, 1) := by decide +kernel
theorem dL_law_501 : decode cL_law 501 = .ok (.laload, 1) := by decide +kernel
theorem dL_law_502 : decode cL_law 502 = .ok (.iload 6, 2) := by decide +kernel
theorem dL_law_504 : decode cL_law 504 = .ok (.i2l, 1) := by decide +kernel
theorem dL_law_505 : decode cL_law 505 = .ok (.lcmp, 1) := by decide +kernel
theorem dL_law_506 : decode cL_law 506 = .ok (.ifCond .eq 5, 3) := by decide +kernel
theorem dL_law_509 : decode cL_law 509 = .ok (.iconst 0, 1) := by decide +kernel
theorem dL_law_510 : decode cL_law 510 = .ok (.ireturn, 1) := by decide +kernel
theorem dL_law_511 : decode cL_law 511 = .ok (.goto 196, 3) := by decide +kernel
theorem dL_law_514 : decode cL_law 514 = .ok (.aload_n 1, 1) := by decide +kernel
theorem dL_law_515 : decode cL_law 515 = .ok (.aload_n 0, 1) := by decide +kernel
theorem dL_law_516 : decode cL_law 516 = .ok (.iload 4, 2) := by decide +kernel
theorem dL_law_518 : decode cL_law 518 = .ok (.iconst 1, 1) := by decide +kernel
theorem dL_law_519 : decode cL_law 519 = .ok (.iadd, 1) := by decide +kernel
theorem dL_law_520 : decode cL_law 520 = .ok (.iaload, 1) := by decide +kernel
theorem dL_law_521 : decode cL_law 521 = .ok (.invokevirtual 97, 3) := by decide +kernel
theorem dL_law_524 : decode cL_law 524 = .ok (.aload_n 2, 1) := by decide +kernel
theorem dL_law_525 : decode cL_law 525 = .ok (.aload_n 0, 1) := by decide +kernel
theorem dL_law_526 : decode cL_law 526 = .ok (.iload 4, 2) := by decide +kernel
theorem dL_law_528 : decode cL_law 528 = .ok (.iconst 1, 1) := by decide +kernel
theorem dL_law_529 : decode cL_law 529 = .ok (.iadd, 1) := by decide +kernel
theorem dL_law_530 : decode cL_law 530 = .ok (.iaload, 1) := by decide +kernel
theorem dL_law_531 : decode cL_law 531 = .ok (.invokevirtual 100, 3) := by decide +kernel
theorem dL_law_534 : decode cL_law 534 = .ok (.if_icmp .eq 173, 3) := by decide +kernel
theorem dL_law_537 : decode cL_law 537 = .ok (.iconst 0, 1) := by decide +kernel
theorem dL_law_538 : decode cL_law 538 = .ok (.ireturn, 1) := by decide +kernel
theorem dL_law_539 : decode cL_law 539 = .ok (.aload_n 1, 1) := by decide +kernel
theorem dL_law_540 : decode cL_law 540 = .ok (.aload_n 0, 1) := by decide +kernel
theorem dL_law_541 : decode cL_law 541 = .ok (.iload 4, 2) := by decide +kernel
theorem dL_law_543 : decode cL_law 543 = .ok (.iconst 1, 1) := by decide +kernel
theorem dL_law_544 : decode cL_law 544 = .ok (.iadd, 1) := by decide +kernel
theorem dL_law_545 : decode cL_law 545 = .ok (.iaload, 1) := by decide +kernel
theorem dL_law_546 : decode cL_law 546 = .ok (.aload_n 3, 1) := by decide +kernel
theorem dL_law_547 : decode cL_law 547 = .ok (.invokestatic 101, 3) := by decide +kernel
theorem dL_law_550 : decode cL_law 550 = .ok (.istore 5, 2) := by decide +kernel
theorem dL_law_552 : decode cL_law 552 = .ok (.aload_n 2, 1) := by decide +kernel
theorem dL_law_553 : decode cL_law 553 = .ok (.aload_n 0, 1) := by decide +kernel
theorem dL_law_554 : decode cL_law 554 = .ok (.iload 4, 2) := by decide +kernel
theorem dL_law_556 : decode cL_law 556 = .ok (.iconst 1, 1) := by decide +kernel
theorem dL_law_557 : decode cL_law 557 = .ok (.iadd, 1) := by decide +kernel
theorem dL_law_558 : decode cL_law 558 = .ok (.iaload, 1) := by decide +kernel
theorem dL_law_559 : decode cL_law 559 = .ok (.invokevirtual 103, 3) := by decide +kernel
theorem dL_law_562 : decode cL_law 562 = .ok (.istore 6, 2) := by decide +kernel
theorem dL_law_564 : decode cL_law 564 = .ok (.aload_n 2, 1) := by decide +kernel
theorem dL_law_565 : decode cL_law 565 = .ok (.invokevirtual 55, 3) := by decide +kernel
theorem dL_law_568 : decode cL_law 568 = .ok (.iload 5, 2) := by decide +kernel
theorem dL_law_570 : decode cL_law 570 = .ok (.if_icmp .eq 5, 3) := by decide +kernel
theorem dL_law_573 : decode cL_law 573 = .ok (.iconst 0, 1) := by decide +kernel
theorem dL_law_574 : decode cL_law 574 = .ok (.ireturn, 1) := by decide +kernel
theorem dL_law_575 : decode cL_law 575 = .ok (.iload 5, 2) := by decide +kernel
theorem dL_law_577 : decode cL_law 577 = .ok (.ifCond .ne 15, 3) := by decide +kernel
theorem dL_law_580 : decode cL_law 580 = .ok (.aload_n 3, 1) := by decide +kernel
theorem dL_law_581 : decode cL_law 581 = .ok (.iconst 0, 1) := by decide +kernel
theorem dL_law_582 : decode cL_law 582 = .ok (.laload, 1) := by decide +kernel
theorem dL_law_583 : decode cL_law 583 = .ok (.iload 6, 2) := by decide +kernel
theorem dL_law_585 : decode cL_law 585 = .ok (.i2l, 1) := by decide +kernel
theorem dL_law_586 : decode cL_law 586 = .ok (.lcmp, 1) := by decide +kernel
theorem dL_law_587 : decode cL_law 587 = .ok (.ifCond .eq 5, 3) := by decide +kernel
theorem dL_law_590 : decode cL_law 590 = .ok (.iconst 0, 1) := by decide +kernel
theorem dL_law_591 : decode cL_law 591 = .ok (.ireturn, 1) := by decide +kernel
theorem dL_law_592 : decode cL_law 592 = .ok (.goto 115, 3) := by decide +kernel
theorem dL_law_595 : decode cL_law 595 = .ok (.aload_n 1, 1) := by decide +kernel
theorem dL_law_596 : decode cL_law 596 = .ok (.aload_n 0, 1) := by decide +kernel
theorem dL_law_597 : decode cL_law 597 = .ok (.iload 4, 2) := by decide +kernel
theorem dL_law_599 : decode cL_law 599 = .ok (.iconst 1, 1) := by decide +kernel
theorem dL_law_600 : decode cL_law 600 = .ok (.iadd, 1) := by decide +kernel
theorem dL_law_601 : decode cL_law 601 = .ok (.iaload, 1) := by decide +kernel
theorem dL_law_602 : decode cL_law 602 = .ok (.aload_n 3, 1) := by decide +kernel
theorem dL_law_603 : decode cL_law 603 = .ok (.invokestatic 104, 3) := by decide +kernel
theorem dL_law_606 : decode cL_law 606 = .ok (.istore 5, 2) := by decide +kernel
theorem dL_law_608 : decode cL_law 608 = .ok (.aload_n 2, 1) := by decide +kernel
theorem dL_law_609 : decode cL_law 609 = .ok (.aload_n 0, 1) := by decide +kernel
theorem dL_law_610 : decode cL_law 610 = .ok (.iload 4, 2) := by decide +kernel
theorem dL_law_612 : decode cL_law 612 = .ok (.iconst 1, 1) := by decide +kernel
theorem dL_law_613 : decode cL_law 613 = .ok (.iadd, 1) := by decide +kernel
theorem dL_law_614 : decode cL_law 614 = .ok (.iaload, 1) := by decide +kernel
theorem dL_law_615 : decode cL_law 615 = .ok (.invokevirtual 106, 3) := by decide +kernel
theorem dL_law_618 : decode cL_law 618 = .ok (.istore 6, 2) := by decide +kernel
theorem dL_law_620 : decode cL_law 620 = .ok (.aload_n 2, 1) := by decide +kernel
theorem dL_law_621 : decode cL_law 621 = .ok (.invokevirtual 55, 3) := by decide +kernel
theorem dL_law_624 : decode cL_law 624 = .ok (.iload 5, 2) := by decide +kernel
theorem dL_law_626 : decode cL_law 626 = .ok (.if_icmp .eq 5, 3) := by decide +kernel
theorem dL_law_629 : decode cL_law 629 = .ok (.iconst 0, 1) := by decide +kernel
theorem dL_law_630 : decode cL_law 630 = .ok (.ireturn, 1) := by decide +kernel
theorem dL_law_631 : decode cL_law 631 = .ok (.iload 5, 2) := by decide +kernel
theorem dL_law_633 : decode cL_law 633 = .ok (.ifCond .ne 15, 3) := by decide +kernel
theorem dL_law_636 : decode cL_law 636 = .ok (.aload_n 3, 1) := by decide +kernel
theorem dL_law_637 : decode cL_law 637 = .ok (.iconst 0, 1) := by decide +kernel
theorem dL_law_638 : decode cL_law 638 = .ok (.laload, 1) := by decide +kernel
theorem dL_law_639 : decode cL_law 639 = .ok (.iload 6, 2) := by decide +kernel
theorem dL_law_641 : decode cL_law 641 = .ok (.i2l, 1) := by decide +kernel
theorem dL_law_642 : decode cL_law 642 = .ok (.lcmp, 1) := by decide +kernel
theorem dL_law_643 : decode cL_law 643 = .ok (.ifCond .eq 5, 3) := by decide +kernel
theorem dL_law_646 : decode cL_law 646 = .ok (.iconst 0, 1) := by decide +kernel
theorem dL_law_647 : decode cL_law 647 = .ok (.ireturn, 1) := by decide +kernel
theorem dL_law_648 : decode cL_law 648 = .ok (.goto 59, 3) := by decide +kernel
theorem dL_law_651 : decode cL_law 651 = .ok (.aload_n 1, 1) := by decide +kernel
theorem dL_law_652 : decode cL_law 652 = .ok (.aload_n 0, 1) := by decide +kernel
theorem dL_law_653 : decode cL_law 653 = .ok (.iload 4, 2) := by decide +kernel
theorem dL_law_655 : decode cL_law 655 = .ok (.iconst 1, 1) := by decide +kernel
theorem dL_law_656 : decode cL_law 656 = .ok (.iadd, 1) := by decide +kernel
theorem dL_law_657 : decode cL_law 657 = .ok (.iaload, 1) := by decide +kernel
theorem dL_law_658 : decode cL_law 658 = .ok (.aload_n 3, 1) := by decide +kernel
theorem dL_law_659 : decode cL_law 659 = .ok (.invokestatic 107, 3) := by decide +kernel
theorem dL_law_662 : decode cL_law 662 = .ok (.istore 5, 2) := by decide +kernel
theorem dL_law_664 : decode cL_law 664 = .ok (.aload_n 2, 1) := by decide +kernel
theorem dL_law_665 : decode cL_law 665 = .ok (.aload_n 0, 1) := by decide +kernel
theorem dL_law_666 : decode cL_law 666 = .ok (.iload 4, 2) := by decide +kernel
theorem dL_law_668 : decode cL_law 668 = .ok (.iconst 1, 1) := by decide +kernel
theorem dL_law_669 : decode cL_law 669 = .ok (.iadd, 1) := by decide +kernel
theorem dL_law_670 : decode cL_law 670 = .ok (.iaload, 1) := by decide +kernel
theorem dL_law_671 : decode cL_law 671 = .ok (.invokevirtual 109, 3) := by decide +kernel
theorem dL_law_674 : decode cL_law 674 = .ok (.istore 6, 2) := by decide +kernel
theorem dL_law_676 : decode cL_law 676 = .ok (.aload_n 2, 1) := by decide +kernel
theorem dL_law_677 : decode cL_law 677 = .ok (.invokevirtual 55, 3) := by decide +kernel
theorem dL_law_680 : decode cL_law 680 = .ok (.iload 5, 2) := by decide +kernel
theorem dL_law_682 : decode cL_law 682 = .ok (.if_icmp .eq 5, 3) := by decide +kernel
theorem dL_law_685 : decode cL_law 685 = .ok (.iconst 0, 1) := by decide +kernel
theorem dL_law_686 : decode cL_law 686 = .ok (.ireturn, 1) := by decide +kernel
theorem dL_law_687 : decode cL_law 687 = .ok (.iload 5, 2) := by decide +kernel
theorem dL_law_689 : decode cL_law 689 = .ok (.ifCond .ne 15, 3) := by decide +kernel
theorem dL_law_692 : decode cL_law 692 = .ok (.aload_n 3, 1) := by decide +kernel
theorem dL_law_693 : decode cL_law 693 = .ok (.iconst 0, 1) := by decide +kernel
theorem dL_law_694 : decode cL_law 694 = .ok (.laload, 1) := by decide +kernel
theorem dL_law_695 : decode cL_law 695 = .ok (.iload 6, 2) := by decide +kernel
theorem dL_law_697 : decode cL_law 697 = .ok (.i2l, 1) := by decide +kernel
theorem dL_law_698 : decode cL_law 698 = .ok (.lcmp, 1) := by decide +kernel
theorem dL_law_699 : decode cL_law 699 = .ok (.ifCond .eq 5, 3) := by decide +kernel
theorem dL_law_702 : decode cL_law 702 = .ok (.iconst 0, 1) := by decide +kernel
theorem dL_law_703 : decode cL_law 703 = .ok (.ireturn, 1) := by decide +kernel
theorem dL_law_704 : decode cL_law 704 = .ok (.goto 3, 3) := by decide +kernel
theorem dL_law_707 : decode cL_law 707 = .ok (.iinc 4 3, 3) := by decide +kernel
theorem dL_law_710 : decode cL_law 710 = .ok (.goto (-677), 3) := by decide +kernel
theorem dL_law_713 : decode cL_law 713 = .ok (.iconst 1, 1) := by decide +kernel
theorem dL_law_714 : decode cL_law 714 = .ok (.ireturn, 1) := by decide +kernel
end
section
/-! walks over a pure state: gG pc locals stack S X : from here, with the world of S, the method returns X (an answer and a state) -/
section GF
abbrev gSt : Type := (Nat → Int32) × (Nat → Bool) × (Nat → Int64) × (Nat → Nat → Int32)
def bI (b : Bool) : Int32 := match b with
  | true => 1
  | false => 0
def sI (S : gSt) (k : Nat) (v : Int32) : gSt := (upd S.1 k v, S.2.1, S.2.2.1, S.2.2.2)
def sZ (S : gSt) (k : Nat) (v : Bool) : gSt := (S.1, va_up S.2.1 k v, S.2.2.1, S.2.2.2)
def sJ (S : gSt) (k : Nat) (v : Int64) : gSt := (S.1, S.2.1, va_up S.2.2.1 k v, S.2.2.2)
def aG (S : gSt) (k : Nat) (i : Int32) : Int32 := S.2.2.2 k i.toNatClampNeg
def aP (S : gSt) (k : Nat) (i : Int32) (v : Int32) : gSt := (S.1, S.2.1, S.2.2.1, va_up S.2.2.2 k (upd (S.2.2.2 k) i.toNatClampNeg v))
/-- a world for each state; the tables' numbers; the arrays' classes; what stands beside it and never changes -/
abbrev gO : Type := (gSt → va_W) × va_G × List (ClassId × FieldType) × ((Nat → Prop) → State → Heap → Prop)
abbrev gK : Type := Program × Launch × Env × Room × State × MethodId × Array Value × List Frame × Method × Code × (Nat → Prop)
def gZok (Z : (Nat → Prop) → State → Heap → Prop) : Prop := (∀ (A : Nat → Prop) (u U : State) (H : Heap), u.WarmedH U.vm → Z A u H → Z A U H) ∧ (∀ (A : Nat → Prop) (U : State) (H H1 : Heap), (∀ a : Nat, a < H.size → ¬ A a → H1[a]? = H[a]?) → Z A U H → Z A U H1) ∧ ∀ (A B : Nat → Prop) (U : State) (H : Heap), (∀ q, B q → A q) → Z A U H → Z B U H
def gQ (ω : gO) (v : Option Value) (S : gSt) (A : Nat → Prop) : Array Value → State → Outcome → State → Prop := fun _ st oc t => (oc = .returned v ∧ va_P ω.2.1 vwCl (ω.1 S) t.heap ∧ va_K ω.2.1 vwCl ω.2.2.1 t ∧ va_D A (ω.1 S)) ∧ va_F A st t
def gPre (ω : gO) (S : gSt) (sz : Nat) : State → Prop := fun U => U.heap.size = sz ∧ va_P ω.2.1 vwCl (ω.1 S) U.heap ∧ va_K ω.2.1 vwCl ω.2.2.1 U ∧ va_D (fun _ => True) (ω.1 S) ∧ ω.2.2.2 (va_A (ω.1 S) sz) U U.heap
/-- a method's contract: from the state S it answers v and leaves the state S2 -/
def gMet (l : Launch) (y : MethodName) (cc : ByteArray) (nL : Nat) (ret : Option FieldType) (rm : Room) (ω : gO) (av : List Value) (S : gSt) (v : Option Value) (S2 : gSt) : Prop :=
  ∀ sz : Nat, Met l y (Cond.code y cc nL ret :: WT) rm (va_Pc av (gPre ω S sz)) (gQ ω v S2 (va_A (ω.1 S) sz)) 0 0 (va_A (ω.1 S) sz)
def gG {ρ : Type} (ω : gO) (κ : gK) (nL : Nat) (out : ρ → Option Value) (pc : Nat) (lv : List (Nat × Value)) (st : List Value) (S : gSt) (X : ρ × gSt) : Prop :=
  match κ with
  | (p, l, e, R, s, m, args, below, meth, c, A) => ∀ (H : Heap) (locs : List Loc) (ls : Array Slot), va_P ω.2.1 vwCl (ω.1 S) H → va_D A (ω.1 S) → va_S A s.heap H locs → lv_has ls nL lv →
      W p l e R s m args below meth c H locs 0 0 (MQ below (gQ ω (out X.1) X.2 A) args s 0 0 A) (F0 m pc ls st)
def gC (ω : gO) (κ : gK) (cc : ByteArray) (nL : Nat) (own : String) (ret : Option FieldType) (rm : Room) : Prop :=
  match κ with
  | (p, _, _, R, s, m, args, _, meth, c, A) => p.tables.exec = Jvm.exec ∧ c.code = cc ∧ c.maxLocals = nL ∧ s.vm.findClass own = some m.cls ∧ (∀ w ∈ WT, w.before args s = true) ∧ va_K ω.2.1 vwCl ω.2.2.1 s ∧ (∀ q, s.heap.size ≤ q → A q) ∧ meth.sig.returnType = ret ∧ meth.locks = false ∧ R = rm ∧ ω.2.2.2 A s s.heap ∧ gZok ω.2.2.2
def gL {α β : Type} (a : α) (f : α → β) : β := f a
def gB {α β : Type} (q : α × gSt) (f : α → gSt → β) : β := f q.1 q.2
def oI : Int32 → Option Value := fun r => some (.int r)
def oZ : Bool → Option Value := fun b => some (.int (bI b))
def oV : Unit → Option Value := fun _ => none
def g_callee (C : String) (y : MethodName) (b : ByteArray) (n : Nat) (r : Option FieldType) (na : Nat) : Prop := (y.cls = C ∧ y.cls ≠ "java/lang/invoke/MethodHandle" ∧ y.cls ≠ "java/lang/invoke/VarHandle" ∧ (parseMethodDescriptor y.desc).map (fun d => d.parameters.length) = some na) ∧ Cond.instanceMethod y ∈ WT ∧ Cond.selects C y y ∈ WT ∧ Cond.initialized C ∈ WT ∧ Cond.code y b n r ∈ WT
def g_calleeU (owner : String) (x y : MethodName) (b : ByteArray) (n : Nat) (r : Option FieldType) (na : Nat) : Prop := (owner ≠ "java/lang/invoke/MethodHandle" ∧ owner ≠ "java/lang/invoke/VarHandle" ∧ (parseMethodDescriptor x.desc).map (fun d => d.parameters.length) = some na) ∧ Cond.instanceMethod y ∈ WT ∧ Cond.initialized y.cls ∈ WT ∧ Cond.code y b n r ∈ WT
def g_calleeS (own : String) (y : MethodName) (b : ByteArray) (n : Nat) (r : Option FieldType) (na : Nat) : Prop := (y.cls = own ∧ y.cls ≠ "java/lang/invoke/MethodHandle" ∧ y.cls ≠ "java/lang/invoke/VarHandle" ∧ (parseMethodDescriptor y.desc).map (fun d => d.parameters.length) = some na) ∧ Cond.static y ∈ WT ∧ Cond.initialized own ∈ WT ∧ Cond.code y b n r ∈ WT
theorem g_inl {a : List Cond} {w : Cond} (ha : ∀ w ∈ a, w ∈ WT) (hw : w ∈ WT) : GoodIn WT (a ++ w :: WT) := fun v h => wt_g v ((List.mem_append.mp h).elim (ha v) (fun h => (List.mem_cons.mp h).elim (fun e => e ▸ hw) id))
theorem g_inV {own C : String} {i n na : Nat} {y : MethodName} {b : ByteArray} {r : Option FieldType} (h1 : Cond.methodLink own i y ∈ WT) (hg : g_callee C y b n r na) : GoodIn WT (wsV own i C y (Cond.code y b n r :: WT)) := g_inl (fun w h => by
  simp only [List.mem_cons, List.not_mem_nil, or_false] at h
  rcases h with rfl | rfl | rfl | rfl
  · exact h1
  · exact hg.2.1
  · exact hg.2.2.1
  · exact hg.2.2.2.1) hg.2.2.2.2
theorem g_inS {own : String} {i n na : Nat} {y : MethodName} {b : ByteArray} {r : Option FieldType} (h1 : Cond.methodLink own i y ∈ WT) (hg : g_calleeS own y b n r na) : GoodIn WT (wsS own i y (Cond.code y b n r :: WT)) := g_inl (fun w h => by
  simp only [List.mem_cons, List.not_mem_nil, or_false] at h
  rcases h with rfl | rfl | rfl
  · exact h1
  · exact hg.2.1
  · exact hg.2.2.1) hg.2.2.2
theorem g_inU {own C owner : String} {i n na : Nat} {x y : MethodName} {b : ByteArray} {r : Option FieldType} (h1 : Cond.methodLink own i x ∈ WT) (h2 : Cond.sameMethod x.cls owner x.name x.desc ∈ WT) (h3 : Cond.selects C x y ∈ WT) (hg : g_calleeU owner x y b n r na) : GoodIn WT (va_wsU own i C owner x y (Cond.code y b n r :: WT)) := g_inl (fun w h => by
  simp only [List.mem_cons, List.not_mem_nil, or_false] at h
  rcases h with rfl | rfl | rfl | rfl | rfl
  · exact h1
  · exact h2
  · exact h3
  · exact hg.2.1
  · exact hg.2.2.1) hg.2.2.2
theorem bI_nar (b : Bool) : narrow .boolean (.int (bI b)) = .int (bI b) := by cases b <;> rfl
theorem gMet_of {ρ : Type} {l : Launch} {y : MethodName} {rm : Room} {ω : gO} {cc : ByteArray} {nL : Nat} {ret : Option FieldType} {av : List Value} {lv : List (Nat × Value)} {S : gSt} (out : ρ → Option Value) {X : ρ × gSt} (hz : gZok ω.2.2.2)
    (hy : plainName y.cls = true) (hlen : (lg_sl av).length ≤ nL) (hlv : lv_args 0 av = lv)
    (body : ∀ κ : gK, gC ω κ cc nL y.cls ret rm → gG ω κ nL out 0 lv [] S X) : gMet l y cc nL ret rm ω av S (out X.1) X.2 := by
  intro sz
  refine Met.ofW (cc := cc) (maxL := nL) (ret := ret) (ws' := WT) hy rfl ?_
  intro p e s m args below meth c s₁ B hml hv
  obtain ⟨rfl, hsz, hP, hK, hD0, hZ⟩ := hv
  have hts := fun w h => atoms_spec (ws := Cond.code y cc nL ret :: WT) B.pre w (List.mem_cons_of_mem _ h)
  have hown : s.vm.findClass y.cls = some m.cls := findClass_of_methodNamed B.named
  subst hsz
  have hD := hD0.self (sz := s.heap.size)
  have hl := lv_entry av (n := nL) hlen
  rw [lg_entry_eq]
  rw [hlv] at hl
  exact body (p, l, e, (headSpec (Cond.code y cc nL ret :: WT) rm).room, s, m, av.toArray, below, meth, c, va_A (ω.1 S) s.heap.size) ⟨B.exec, B.bytes, hml, hown, hts, hK, fun q h => Or.inr h, B.returns, B.notSynchronized, rfl, hZ, hz⟩ s.heap [] _ hP hD va_S.rf hl
section GR
variable {ρ : Type} {ω : gO} {κ : gK} {cc : ByteArray} {nL : Nat} {own : String} {ret : Option FieldType} {rm : Room} {out : ρ → Option Value} {pc : Nat} {lv : List (Nat × Value)} {rest : List Value} {S : gSt} {X : ρ × gSt}
theorem g_iadd (hc : gC ω κ cc nL own ret rm) {x y : Int32} (hd : decode cc pc = .ok (.iadd, 1)) (k : gG ω κ nL out (pc + 1) lv (.int (x + y) :: rest) S X) : gG ω κ nL out (pc) lv (.int y :: .int x :: rest) S X := by
  obtain ⟨p, l, e, R, s, m, args, below, meth, c, A⟩ := κ
  intro H locs ls hP hD hS hl
  exact lv_iadd hc.1 hc.2.1 hd (k H locs ls hP hD hS hl)
theorem g_isub (hc : gC ω κ cc nL own ret rm) {x y : Int32} (hd : decode cc pc = .ok (.isub, 1)) (k : gG ω κ nL out (pc + 1) lv (.int (x - y) :: rest) S X) : gG ω κ nL out (pc) lv (.int y :: .int x :: rest) S X := by
  obtain ⟨p, l, e, R, s, m, args, below, meth, c, A⟩ := κ
  intro H locs ls hP hD hS hl
  exact lv_isub hc.1 hc.2.1 hd (k H locs ls hP hD hS hl)
theorem g_imul (hc : gC ω κ cc nL own ret rm) {x y : Int32} (hd : decode cc pc = .ok (.imul, 1)) (k : gG ω κ nL out (pc + 1) lv (.int (x * y) :: rest) S X) : gG ω κ nL out (pc) lv (.int y :: .int x :: rest) S X := by
  obtain ⟨p, l, e, R, s, m, args, below, meth, c, A⟩ := κ
  intro H locs ls hP hD hS hl
  exact lv_imul hc.1 hc.2.1 hd (k H locs ls hP hD hS hl)
theorem g_iand (hc : gC ω κ cc nL own ret rm) {x y : Int32} (hd : decode cc pc = .ok (.iand, 1)) (k : gG ω κ nL out (pc + 1) lv (.int (x &&& y) :: rest) S X) : gG ω κ nL out (pc) lv (.int y :: .int x :: rest) S X := by
  obtain ⟨p, l, e, R, s, m, args, below, meth, c, A⟩ := κ
  intro H locs ls hP hD hS hl
  exact lv_iand hc.1 hc.2.1 hd (k H locs ls hP hD hS hl)
theorem g_ior (hc : gC ω κ cc nL own ret rm) {x y : Int32} (hd : decode cc pc = .ok (.ior, 1)) (k : gG ω κ nL out (pc + 1) lv (.int (x ||| y) :: rest) S X) : gG ω κ nL out (pc) lv (.int y :: .int x :: rest) S X := by
  obtain ⟨p, l, e, R, s, m, args, below, meth, c, A⟩ := κ
  intro H locs ls hP hD hS hl
  exact lv_ior hc.1 hc.2.1 hd (k H locs ls hP hD hS hl)
theorem g_ixor (hc : gC ω κ cc nL own ret rm) {x y : Int32} (hd : decode cc pc = .ok (.ixor, 1)) (k : gG ω κ nL out (pc + 1) lv (.int (x ^^^ y) :: rest) S X) : gG ω κ nL out (pc) lv (.int y :: .int x :: rest) S X := by
  obtain ⟨p, l, e, R, s, m, args, below, meth, c, A⟩ := κ
  intro H locs ls hP hD hS hl
  exact lv_ixor hc.1 hc.2.1 hd (k H locs ls hP hD hS hl)
theorem g_ishl (hc : gC ω κ cc nL own ret rm) {x y : Int32} (hd : decode cc pc = .ok (.ishl, 1)) (k : gG ω κ nL out (pc + 1) lv (.int (x <<< (y &&& 31)) :: rest) S X) : gG ω κ nL out (pc) lv (.int y :: .int x :: rest) S X := by
  obtain ⟨p, l, e, R, s, m, args, below, meth, c, A⟩ := κ
  intro H locs ls hP hD hS hl
  exact lv_ishl hc.1 hc.2.1 hd (k H locs ls hP hD hS hl)
theorem g_ishr (hc : gC ω κ cc nL own ret rm) {x y : Int32} (hd : decode cc pc = .ok (.ishr, 1)) (k : gG ω κ nL out (pc + 1) lv (.int (x >>> (y &&& 31)) :: rest) S X) : gG ω κ nL out (pc) lv (.int y :: .int x :: rest) S X := by
  obtain ⟨p, l, e, R, s, m, args, below, meth, c, A⟩ := κ
  intro H locs ls hP hD hS hl
  exact lv_ishr hc.1 hc.2.1 hd (k H locs ls hP hD hS hl)
theorem g_idiv (hc : gC ω κ cc nL own ret rm) {x y : Int32} (hd : decode cc pc = .ok (.idiv, 1)) (hn : ¬ y = 0) (k : gG ω κ nL out (pc + 1) lv (.int (x / y) :: rest) S X) : gG ω κ nL out (pc) lv (.int y :: .int x :: rest) S X := by
  obtain ⟨p, l, e, R, s, m, args, below, meth, c, A⟩ := κ
  intro H locs ls hP hD hS hl
  exact lv_idiv hc.1 hc.2.1 hd hn (k H locs ls hP hD hS hl)
theorem g_ladd (hc : gC ω κ cc nL own ret rm) {x y : Int64} (hd : decode cc pc = .ok (.ladd, 1)) (k : gG ω κ nL out (pc + 1) lv (.long (x + y) :: rest) S X) : gG ω κ nL out (pc) lv (.long y :: .long x :: rest) S X := by
  obtain ⟨p, l, e, R, s, m, args, below, meth, c, A⟩ := κ
  intro H locs ls hP hD hS hl
  exact lv_ladd hc.1 hc.2.1 hd (k H locs ls hP hD hS hl)
theorem g_land (hc : gC ω κ cc nL own ret rm) {x y : Int64} (hd : decode cc pc = .ok (.land, 1)) (k : gG ω κ nL out (pc + 1) lv (.long (x &&& y) :: rest) S X) : gG ω κ nL out (pc) lv (.long y :: .long x :: rest) S X := by
  obtain ⟨p, l, e, R, s, m, args, below, meth, c, A⟩ := κ
  intro H locs ls hP hD hS hl
  exact lv_land hc.1 hc.2.1 hd (k H locs ls hP hD hS hl)
theorem g_ineg (hc : gC ω κ cc nL own ret rm) {x : Int32} (hd : decode cc pc = .ok (.ineg, 1)) (k : gG ω κ nL out (pc + 1) lv (.int (-x) :: rest) S X) : gG ω κ nL out (pc) lv (.int x :: rest) S X := by
  obtain ⟨p, l, e, R, s, m, args, below, meth, c, A⟩ := κ
  intro H locs ls hP hD hS hl
  exact lv_ineg hc.1 hc.2.1 hd (k H locs ls hP hD hS hl)
theorem g_i2b (hc : gC ω κ cc nL own ret rm) {x : Int32} (hd : decode cc pc = .ok (.i2b, 1)) (k : gG ω κ nL out (pc + 1) lv (.int x.toInt8.toInt32 :: rest) S X) : gG ω κ nL out (pc) lv (.int x :: rest) S X := by
  obtain ⟨p, l, e, R, s, m, args, below, meth, c, A⟩ := κ
  intro H locs ls hP hD hS hl
  exact lv_i2b hc.1 hc.2.1 hd rfl (k H locs ls hP hD hS hl)
theorem g_i2l (hc : gC ω κ cc nL own ret rm) {x : Int32} (hd : decode cc pc = .ok (.i2l, 1)) (k : gG ω κ nL out (pc + 1) lv (.long x.toInt64 :: rest) S X) : gG ω κ nL out (pc) lv (.int x :: rest) S X := by
  obtain ⟨p, l, e, R, s, m, args, below, meth, c, A⟩ := κ
  intro H locs ls hP hD hS hl
  exact lv_i2l hc.1 hc.2.1 hd rfl (k H locs ls hP hD hS hl)
theorem g_l2i (hc : gC ω κ cc nL own ret rm) {x : Int64} (hd : decode cc pc = .ok (.l2i, 1)) (k : gG ω κ nL out (pc + 1) lv (.int x.toInt32 :: rest) S X) : gG ω κ nL out (pc) lv (.long x :: rest) S X := by
  obtain ⟨p, l, e, R, s, m, args, below, meth, c, A⟩ := κ
  intro H locs ls hP hD hS hl
  exact lv_l2i hc.1 hc.2.1 hd rfl (k H locs ls hP hD hS hl)
theorem g_lconst (hc : gC ω κ cc nL own ret rm) {n : Fin 2} {v : Int64} (hd : decode cc pc = .ok (.lconst n, 1)) (hv : Int64.ofNat (n : Nat) = v) (k : gG ω κ nL out (pc + 1) lv (.long v :: rest) S X) : gG ω κ nL out (pc) lv (rest) S X := by
  obtain ⟨p, l, e, R, s, m, args, below, meth, c, A⟩ := κ
  intro H locs ls hP hD hS hl
  exact lv_lconst hc.1 hc.2.1 hd hv (k H locs ls hP hD hS hl)
theorem g_iconst (hc : gC ω κ cc nL own ret rm) {n : Int} {v : Int32} (hd : decode cc pc = .ok (.iconst n, 1)) (hv : Int32.ofInt n = v) (k : gG ω κ nL out (pc + 1) lv (.int v :: rest) S X) : gG ω κ nL out (pc) lv (rest) S X := by
  obtain ⟨p, l, e, R, s, m, args, below, meth, c, A⟩ := κ
  intro H locs ls hP hD hS hl
  exact lv_iconst hc.1 hc.2.1 hd hv (k H locs ls hP hD hS hl)
theorem g_bipush (hc : gC ω κ cc nL own ret rm) {n : Int} {v : Int32} (hd : decode cc pc = .ok (.bipush n, 2)) (hv : (Int8.ofInt n).toInt32 = v) (k : gG ω κ nL out (pc + 2) lv (.int v :: rest) S X) : gG ω κ nL out (pc) lv (rest) S X := by
  obtain ⟨p, l, e, R, s, m, args, below, meth, c, A⟩ := κ
  intro H locs ls hP hD hS hl
  exact lv_bipush hc.1 hc.2.1 hd hv (k H locs ls hP hD hS hl)
theorem g_sipush (hc : gC ω κ cc nL own ret rm) {n : Int} {v : Int32} (hd : decode cc pc = .ok (.sipush n, 3)) (hv : (Int16.ofInt n).toInt32 = v) (k : gG ω κ nL out (pc + 3) lv (.int v :: rest) S X) : gG ω κ nL out (pc) lv (rest) S X := by
  obtain ⟨p, l, e, R, s, m, args, below, meth, c, A⟩ := κ
  intro H locs ls hP hD hS hl
  exact lv_sipush hc.1 hc.2.1 hd hv (k H locs ls hP hD hS hl)
theorem g_ldc (hc : gC ω κ cc nL own ret rm) {i : Nat} {v : Int32} (hm : Cond.constant own i v ∈ WT) (hd : decode cc pc = .ok (.ldc i, 2)) (k : gG ω κ nL out (pc + 2) lv (.int v :: rest) S X) : gG ω κ nL out (pc) lv (rest) S X := by
  obtain ⟨p, l, e, R, s, m, args, below, meth, c, A⟩ := κ
  intro H locs ls hP hD hS hl
  exact lv_ldc hc.1 hc.2.1 hc.2.2.2.1 (hc.2.2.2.2.1 _ hm) hd (k H locs ls hP hD hS hl)
theorem g_iload_n (hc : gC ω κ cc nL own ret rm) (j : Nat) {n : Fin 4} {i : Nat} {x : Int32} (hd : decode cc pc = .ok (.iload_n n, 1)) (hi : (n : Nat) = i) (hj : lv[j]? = some (i, .int x)) (k : gG ω κ nL out (pc + 1) lv (.int x :: rest) S X) : gG ω κ nL out (pc) lv (rest) S X := by
  obtain ⟨p, l, e, R, s, m, args, below, meth, c, A⟩ := κ
  intro H locs ls hP hD hS hl
  exact lv_iload_n hc.1 hc.2.1 hd hi (lv_at hl j hj) (k H locs ls hP hD hS hl)
theorem g_iload (hc : gC ω κ cc nL own ret rm) (j : Nat) {i : Nat} {x : Int32} (hd : decode cc pc = .ok (.iload i, 2)) (hj : lv[j]? = some (i, .int x)) (k : gG ω κ nL out (pc + 2) lv (.int x :: rest) S X) : gG ω κ nL out (pc) lv (rest) S X := by
  obtain ⟨p, l, e, R, s, m, args, below, meth, c, A⟩ := κ
  intro H locs ls hP hD hS hl
  exact lv_iload hc.1 hc.2.1 hd (lv_at hl j hj) (k H locs ls hP hD hS hl)
theorem g_aload_n (hc : gC ω κ cc nL own ret rm) (j : Nat) {n : Fin 4} {i : Nat} {x : Nat} (hd : decode cc pc = .ok (.aload_n n, 1)) (hi : (n : Nat) = i) (hj : lv[j]? = some (i, .ref x)) (k : gG ω κ nL out (pc + 1) lv (.ref x :: rest) S X) : gG ω κ nL out (pc) lv (rest) S X := by
  obtain ⟨p, l, e, R, s, m, args, below, meth, c, A⟩ := κ
  intro H locs ls hP hD hS hl
  exact lv_aload_n hc.1 hc.2.1 hd hi (lv_at hl j hj) (k H locs ls hP hD hS hl)
theorem g_aload (hc : gC ω κ cc nL own ret rm) (j : Nat) {i : Nat} {x : Nat} (hd : decode cc pc = .ok (.aload i, 2)) (hj : lv[j]? = some (i, .ref x)) (k : gG ω κ nL out (pc + 2) lv (.ref x :: rest) S X) : gG ω κ nL out (pc) lv (rest) S X := by
  obtain ⟨p, l, e, R, s, m, args, below, meth, c, A⟩ := κ
  intro H locs ls hP hD hS hl
  exact lv_aload hc.1 hc.2.1 hd (lv_at hl j hj) (k H locs ls hP hD hS hl)
theorem g_istore_n (hc : gC ω κ cc nL own ret rm) {n : Fin 4} {i : Nat} {x : Int32} {lv' : List (Nat × Value)} (hd : decode cc pc = .ok (.istore_n n, 1)) (hi : (n : Nat) = i) (hn : i < nL) (hf : (i, Value.int x) :: lv.filter (fun q => !(q.1 == i) && !(q.1 + 1 == i && q.2.category == 2)) = lv') (k : gG ω κ nL out (pc + 1) lv' (rest) S X) : gG ω κ nL out (pc) lv (.int x :: rest) S X := by
  obtain ⟨p, l, e, R, s, m, args, below, meth, c, A⟩ := κ
  intro H locs ls hP hD hS hl
  exact lv_istore_n hc.1 hc.2.1 hd hi hl hn hf (fun ls hl => k H locs ls hP hD hS hl)
theorem g_istore (hc : gC ω κ cc nL own ret rm) {i : Nat} {x : Int32} {lv' : List (Nat × Value)} (hd : decode cc pc = .ok (.istore i, 2)) (hn : i < nL) (hf : (i, Value.int x) :: lv.filter (fun q => !(q.1 == i) && !(q.1 + 1 == i && q.2.category == 2)) = lv') (k : gG ω κ nL out (pc + 2) lv' (rest) S X) : gG ω κ nL out (pc) lv (.int x :: rest) S X := by
  obtain ⟨p, l, e, R, s, m, args, below, meth, c, A⟩ := κ
  intro H locs ls hP hD hS hl
  exact lv_istore hc.1 hc.2.1 hd hl hn hf (fun ls hl => k H locs ls hP hD hS hl)
theorem g_iinc (hc : gC ω κ cc nL own ret rm) (j : Nat) {i : Nat} {n : Int} {x v : Int32} {lv' : List (Nat × Value)} (hd : decode cc pc = .ok (.iinc i n, 3)) (hj : lv[j]? = some (i, .int x)) (hv : Int32.ofInt n = v) (hn : i < nL) (hf : (i, Value.int (x + v)) :: lv.filter (fun q => !(q.1 == i) && !(q.1 + 1 == i && q.2.category == 2)) = lv') (k : gG ω κ nL out (pc + 3) lv' (rest) S X) : gG ω κ nL out (pc) lv (rest) S X := by
  obtain ⟨p, l, e, R, s, m, args, below, meth, c, A⟩ := κ
  intro H locs ls hP hD hS hl
  exact lv_iinc hc.1 hc.2.1 hd hl hj (by rw [hv]) hn hf (fun ls hl => k H locs ls hP hD hS hl)
theorem g_dup (hc : gC ω κ cc nL own ret rm) {va : Value} (hd : decode cc pc = .ok (.dup, 1)) (h1 : va.category = 1) (k : gG ω κ nL out (pc + 1) lv (va :: va :: rest) S X) : gG ω κ nL out (pc) lv (va :: rest) S X := by
  obtain ⟨p, l, e, R, s, m, args, below, meth, c, A⟩ := κ
  intro H locs ls hP hD hS hl
  exact lv_dup hc.1 hc.2.1 hd h1 (k H locs ls hP hD hS hl)
theorem g_pop (hc : gC ω κ cc nL own ret rm) {va : Value} (hd : decode cc pc = .ok (.pop, 1)) (h1 : va.category = 1) (k : gG ω κ nL out (pc + 1) lv (rest) S X) : gG ω κ nL out (pc) lv (va :: rest) S X := by
  obtain ⟨p, l, e, R, s, m, args, below, meth, c, A⟩ := κ
  intro H locs ls hP hD hS hl
  exact lv_pop hc.1 hc.2.1 hd h1 (k H locs ls hP hD hS hl)
theorem g_dup_x1 (hc : gC ω κ cc nL own ret rm) {va vb : Value} (hd : decode cc pc = .ok (.dup_x1, 1)) (h1 : va.category = 1) (h2 : vb.category = 1) (k : gG ω κ nL out (pc + 1) lv (va :: vb :: va :: rest) S X) : gG ω κ nL out (pc) lv (va :: vb :: rest) S X := by
  obtain ⟨p, l, e, R, s, m, args, below, meth, c, A⟩ := κ
  intro H locs ls hP hD hS hl
  exact lv_dup_x1 hc.1 hc.2.1 hd h1 h2 (k H locs ls hP hD hS hl)
theorem g_dup2 (hc : gC ω κ cc nL own ret rm) {va vb : Value} (hd : decode cc pc = .ok (.dup2, 1)) (h1 : va.category = 1) (h2 : vb.category = 1) (k : gG ω κ nL out (pc + 1) lv (va :: vb :: va :: vb :: rest) S X) : gG ω κ nL out (pc) lv (va :: vb :: rest) S X := by
  obtain ⟨p, l, e, R, s, m, args, below, meth, c, A⟩ := κ
  intro H locs ls hP hD hS hl
  exact lv_dup2_11 hc.1 hc.2.1 hd h1 h2 (k H locs ls hP hD hS hl)
theorem g_goto (hc : gC ω κ cc nL own ret rm) {off : Int} {tgt : Nat} (hd : decode cc pc = .ok (.goto off, 3)) (ht : (pc : Int) + off = (tgt : Int)) (k : gG ω κ nL out (tgt) lv (rest) S X) : gG ω κ nL out (pc) lv (rest) S X := by
  obtain ⟨p, l, e, R, s, m, args, below, meth, c, A⟩ := κ
  intro H locs ls hP hD hS hl
  exact lv_goto hc.1 hc.2.1 hd ht (k H locs ls hP hD hS hl)
theorem g_ifeq (hc : gC ω κ cc nL own ret rm) {x : Int32} {off : Int} {tgt : Nat} {X1 X2 : ρ × gSt} {dc : Decidable (x = 0)} (hd : decode cc pc = .ok (.ifCond .eq off, 3)) (ht : (pc : Int) + off = (tgt : Int)) (kt : x = 0 → gG ω κ nL out (tgt) lv (rest) S X1) (kf : ¬ x = 0 → gG ω κ nL out (pc + 3) lv (rest) S X2) : gG ω κ nL out (pc) lv (.int x :: rest) S (ite (x = 0) X1 X2) := by
  obtain ⟨p, l, e, R, s, m, args, below, meth, c, A⟩ := κ
  intro H locs ls hP hD hS hl
  refine lv_if_eq hc.1 hc.2.1 hd ht (fun h => ?_) (fun h => ?_)
  · rw [if_pos h]
    exact kt h H locs ls hP hD hS hl
  · rw [if_neg h]
    exact kf h H locs ls hP hD hS hl
theorem g_ifne (hc : gC ω κ cc nL own ret rm) {x : Int32} {off : Int} {tgt : Nat} {X1 X2 : ρ × gSt} {dc : Decidable (x = 0)} (hd : decode cc pc = .ok (.ifCond .ne off, 3)) (ht : (pc : Int) + off = (tgt : Int)) (kt : x = 0 → gG ω κ nL out (pc + 3) lv (rest) S X1) (kf : ¬ x = 0 → gG ω κ nL out (tgt) lv (rest) S X2) : gG ω κ nL out (pc) lv (.int x :: rest) S (ite (x = 0) X1 X2) := by
  obtain ⟨p, l, e, R, s, m, args, below, meth, c, A⟩ := κ
  intro H locs ls hP hD hS hl
  refine lv_if_ne hc.1 hc.2.1 hd ht (fun h => ?_) (fun h => ?_)
  · rw [if_neg h]
    exact kf h H locs ls hP hD hS hl
  · rw [if_pos h]
    exact kt h H locs ls hP hD hS hl
theorem g_iflt (hc : gC ω κ cc nL own ret rm) {x : Int32} {off : Int} {tgt : Nat} {X1 X2 : ρ × gSt} {dc : Decidable (x < 0)} (hd : decode cc pc = .ok (.ifCond .lt off, 3)) (ht : (pc : Int) + off = (tgt : Int)) (kt : x < 0 → gG ω κ nL out (tgt) lv (rest) S X1) (kf : ¬ x < 0 → gG ω κ nL out (pc + 3) lv (rest) S X2) : gG ω κ nL out (pc) lv (.int x :: rest) S (ite (x < 0) X1 X2) := by
  obtain ⟨p, l, e, R, s, m, args, below, meth, c, A⟩ := κ
  intro H locs ls hP hD hS hl
  refine lv_if_lt hc.1 hc.2.1 hd ht (fun h => ?_) (fun h => ?_)
  · rw [if_pos h]
    exact kt h H locs ls hP hD hS hl
  · rw [if_neg h]
    exact kf h H locs ls hP hD hS hl
theorem g_ifge (hc : gC ω κ cc nL own ret rm) {x : Int32} {off : Int} {tgt : Nat} {X1 X2 : ρ × gSt} {dc : Decidable (0 ≤ x)} (hd : decode cc pc = .ok (.ifCond .ge off, 3)) (ht : (pc : Int) + off = (tgt : Int)) (kt : 0 ≤ x → gG ω κ nL out (tgt) lv (rest) S X1) (kf : ¬ 0 ≤ x → gG ω κ nL out (pc + 3) lv (rest) S X2) : gG ω κ nL out (pc) lv (.int x :: rest) S (ite (0 ≤ x) X1 X2) := by
  obtain ⟨p, l, e, R, s, m, args, below, meth, c, A⟩ := κ
  intro H locs ls hP hD hS hl
  refine lv_if_ge hc.1 hc.2.1 hd ht (fun h => ?_) (fun h => ?_)
  · rw [if_pos h]
    exact kt h H locs ls hP hD hS hl
  · rw [if_neg h]
    exact kf h H locs ls hP hD hS hl
theorem g_ifgt (hc : gC ω κ cc nL own ret rm) {x : Int32} {off : Int} {tgt : Nat} {X1 X2 : ρ × gSt} {dc : Decidable (0 < x)} (hd : decode cc pc = .ok (.ifCond .gt off, 3)) (ht : (pc : Int) + off = (tgt : Int)) (kt : 0 < x → gG ω κ nL out (tgt) lv (rest) S X1) (kf : ¬ 0 < x → gG ω κ nL out (pc + 3) lv (rest) S X2) : gG ω κ nL out (pc) lv (.int x :: rest) S (ite (0 < x) X1 X2) := by
  obtain ⟨p, l, e, R, s, m, args, below, meth, c, A⟩ := κ
  intro H locs ls hP hD hS hl
  refine lv_if_gt hc.1 hc.2.1 hd ht (fun h => ?_) (fun h => ?_)
  · rw [if_pos h]
    exact kt h H locs ls hP hD hS hl
  · rw [if_neg h]
    exact kf h H locs ls hP hD hS hl
theorem g_ifle (hc : gC ω κ cc nL own ret rm) {x : Int32} {off : Int} {tgt : Nat} {X1 X2 : ρ × gSt} {dc : Decidable (x ≤ 0)} (hd : decode cc pc = .ok (.ifCond .le off, 3)) (ht : (pc : Int) + off = (tgt : Int)) (kt : x ≤ 0 → gG ω κ nL out (tgt) lv (rest) S X1) (kf : ¬ x ≤ 0 → gG ω κ nL out (pc + 3) lv (rest) S X2) : gG ω κ nL out (pc) lv (.int x :: rest) S (ite (x ≤ 0) X1 X2) := by
  obtain ⟨p, l, e, R, s, m, args, below, meth, c, A⟩ := κ
  intro H locs ls hP hD hS hl
  refine lv_if_le hc.1 hc.2.1 hd ht (fun h => ?_) (fun h => ?_)
  · rw [if_pos h]
    exact kt h H locs ls hP hD hS hl
  · rw [if_neg h]
    exact kf h H locs ls hP hD hS hl
theorem g_icmpeq (hc : gC ω κ cc nL own ret rm) {x y : Int32} {off : Int} {tgt : Nat} {X1 X2 : ρ × gSt} {dc : Decidable (x = y)} (hd : decode cc pc = .ok (.if_icmp .eq off, 3)) (ht : (pc : Int) + off = (tgt : Int)) (kt : x = y → gG ω κ nL out (tgt) lv (rest) S X1) (kf : ¬ x = y → gG ω κ nL out (pc + 3) lv (rest) S X2) : gG ω κ nL out (pc) lv (.int y :: .int x :: rest) S (ite (x = y) X1 X2) := by
  obtain ⟨p, l, e, R, s, m, args, below, meth, c, A⟩ := κ
  intro H locs ls hP hD hS hl
  refine lv_icmp_eq hc.1 hc.2.1 hd ht (fun h => ?_) (fun h => ?_)
  · rw [if_pos h]
    exact kt h H locs ls hP hD hS hl
  · rw [if_neg h]
    exact kf h H locs ls hP hD hS hl
theorem g_icmpne (hc : gC ω κ cc nL own ret rm) {x y : Int32} {off : Int} {tgt : Nat} {X1 X2 : ρ × gSt} {dc : Decidable (x = y)} (hd : decode cc pc = .ok (.if_icmp .ne off, 3)) (ht : (pc : Int) + off = (tgt : Int)) (kt : x = y → gG ω κ nL out (pc + 3) lv (rest) S X1) (kf : ¬ x = y → gG ω κ nL out (tgt) lv (rest) S X2) : gG ω κ nL out (pc) lv (.int y :: .int x :: rest) S (ite (x = y) X1 X2) := by
  obtain ⟨p, l, e, R, s, m, args, below, meth, c, A⟩ := κ
  intro H locs ls hP hD hS hl
  refine lv_icmp_ne hc.1 hc.2.1 hd ht (fun h => ?_) (fun h => ?_)
  · rw [if_neg h]
    exact kf h H locs ls hP hD hS hl
  · rw [if_pos h]
    exact kt h H locs ls hP hD hS hl
theorem g_icmplt (hc : gC ω κ cc nL own ret rm) {x y : Int32} {off : Int} {tgt : Nat} {X1 X2 : ρ × gSt} {dc : Decidable (x < y)} (hd : decode cc pc = .ok (.if_icmp .lt off, 3)) (ht : (pc : Int) + off = (tgt : Int)) (kt : x < y → gG ω κ nL out (tgt) lv (rest) S X1) (kf : ¬ x < y → gG ω κ nL out (pc + 3) lv (rest) S X2) : gG ω κ nL out (pc) lv (.int y :: .int x :: rest) S (ite (x < y) X1 X2) := by
  obtain ⟨p, l, e, R, s, m, args, below, meth, c, A⟩ := κ
  intro H locs ls hP hD hS hl
  refine lv_icmp_lt hc.1 hc.2.1 hd ht (fun h => ?_) (fun h => ?_)
  · rw [if_pos h]
    exact kt h H locs ls hP hD hS hl
  · rw [if_neg h]
    exact kf h H locs ls hP hD hS hl
theorem g_icmpge (hc : gC ω κ cc nL own ret rm) {x y : Int32} {off : Int} {tgt : Nat} {X1 X2 : ρ × gSt} {dc : Decidable (y ≤ x)} (hd : decode cc pc = .ok (.if_icmp .ge off, 3)) (ht : (pc : Int) + off = (tgt : Int)) (kt : y ≤ x → gG ω κ nL out (tgt) lv (rest) S X1) (kf : ¬ y ≤ x → gG ω κ nL out (pc + 3) lv (rest) S X2) : gG ω κ nL out (pc) lv (.int y :: .int x :: rest) S (ite (y ≤ x) X1 X2) := by
  obtain ⟨p, l, e, R, s, m, args, below, meth, c, A⟩ := κ
  intro H locs ls hP hD hS hl
  refine lv_icmp_ge hc.1 hc.2.1 hd ht (fun h => ?_) (fun h => ?_)
  · rw [if_pos h]
    exact kt h H locs ls hP hD hS hl
  · rw [if_neg h]
    exact kf h H locs ls hP hD hS hl
theorem g_icmpgt (hc : gC ω κ cc nL own ret rm) {x y : Int32} {off : Int} {tgt : Nat} {X1 X2 : ρ × gSt} {dc : Decidable (y < x)} (hd : decode cc pc = .ok (.if_icmp .gt off, 3)) (ht : (pc : Int) + off = (tgt : Int)) (kt : y < x → gG ω κ nL out (tgt) lv (rest) S X1) (kf : ¬ y < x → gG ω κ nL out (pc + 3) lv (rest) S X2) : gG ω κ nL out (pc) lv (.int y :: .int x :: rest) S (ite (y < x) X1 X2) := by
  obtain ⟨p, l, e, R, s, m, args, below, meth, c, A⟩ := κ
  intro H locs ls hP hD hS hl
  refine lv_icmp_gt hc.1 hc.2.1 hd ht (fun h => ?_) (fun h => ?_)
  · rw [if_pos h]
    exact kt h H locs ls hP hD hS hl
  · rw [if_neg h]
    exact kf h H locs ls hP hD hS hl
theorem g_icmple (hc : gC ω κ cc nL own ret rm) {x y : Int32} {off : Int} {tgt : Nat} {X1 X2 : ρ × gSt} {dc : Decidable (x ≤ y)} (hd : decode cc pc = .ok (.if_icmp .le off, 3)) (ht : (pc : Int) + off = (tgt : Int)) (kt : x ≤ y → gG ω κ nL out (tgt) lv (rest) S X1) (kf : ¬ x ≤ y → gG ω κ nL out (pc + 3) lv (rest) S X2) : gG ω κ nL out (pc) lv (.int y :: .int x :: rest) S (ite (x ≤ y) X1 X2) := by
  obtain ⟨p, l, e, R, s, m, args, below, meth, c, A⟩ := κ
  intro H locs ls hP hD hS hl
  refine lv_icmp_le hc.1 hc.2.1 hd ht (fun h => ?_) (fun h => ?_)
  · rw [if_pos h]
    exact kt h H locs ls hP hD hS hl
  · rw [if_neg h]
    exact kf h H locs ls hP hD hS hl
theorem g_tsw (hc : gC ω κ cc nL own ret rm) {x : Int32} (v : Int32) {dflt lo hi off : Int} {offs : Array Int} {len tgt : Nat} {X1 X2 : ρ × gSt} {dc : Decidable (x = v)} (hd : decode cc pc = .ok (.tableswitch dflt lo hi offs, len)) (hv : ¬ v.toInt < lo ∧ ¬ hi < v.toInt ∧ offs[(v.toInt - lo).toNat]? = some off) (ht : (pc : Int) + off = (tgt : Int)) (kt : x = v → gG ω κ nL out tgt lv rest S X1) (kf : ¬ x = v → gG ω κ nL out pc lv (.int x :: rest) S X2) : gG ω κ nL out pc lv (.int x :: rest) S (ite (x = v) X1 X2) := by
  obtain ⟨p, l, e, R, s, m, args, below, meth, c, A⟩ := κ
  intro H locs ls hP hD hS hl
  by_cases h : x = v
  · rw [if_pos h]
    have h2 := h
    subst h
    exact lv_tableIn hc.1 hc.2.1 hd hv.1 hv.2.1 hv.2.2 ht (kt h2 H locs ls hP hD hS hl)
  · rw [if_neg h]
    exact kf h H locs ls hP hD hS hl
theorem g_tswd (hc : gC ω κ cc nL own ret rm) {x : Int32} {dflt lo hi : Int} {offs : Array Int} {len tgt : Nat} (hd : decode cc pc = .ok (.tableswitch dflt lo hi offs, len)) (hv : x.toInt < lo ∨ hi < x.toInt) (ht : (pc : Int) + dflt = (tgt : Int)) (k : gG ω κ nL out tgt lv rest S X) : gG ω κ nL out pc lv (.int x :: rest) S X := by
  obtain ⟨p, l, e, R, s, m, args, below, meth, c, A⟩ := κ
  intro H locs ls hP hD hS hl
  exact lv_tableOut hc.1 hc.2.1 hd hv ht (k H locs ls hP hD hS hl)
theorem g_lsw (hc : gC ω κ cc nL own ret rm) {x : Int32} (v : Int32) {dflt off : Int} {ps : Array (Int × Int)} {len tgt : Nat} {X1 X2 : ρ × gSt} {dc : Decidable (x = v)} (hd : decode cc pc = .ok (.lookupswitch dflt ps, len)) (hp : (ps.toList.zip (ps.toList.drop 1)).all (fun (a, next) => a.1 < next.1) = true) (hv : Op.lookupswitch.offset ps.toList dflt v.toInt = off) (ht : (pc : Int) + off = (tgt : Int)) (kt : x = v → gG ω κ nL out tgt lv rest S X1) (kf : ¬ x = v → gG ω κ nL out pc lv (.int x :: rest) S X2) : gG ω κ nL out pc lv (.int x :: rest) S (ite (x = v) X1 X2) := by
  obtain ⟨p, l, e, R, s, m, args, below, meth, c, A⟩ := κ
  intro H locs ls hP hD hS hl
  by_cases h : x = v
  · rw [if_pos h]
    have h2 := h
    subst h
    exact lv_lookup hc.1 hc.2.1 hd hp hv ht (kt h2 H locs ls hP hD hS hl)
  · rw [if_neg h]
    exact kf h H locs ls hP hD hS hl
theorem g_lswd (hc : gC ω κ cc nL own ret rm) {x : Int32} {dflt off : Int} {ps : Array (Int × Int)} {len tgt : Nat} (hd : decode cc pc = .ok (.lookupswitch dflt ps, len)) (hp : (ps.toList.zip (ps.toList.drop 1)).all (fun (a, next) => a.1 < next.1) = true) (hv : Op.lookupswitch.offset ps.toList dflt x.toInt = off) (ht : (pc : Int) + off = (tgt : Int)) (k : gG ω κ nL out tgt lv rest S X) : gG ω κ nL out pc lv (.int x :: rest) S X := by
  obtain ⟨p, l, e, R, s, m, args, below, meth, c, A⟩ := κ
  intro H locs ls hP hD hS hl
  exact lv_lookup hc.1 hc.2.1 hd hp hv ht (k H locs ls hP hD hS hl)
theorem g_get (hc : gC ω κ cc nL own ret rm) {ref C : String} {T : u_T} {N ci i a : Nat} {v : Value} {fs : List Value} (q0 k : Nat) (hin : ∀ w ∈ u_ws C T N, w ∈ WT) (hm : Cond.fieldLink own i ref (T k).2.1 (T k).2.2.1 ∈ WT) (hr : (T k).1 = ref ∨ Cond.sameField ref (T k).1 (T k).2.1 (T k).2.2.1 ∈ WT) (hk : k < N) (he : (ω.1 S)[q0]? = some (a, .inr (ci, fs))) (hcl : vwCl[ci]? = some (C, T, N)) (hv : fs[k]? = some v) (hd : decode cc pc = .ok (.getfield i, 3)) (kk : gG ω κ nL out (pc + 3) lv (v :: rest) S X) : gG ω κ nL out pc lv (.ref a :: rest) S X := by
  obtain ⟨p, l, e, R, s, m, args, below, meth, c, A⟩ := κ
  intro H locs ls hP hD hS hl
  have hsm : ∀ x, s.fieldFound? (T k).1 (T k).2.1 (T k).2.2.1 = some x → s.fieldFound? ref (T k).2.1 (T k).2.2.1 = some x := fun x hx => hr.elim (fun h => h ▸ hx) (fun h => u_same (hc.2.2.2.2.1 _ h) x hx)
  exact va_get hc.1 hc.2.1 hc.2.2.2.2.1 hin hc.2.2.2.1 hc.2.2.2.2.2.1 hP q0 he hcl k hk (hc.2.2.2.2.1 _ hm) hsm hv hd (kk H locs ls hP hD hS hl)
theorem g_getN (hc : gC ω κ cc nL own ret rm) {ref C host : String} {T : u_T} {N ci i a : Nat} {v : Value} {fs : List Value} (q0 k : Nat) (hin : ∀ w ∈ u_ws C T N, w ∈ WT) (hm : ∀ (A : Nat → Prop) (U : State) (H : Heap), ω.2.2.2 A U H → va_Nw (.fieldLinkNest own i ref (T k).2.1 (T k).2.2.1 host) U) (hr : (T k).1 = ref ∨ Cond.sameField ref (T k).1 (T k).2.1 (T k).2.2.1 ∈ WT) (hk : k < N) (he : (ω.1 S)[q0]? = some (a, .inr (ci, fs))) (hcl : vwCl[ci]? = some (C, T, N)) (hv : fs[k]? = some v) (hd : decode cc pc = .ok (.getfield i, 3)) (kk : gG ω κ nL out (pc + 3) lv (v :: rest) S X) : gG ω κ nL out pc lv (.ref a :: rest) S X := by
  obtain ⟨p, l, e, R, s, m, args, below, meth, c, A⟩ := κ
  intro H locs ls hP hD hS hl
  have hsm : ∀ x, s.fieldFound? (T k).1 (T k).2.1 (T k).2.2.1 = some x → s.fieldFound? ref (T k).2.1 (T k).2.2.1 = some x := fun x hx => hr.elim (fun h => h ▸ hx) (fun h => u_same (hc.2.2.2.2.1 _ h) x hx)
  exact va_getN hc.1 hc.2.1 hc.2.2.2.2.1 hin hc.2.2.2.1 hc.2.2.2.2.2.1 hP q0 he hcl k hk (va_Nw.use rfl (hm _ _ _ hc.2.2.2.2.2.2.2.2.2.2.1)) hsm hv hd (kk H locs ls hP hD hS hl)
theorem g_put (hc : gC ω κ cc nL own ret rm) {ref C : String} {T : u_T} {N ci i a : Nat} {v : Value} {fs : List Value} {ty0 : Nat → FieldType} {ty : FieldType} {S2 : gSt} {F : gSt → ρ × gSt} (q0 k : Nat) (hin : ∀ w ∈ u_ws C T N, w ∈ WT) (hty : ∀ k, k < N → parseFieldDescriptor (T k).2.2.1 = some (ty0 k)) (hnm : ∀ a, a < N → ∀ b, b < N → a ≠ b → (T a).2.1 ≠ (T b).2.1) (hm : Cond.fieldLink own i ref (T k).2.1 (T k).2.2.1 ∈ WT) (hr : (T k).1 = ref ∨ Cond.sameField ref (T k).1 (T k).2.1 (T k).2.2.1 ∈ WT) (hk : k < N) (he : (ω.1 S)[q0]? = some (a, .inr (ci, fs))) (hcl : vwCl[ci]? = some (C, T, N)) (hfin : (T k).2.2.2 = false) (hty2 : ty0 k = ty) (hn : narrow ty v = v) (hfit : fits ty v = true) (hlf : k < fs.length) (hw : (ω.1 S).set q0 (a, .inr (ci, fs.set k v)) = ω.1 S2) (hd : decode cc pc = .ok (.putfield i, 3)) (kk : ∀ S1 : gSt, S1 = S2 → gG ω κ nL out (pc + 3) lv rest S1 (F S1)) : gG ω κ nL out pc lv (v :: .ref a :: rest) S (gL S2 F) := by
  obtain ⟨p, l, e, R, s, m, args, below, meth, c, A⟩ := κ
  intro H locs ls hP hD hS hl
  have hsm : ∀ x, s.fieldFound? (T k).1 (T k).2.1 (T k).2.2.1 = some x → s.fieldFound? ref (T k).2.1 (T k).2.2.1 = some x := fun x hx => hr.elim (fun h => h ▸ hx) (fun h => u_same (hc.2.2.2.2.1 _ h) x hx)
  refine va_put hc.1 hc.2.1 hc.2.2.2.2.1 hin ty0 hty hnm hc.2.2.2.1 hc.2.2.2.2.2.1 hP hD hS q0 he hcl k hk (hc.2.2.2.2.1 _ hm) hsm hfin ((hty k hk).trans (congrArg some hty2)) hn hfit hlf hd (fun H1 locs1 hP1 hD1 hS1 => ?_)
  rw [hw] at hP1 hD1
  exact kk S2 rfl H1 locs1 ls hP1 hD1 hS1 hl
theorem g_iald (hc : gC ω κ cc nL own ret rm) {cA : ClassId} {n a : Nat} {f : Nat → Int32} {i : Int32} (q0 t0 : Nat) (he : (ω.1 S)[q0]? = some (a, .inl (cA, n, .inl f))) (ht : ω.2.2.1[t0]? = some (cA, .int)) (hin : vp_in i n) (hd : decode cc pc = .ok (.iaload, 1)) (kk : gG ω κ nL out (pc + 1) lv (.int (f i.toNatClampNeg) :: rest) S X) : gG ω κ nL out pc lv (.int i :: .ref a :: rest) S X := by
  obtain ⟨p, l, e, R, s, m, args, below, meth, c, A⟩ := κ
  intro H locs ls hP hD hS hl
  exact va_iald hc.1 hc.2.1 hc.2.2.2.2.2.1 hP q0 t0 he ht hin hd (kk H locs ls hP hD hS hl)
theorem g_iast (hc : gC ω κ cc nL own ret rm) {cA : ClassId} {n a : Nat} {f : Nat → Int32} {i x : Int32} {S2 : gSt} {F : gSt → ρ × gSt} (q0 t0 : Nat) (he : (ω.1 S)[q0]? = some (a, .inl (cA, n, .inl f))) (ht : ω.2.2.1[t0]? = some (cA, .int)) (hin : vp_in i n) (hw : (ω.1 S).set q0 (a, .inl (cA, n, .inl (upd f i.toNatClampNeg x))) = ω.1 S2) (hd : decode cc pc = .ok (.iastore, 1)) (kk : ∀ S1 : gSt, S1 = S2 → gG ω κ nL out (pc + 1) lv rest S1 (F S1)) : gG ω κ nL out pc lv (.int x :: .int i :: .ref a :: rest) S (gL S2 F) := by
  obtain ⟨p, l, e, R, s, m, args, below, meth, c, A⟩ := κ
  intro H locs ls hP hD hS hl
  refine va_iast hc.1 hc.2.1 hc.2.2.2.2.2.1 hP hD hS q0 t0 he ht hin hd (fun H1 locs1 hP1 hD1 hS1 => ?_)
  rw [hw] at hP1 hD1
  exact kk S2 rfl H1 locs1 ls hP1 hD1 hS1 hl
theorem g_zald (hc : gC ω κ cc nL own ret rm) {cA : ClassId} {n a : Nat} {f : Nat → Int32} {i : Int32} (q0 t0 : Nat) (he : (ω.1 S)[q0]? = some (a, .inl (cA, n, .inl f))) (ht : ω.2.2.1[t0]? = some (cA, .boolean)) (hin : vp_in i n) (hd : decode cc pc = .ok (.baload, 1)) (kk : gG ω κ nL out (pc + 1) lv (.int (f i.toNatClampNeg) :: rest) S X) : gG ω κ nL out pc lv (.int i :: .ref a :: rest) S X := by
  obtain ⟨p, l, e, R, s, m, args, below, meth, c, A⟩ := κ
  intro H locs ls hP hD hS hl
  exact va_zald hc.1 hc.2.1 hc.2.2.2.2.2.1 hP q0 t0 he ht hin hd (kk H locs ls hP hD hS hl)
theorem g_zast (hc : gC ω κ cc nL own ret rm) {cA : ClassId} {n a : Nat} {f : Nat → Int32} {i x : Int32} {S2 : gSt} {F : gSt → ρ × gSt} (q0 t0 : Nat) (he : (ω.1 S)[q0]? = some (a, .inl (cA, n, .inl f))) (ht : ω.2.2.1[t0]? = some (cA, .boolean)) (hin : vp_in i n) (hx : vp_nar .boolean x = x) (hw : (ω.1 S).set q0 (a, .inl (cA, n, .inl (upd f i.toNatClampNeg x))) = ω.1 S2) (hd : decode cc pc = .ok (.bastore, 1)) (kk : ∀ S1 : gSt, S1 = S2 → gG ω κ nL out (pc + 1) lv rest S1 (F S1)) : gG ω κ nL out pc lv (.int x :: .int i :: .ref a :: rest) S (gL S2 F) := by
  obtain ⟨p, l, e, R, s, m, args, below, meth, c, A⟩ := κ
  intro H locs ls hP hD hS hl
  refine va_zast hc.1 hc.2.1 hc.2.2.2.2.2.1 hP hD hS q0 t0 he ht hin hd (fun H1 locs1 hP1 hD1 hS1 => ?_)
  rw [hx, hw] at hP1 hD1
  exact kk S2 rfl H1 locs1 ls hP1 hD1 hS1 hl
theorem g_gets (hc : gC ω κ cc nL own ret rm) {C n d ref : String} {i t : Nat} (hZ : ∀ (A : Nat → Prop) (U : State) (H : Heap), ω.2.2.2 A U H → va_Z C n d (.ref t) A U H) (hm : Cond.fieldLink own i ref n d ∈ WT) (hr : C = ref) (hd : decode cc pc = .ok (.getstatic i, 3)) (kk : gG ω κ nL out (pc + 3) lv (.ref t :: rest) S X) : gG ω κ nL out pc lv rest S X := by
  obtain ⟨p, l, e, R, s, m, args, below, meth, c, A⟩ := κ
  intro H locs ls hP hD hS hl
  subst hr
  exact va_gets hc.1 hc.2.1 (hZ _ _ _ hc.2.2.2.2.2.2.2.2.2.2.1) hS hc.2.2.2.1 (hc.2.2.2.2.1 _ hm) (fun _ h => h) hd (kk H locs ls hP hD hS hl)
theorem g_ti (hc : gC ω κ cc nL own ret rm) {t N : Nat} {f : Nat → Value} {i : Int32} {v : Value} (hT : ∀ (A : Nat → Prop) (U : State) (H : Heap), ω.2.2.2 A U H → va_T .int t N f A U H) (hin : vp_in i N) (hv : f i.toNatClampNeg = v) (hd : decode cc pc = .ok (.iaload, 1)) (kk : gG ω κ nL out (pc + 1) lv (v :: rest) S X) : gG ω κ nL out pc lv (.int i :: .ref t :: rest) S X := by
  obtain ⟨p, l, e, R, s, m, args, below, meth, c, A⟩ := κ
  intro H locs ls hP hD hS hl
  exact va_ti hc.1 hc.2.1 (hT _ _ _ hc.2.2.2.2.2.2.2.2.2.2.1) hS hin hv hd (kk H locs ls hP hD hS hl)
theorem g_mmin (hc : gC ω κ cc nL own ret rm) {x y : Int32} {i : Nat} (h1 : Cond.methodLink own i Lib.Math.min.name ∈ WT) (h2 : Cond.static Lib.Math.min.name ∈ WT) (h3 : Cond.initialized "java/lang/Math" ∈ WT) (h4 : Cond.code Lib.Math.min.name Lib.Math.min.code 2 (some .int) ∈ WT) (hR : 1 ≤ rm.frames ∧ (rest.map fun v => v.category).sum + 13 ≤ rm.locals) (hd : decode cc pc = .ok (.invokestatic i, 3)) (kk : gG ω κ nL out (pc + 3) lv (.int (if y < x then y else x) :: rest) S X) : gG ω κ nL out pc lv (.int y :: .int x :: rest) S X := by
  obtain ⟨p, l, e, R, s, m, args, below, meth, c, A⟩ := κ
  intro H locs ls hP hD hS hl
  obtain ⟨hx, hb, hml, hown, hts, hK, hA, hr, hlk, rfl, hZ, hz⟩ := hc
  exact va_mmin hx hb (hml.trans hl.1.symm) hown (hts _ h1) (hts _ h2) (hts _ h3) (hts _ h4) hR.1 hR.2 (Nat.zero_le _) (Nat.zero_le _) hd (kk H locs ls hP hD hS hl)
theorem g_iret {S : gSt} {v : Int32} (hc : gC ω κ cc nL own (some .int) rm) (hd : decode cc pc = .ok (.ireturn, 1)) : gG ω κ nL oI pc lv [.int v] S (v, S) := by
  obtain ⟨p, l, e, R, s, m, args, below, meth, c, A⟩ := κ
  intro H locs ls hP hD hS hl
  exact W.iret hc.1 hc.2.1 hc.2.2.2.2.2.2.2.1 (fun t ht hW => ⟨⟨rfl, by rw [ht]; exact hP, va_K.moved hW.alike hc.2.2.2.2.2.1, hD⟩, hS.F ht⟩) hS.2.2 hd hc.2.2.2.2.2.2.2.2.1
theorem g_zret {S : gSt} {b : Bool} {v : Int32} (hc : gC ω κ cc nL own (some .boolean) rm) (hv : bI b = v) (hd : decode cc pc = .ok (.ireturn, 1)) : gG ω κ nL oZ pc lv [.int v] S (b, S) := by
  subst hv
  obtain ⟨p, l, e, R, s, m, args, below, meth, c, A⟩ := κ
  intro H locs ls hP hD hS hl
  exact W.zret hc.1 hc.2.1 hc.2.2.2.2.2.2.2.1 (bI_nar b) (fun t ht hW => ⟨⟨rfl, by rw [ht]; exact hP, va_K.moved hW.alike hc.2.2.2.2.2.1, hD⟩, hS.F ht⟩) hS.2.2 hd hc.2.2.2.2.2.2.2.2.1
theorem g_vret {S : gSt} (hc : gC ω κ cc nL own none rm) (hd : decode cc pc = .ok (.return_, 1)) : gG ω κ nL oV pc lv [] S ((), S) := by
  obtain ⟨p, l, e, R, s, m, args, below, meth, c, A⟩ := κ
  intro H locs ls hP hD hS hl
  exact W.vret hc.1 hc.2.1 hc.2.2.2.2.2.2.2.1 (fun t ht hW => ⟨⟨rfl, by rw [ht]; exact hP, va_K.moved hW.alike hc.2.2.2.2.2.1, hD⟩, hS.F ht⟩) hS.2.2 hd hc.2.2.2.2.2.2.2.2.1
/-- behind a call -/
theorem g_back {o : Option Value} {S2 : gSt} {st : List Value} {p : Program} {l : Launch} {e : Env} {R : Room} {s : State} {m : MethodId} {args : Array Value} {below : List Frame} {meth : Method} {c : Code} {A : Nat → Prop} {H : Heap} {locs : List Loc} {ls : Array Slot} {a : Array Value}
    (hA : ∀ q, s.heap.size ≤ q → A q) (hD : va_D A (ω.1 S)) (hS : va_S A s.heap H locs) (hl : lv_has ls nL lv)
    (run : va_Run p l e R s m args below meth c H locs 0 0 0 0 (F0 m pc ls st) rest (gQ ω o S2 (va_A (ω.1 S) H.size) a) (va_A (ω.1 S) H.size))
    (kk : gG ω (p, l, e, R, s, m, args, below, meth, c, A) nL out (pc + 3) lv (o.toList ++ rest) S2 X) : W p l e R s m args below meth c H locs 0 0 (MQ below (gQ ω (out X.1) X.2 A) args s 0 0 A) (F0 m pc ls st) := by
  intro T hT Y
  obtain ⟨v, st₀, t, T', L, h0, X', hL, e1, e2, ⟨⟨hv, hP1, hK1, hD1⟩, hz, hk⟩, stp⟩ := run T hT Y
  cases hv
  have hF : ∀ q, va_A (ω.1 S) H.size q → A q := fun q h => h.elim (fun ⟨k, e, hk⟩ => hD.2 k (q, e) hk) (fun h => hA q (Nat.le_trans hS.1 h))
  rw [h0] at hz hk
  obtain ⟨t2, a1, b1⟩ := kk T'.heap (locs ++ L) ls (by rw [e1]; exact hP1) (hD1.weaken (fun k q _ h => hF q.1 h))
    ⟨Nat.le_trans hS.1 (by rw [e1]; exact hz), fun q h1 h2 => by rw [e1, hk q (Nat.lt_of_lt_of_le h1 hS.1) (fun z => h2 (hF q z))]; exact hS.2.1 q h1 h2, fun q hq => by
      rcases List.mem_append.mp hq with h | h
      · exact hS.2.2 q h
      · exact hF _ (hL q h)⟩ hl T' rfl X'
  exact ⟨t2, stp t2 a1, b1⟩
theorem g_pre {S : gSt} {s : State} {A : Nat → Prop} {H : Heap} {locs : List Loc} {av : List Value} (hz : gZok ω.2.2.2) (hK : va_K ω.2.1 vwCl ω.2.2.1 s) (hA : ∀ q, s.heap.size ≤ q → A q) (hZ : ω.2.2.2 A s s.heap) (hP : va_P ω.2.1 vwCl (ω.1 S) H) (hD : va_D A (ω.1 S)) (hS : va_S A s.heap H locs) : PreS s H (va_Pc av (gPre ω S H.size)) av := by
  have hF : ∀ q, va_A (ω.1 S) H.size q → A q := fun q h => h.elim (fun ⟨k, e, hk⟩ => hD.2 k (q, e) hk) (fun h => hA q (Nat.le_trans hS.1 h))
  refine ⟨fun a U g mk q => ?_, fun U hU hW => ⟨rfl, by rw [hU], by rw [hU]; exact hP, va_K.moved hW.alike hK, ⟨hD.1, fun _ _ _ => trivial⟩, ?_⟩⟩
  · obtain ⟨q0, q1, qP, qK, qD, qZ⟩ := q
    exact ⟨q0, q1, qP, va_K.moved (u := U) (U := U.calling g mk a) (Vm.Alike.refl U.vm) qK, qD, hz.1 _ U (U.calling g mk a) _ (State.WarmedH.refl U) qZ⟩
  · rw [hU]
    exact hz.2.2 A _ U H hF (hz.1 A s U H hW (hz.2.1 A s s.heap H hS.2.1 hZ))
theorem g_lv (ks : List Nat) {lv' : List (Nat × Value)} {st : List Value} (h : lv_pick lv ks = lv') (k : gG ω κ nL out pc lv' st S X) : gG ω κ nL out pc lv st S X := by
  obtain ⟨p, l, e, R, s, m, args, below, meth, c, A⟩ := κ
  intro H locs ls hP hD hS hl
  exact k H locs ls hP hD hS (lv_sub hl ks h)
theorem g_callVI (hc : gC ω κ cc nL own ret rm) (q0 : Nat) {y : MethodName} {rmy : Room} {by_ : ByteArray} {mL i b ci na : Nat} {rety : Option FieldType} {C : String} {T : u_T} {N : Nat} {fs st : List Value} {Pr : Int32 × gSt} {F : Int32 → gSt → ρ × gSt} (As : List Value) (hM : ∀ l, gMet l y by_ mL rety rmy ω (.ref b :: As) S (oI Pr.1) Pr.2) (h1 : Cond.methodLink own i y ∈ WT) (hg : g_callee C y by_ mL rety na) (hn : As.length = na) (hr0 : rmy.cells = 0 ∧ rmy.slots = 0)
    (hR : rmy.frames + 1 ≤ rm.frames ∧ 8 + (mL + 11) + rmy.locals ≤ rm.locals) (he : (ω.1 S)[q0]? = some (b, .inr (ci, fs))) (hcl : vwCl[ci]? = some (C, T, N)) (hst : st = As.reverse ++ .ref b :: rest) (hcat : (rest.map fun v => v.category).sum ≤ 8) (hd : decode cc pc = .ok (.invokevirtual i, 3))
    (kk : ∀ (r : Int32) (S1 : gSt), r = Pr.1 → S1 = Pr.2 → gG ω κ nL out (pc + 3) lv (.int r :: rest) S1 (F r S1)) : gG ω κ nL out pc lv st S (gB Pr F) := by
  obtain ⟨p, l, e, R, s, m, args, below, meth, c, A⟩ := κ
  intro H locs ls hP hD hS hl
  obtain ⟨hx, hb, hml, hown, hts, hK, hA, hr, hlk, rfl, hZ, hz⟩ := hc
  obtain ⟨hb1, hp1⟩ := g_pre (av := .ref b :: As) hz hK hA hZ hP hD hS
  exact g_back hA hD hS hl (va_runV (As := As) (rest := rest) ⟨hx, hb, hml, hown, hts⟩ (hM l H.size) (cwV na hts (g_inV h1 hg) rfl hr0.1 hr0.2 hg.1 hR) ⟨hb1, va_recv hK hP hcl he, hp1⟩ rfl hn hl.1 hst (by simpa [JFrame.monitorRoom] using hcat) hd ⟨Nat.zero_le _, Nat.zero_le _⟩) (kk Pr.1 Pr.2 rfl rfl)
theorem g_callUI (hc : gC ω κ cc nL own ret rm) (q0 : Nat) {x y : MethodName} {rmy : Room} {by_ : ByteArray} {mL i b ci na : Nat} {rety : Option FieldType} {C owner : String} {T : u_T} {N : Nat} {fs st : List Value} {Pr : Int32 × gSt} {F : Int32 → gSt → ρ × gSt} (As : List Value) (hM : ∀ l, gMet l y by_ mL rety rmy ω (.ref b :: As) S (oI Pr.1) Pr.2) (h1 : Cond.methodLink own i x ∈ WT) (h2 : Cond.sameMethod x.cls owner x.name x.desc ∈ WT) (h3 : Cond.selects C x y ∈ WT) (hg : g_calleeU owner x y by_ mL rety na) (hn : As.length = na) (hr0 : rmy.cells = 0 ∧ rmy.slots = 0)
    (hdec : ∀ (A : Nat → Prop) (U : State) (H : Heap), ω.2.2.2 A U H → va_Nw (.declares ⟨owner, x.name, x.desc⟩) U) (hR : rmy.frames + 1 ≤ rm.frames ∧ 8 + (mL + 11) + rmy.locals ≤ rm.locals) (he : (ω.1 S)[q0]? = some (b, .inr (ci, fs))) (hcl : vwCl[ci]? = some (C, T, N)) (hst : st = As.reverse ++ .ref b :: rest) (hcat : (rest.map fun v => v.category).sum ≤ 8) (hd : decode cc pc = .ok (.invokevirtual i, 3))
    (kk : ∀ (r : Int32) (S1 : gSt), r = Pr.1 → S1 = Pr.2 → gG ω κ nL out (pc + 3) lv (.int r :: rest) S1 (F r S1)) : gG ω κ nL out pc lv st S (gB Pr F) := by
  obtain ⟨p, l, e, R, s, m, args, below, meth, c, A⟩ := κ
  intro H locs ls hP hD hS hl
  obtain ⟨hx, hb, hml, hown, hts, hK, hA, hr, hlk, rfl, hZ, hz⟩ := hc
  obtain ⟨hb1, hp1⟩ := g_pre (av := .ref b :: As) hz hK hA hZ hP hD hS
  exact g_back hA hD hS hl (va_runU (As := As) (rest := rest) ⟨hx, hb, hml, hown, hts⟩ (hM l H.size) (va_cwA na hts (g_inU h1 h2 h3 hg) rfl hr0.1 hr0.2 (hdec _ _ _ hZ) hg.1 hR) ⟨hb1, va_recv hK hP hcl he, hp1⟩ rfl hn hl.1 hst (by simpa [JFrame.monitorRoom] using hcat) hd ⟨Nat.zero_le _, Nat.zero_le _⟩) (kk Pr.1 Pr.2 rfl rfl)
theorem g_callWI (hc : gC ω κ cc nL own ret rm) (q0 : Nat) {x y : MethodName} {rmy : Room} {by_ : ByteArray} {mL i b ci na : Nat} {rety : Option FieldType} {C owner : String} {T : u_T} {N : Nat} {fs st : List Value} {Pr : Int32 × gSt} {F : Int32 → gSt → ρ × gSt} (As : List Value) (hM : ∀ l, gMet l y by_ mL rety rmy ω (.ref b :: As) S (oI Pr.1) Pr.2) (h1 : Cond.methodLink own i x ∈ WT) (h2 : Cond.sameMethod x.cls owner x.name x.desc ∈ WT) (h3 : Cond.selects C x y ∈ WT) (hg : g_calleeU owner x y by_ mL rety na) (hn : As.length = na) (hr0 : rmy.cells = 0 ∧ rmy.slots = 0)
    (hyx : y = ⟨owner, x.name, x.desc⟩) (hR : rmy.frames + 1 ≤ rm.frames ∧ 8 + (mL + 11) + rmy.locals ≤ rm.locals) (he : (ω.1 S)[q0]? = some (b, .inr (ci, fs))) (hcl : vwCl[ci]? = some (C, T, N)) (hst : st = As.reverse ++ .ref b :: rest) (hcat : (rest.map fun v => v.category).sum ≤ 8) (hd : decode cc pc = .ok (.invokevirtual i, 3))
    (kk : ∀ (r : Int32) (S1 : gSt), r = Pr.1 → S1 = Pr.2 → gG ω κ nL out (pc + 3) lv (.int r :: rest) S1 (F r S1)) : gG ω κ nL out pc lv st S (gB Pr F) := by
  obtain ⟨p, l, e, R, s, m, args, below, meth, c, A⟩ := κ
  intro H locs ls hP hD hS hl
  obtain ⟨hx, hb, hml, hown, hts, hK, hA, hr, hlk, rfl, hZ, hz⟩ := hc
  obtain ⟨hb1, hp1⟩ := g_pre (av := .ref b :: As) hz hK hA hZ hP hD hS
  exact g_back hA hD hS hl (va_runU (As := As) (rest := rest) ⟨hx, hb, hml, hown, hts⟩ (hM l H.size) (va_cwU na hts (g_inU h1 h2 h3 hg) rfl hr0.1 hr0.2 hyx hg.1 hR) ⟨hb1, va_recv hK hP hcl he, hp1⟩ rfl hn hl.1 hst (by simpa [JFrame.monitorRoom] using hcat) hd ⟨Nat.zero_le _, Nat.zero_le _⟩) (kk Pr.1 Pr.2 rfl rfl)
theorem g_callSI (hc : gC ω κ cc nL own ret rm) {y : MethodName} {rmy : Room} {by_ : ByteArray} {mL i na : Nat} {rety : Option FieldType} {st : List Value} {Pr : Int32 × gSt} {F : Int32 → gSt → ρ × gSt} (As : List Value) (hM : ∀ l, gMet l y by_ mL rety rmy ω As S (oI Pr.1) Pr.2) (h1 : Cond.methodLink own i y ∈ WT) (hg : g_calleeS own y by_ mL rety na) (hn : As.length = na) (hr0 : rmy.cells = 0 ∧ rmy.slots = 0)
    (hR : rmy.frames + 1 ≤ rm.frames ∧ 8 + (mL + 11) + rmy.locals ≤ rm.locals) (hst : st = As.reverse ++ rest) (hcat : (rest.map fun v => v.category).sum ≤ 8) (hd : decode cc pc = .ok (.invokestatic i, 3))
    (kk : ∀ (r : Int32) (S1 : gSt), r = Pr.1 → S1 = Pr.2 → gG ω κ nL out (pc + 3) lv (.int r :: rest) S1 (F r S1)) : gG ω κ nL out pc lv st S (gB Pr F) := by
  obtain ⟨p, l, e, R, s, m, args, below, meth, c, A⟩ := κ
  intro H locs ls hP hD hS hl
  obtain ⟨hx, hb, hml, hown, hts, hK, hA, hr, hlk, rfl, hZ, hz⟩ := hc
  exact g_back hA hD hS hl (va_runS (As := As) (rest := rest) ⟨hx, hb, hml, hown, hts⟩ (hM l H.size) (cwS na hts (g_inS h1 hg) rfl hr0.1 hr0.2 hg.1 hR) (g_pre (av := As) hz hK hA hZ hP hD hS) rfl hn hl.1 hst (by simpa [JFrame.monitorRoom] using hcat) hd ⟨Nat.zero_le _, Nat.zero_le _⟩) (kk Pr.1 Pr.2 rfl rfl)
theorem g_callVZ (hc : gC ω κ cc nL own ret rm) (q0 : Nat) {y : MethodName} {rmy : Room} {by_ : ByteArray} {mL i b ci na : Nat} {rety : Option FieldType} {C : String} {T : u_T} {N : Nat} {fs st : List Value} {Pr : Bool × gSt} {F : Bool → gSt → ρ × gSt} (As : List Value) (hM : ∀ l, gMet l y by_ mL rety rmy ω (.ref b :: As) S (oZ Pr.1) Pr.2) (h1 : Cond.methodLink own i y ∈ WT) (hg : g_callee C y by_ mL rety na) (hn : As.length = na) (hr0 : rmy.cells = 0 ∧ rmy.slots = 0)
    (hR : rmy.frames + 1 ≤ rm.frames ∧ 8 + (mL + 11) + rmy.locals ≤ rm.locals) (he : (ω.1 S)[q0]? = some (b, .inr (ci, fs))) (hcl : vwCl[ci]? = some (C, T, N)) (hst : st = As.reverse ++ .ref b :: rest) (hcat : (rest.map fun v => v.category).sum ≤ 8) (hd : decode cc pc = .ok (.invokevirtual i, 3))
    (kk : ∀ (r : Bool) (S1 : gSt), r = Pr.1 → S1 = Pr.2 → gG ω κ nL out (pc + 3) lv (.int (bI r) :: rest) S1 (F r S1)) : gG ω κ nL out pc lv st S (gB Pr F) := by
  obtain ⟨p, l, e, R, s, m, args, below, meth, c, A⟩ := κ
  intro H locs ls hP hD hS hl
  obtain ⟨hx, hb, hml, hown, hts, hK, hA, hr, hlk, rfl, hZ, hz⟩ := hc
  obtain ⟨hb1, hp1⟩ := g_pre (av := .ref b :: As) hz hK hA hZ hP hD hS
  exact g_back hA hD hS hl (va_runV (As := As) (rest := rest) ⟨hx, hb, hml, hown, hts⟩ (hM l H.size) (cwV na hts (g_inV h1 hg) rfl hr0.1 hr0.2 hg.1 hR) ⟨hb1, va_recv hK hP hcl he, hp1⟩ rfl hn hl.1 hst (by simpa [JFrame.monitorRoom] using hcat) hd ⟨Nat.zero_le _, Nat.zero_le _⟩) (kk Pr.1 Pr.2 rfl rfl)
theorem g_callUZ (hc : gC ω κ cc nL own ret rm) (q0 : Nat) {x y : MethodName} {rmy : Room} {by_ : ByteArray} {mL i b ci na : Nat} {rety : Option FieldType} {C owner : String} {T : u_T} {N : Nat} {fs st : List Value} {Pr : Bool × gSt} {F : Bool → gSt → ρ × gSt} (As : List Value) (hM : ∀ l, gMet l y by_ mL rety rmy ω (.ref b :: As) S (oZ Pr.1) Pr.2) (h1 : Cond.methodLink own i x ∈ WT) (h2 : Cond.sameMethod x.cls owner x.name x.desc ∈ WT) (h3 : Cond.selects C x y ∈ WT) (hg : g_calleeU owner x y by_ mL rety na) (hn : As.length = na) (hr0 : rmy.cells = 0 ∧ rmy.slots = 0)
    (hdec : ∀ (A : Nat → Prop) (U : State) (H : Heap), ω.2.2.2 A U H → va_Nw (.declares ⟨owner, x.name, x.desc⟩) U) (hR : rmy.frames + 1 ≤ rm.frames ∧ 8 + (mL + 11) + rmy.locals ≤ rm.locals) (he : (ω.1 S)[q0]? = some (b, .inr (ci, fs))) (hcl : vwCl[ci]? = some (C, T, N)) (hst : st = As.reverse ++ .ref b :: rest) (hcat : (rest.map fun v => v.category).sum ≤ 8) (hd : decode cc pc = .ok (.invokevirtual i, 3))
    (kk : ∀ (r : Bool) (S1 : gSt), r = Pr.1 → S1 = Pr.2 → gG ω κ nL out (pc + 3) lv (.int (bI r) :: rest) S1 (F r S1)) : gG ω κ nL out pc lv st S (gB Pr F) := by
  obtain ⟨p, l, e, R, s, m, args, below, meth, c, A⟩ := κ
  intro H locs ls hP hD hS hl
  obtain ⟨hx, hb, hml, hown, hts, hK, hA, hr, hlk, rfl, hZ, hz⟩ := hc
  obtain ⟨hb1, hp1⟩ := g_pre (av := .ref b :: As) hz hK hA hZ hP hD hS
  exact g_back hA hD hS hl (va_runU (As := As) (rest := rest) ⟨hx, hb, hml, hown, hts⟩ (hM l H.size) (va_cwA na hts (g_inU h1 h2 h3 hg) rfl hr0.1 hr0.2 (hdec _ _ _ hZ) hg.1 hR) ⟨hb1, va_recv hK hP hcl he, hp1⟩ rfl hn hl.1 hst (by simpa [JFrame.monitorRoom] using hcat) hd ⟨Nat.zero_le _, Nat.zero_le _⟩) (kk Pr.1 Pr.2 rfl rfl)
theorem g_callWZ (hc : gC ω κ cc nL own ret rm) (q0 : Nat) {x y : MethodName} {rmy : Room} {by_ : ByteArray} {mL i b ci na : Nat} {rety : Option FieldType} {C owner : String} {T : u_T} {N : Nat} {fs st : List Value} {Pr : Bool × gSt} {F : Bool → gSt → ρ × gSt} (As : List Value) (hM : ∀ l, gMet l y by_ mL rety rmy ω (.ref b :: As) S (oZ Pr.1) Pr.2) (h1 : Cond.methodLink own i x ∈ WT) (h2 : Cond.sameMethod x.cls owner x.name x.desc ∈ WT) (h3 : Cond.selects C x y ∈ WT) (hg : g_calleeU owner x y by_ mL rety na) (hn : As.length = na) (hr0 : rmy.cells = 0 ∧ rmy.slots = 0)
    (hyx : y = ⟨owner, x.name, x.desc⟩) (hR : rmy.frames + 1 ≤ rm.frames ∧ 8 + (mL + 11) + rmy.locals ≤ rm.locals) (he : (ω.1 S)[q0]? = some (b, .inr (ci, fs))) (hcl : vwCl[ci]? = some (C, T, N)) (hst : st = As.reverse ++ .ref b :: rest) (hcat : (rest.map fun v => v.category).sum ≤ 8) (hd : decode cc pc = .ok (.invokevirtual i, 3))
    (kk : ∀ (r : Bool) (S1 : gSt), r = Pr.1 → S1 = Pr.2 → gG ω κ nL out (pc + 3) lv (.int (bI r) :: rest) S1 (F r S1)) : gG ω κ nL out pc lv st S (gB Pr F) := by
  obtain ⟨p, l, e, R, s, m, args, below, meth, c, A⟩ := κ
  intro H locs ls hP hD hS hl
  obtain ⟨hx, hb, hml, hown, hts, hK, hA, hr, hlk, rfl, hZ, hz⟩ := hc
  obtain ⟨hb1, hp1⟩ := g_pre (av := .ref b :: As) hz hK hA hZ hP hD hS
  exact g_back hA hD hS hl (va_runU (As := As) (rest := rest) ⟨hx, hb, hml, hown, hts⟩ (hM l H.size) (va_cwU na hts (g_inU h1 h2 h3 hg) rfl hr0.1 hr0.2 hyx hg.1 hR) ⟨hb1, va_recv hK hP hcl he, hp1⟩ rfl hn hl.1 hst (by simpa [JFrame.monitorRoom] using hcat) hd ⟨Nat.zero_le _, Nat.zero_le _⟩) (kk Pr.1 Pr.2 rfl rfl)
theorem g_callSZ (hc : gC ω κ cc nL own ret rm) {y : MethodName} {rmy : Room} {by_ : ByteArray} {mL i na : Nat} {rety : Option FieldType} {st : List Value} {Pr : Bool × gSt} {F : Bool → gSt → ρ × gSt} (As : List Value) (hM : ∀ l, gMet l y by_ mL rety rmy ω As S (oZ Pr.1) Pr.2) (h1 : Cond.methodLink own i y ∈ WT) (hg : g_calleeS own y by_ mL rety na) (hn : As.length = na) (hr0 : rmy.cells = 0 ∧ rmy.slots = 0)
    (hR : rmy.frames + 1 ≤ rm.frames ∧ 8 + (mL + 11) + rmy.locals ≤ rm.locals) (hst : st = As.reverse ++ rest) (hcat : (rest.map fun v => v.category).sum ≤ 8) (hd : decode cc pc = .ok (.invokestatic i, 3))
    (kk : ∀ (r : Bool) (S1 : gSt), r = Pr.1 → S1 = Pr.2 → gG ω κ nL out (pc + 3) lv (.int (bI r) :: rest) S1 (F r S1)) : gG ω κ nL out pc lv st S (gB Pr F) := by
  obtain ⟨p, l, e, R, s, m, args, below, meth, c, A⟩ := κ
  intro H locs ls hP hD hS hl
  obtain ⟨hx, hb, hml, hown, hts, hK, hA, hr, hlk, rfl, hZ, hz⟩ := hc
  exact g_back hA hD hS hl (va_runS (As := As) (rest := rest) ⟨hx, hb, hml, hown, hts⟩ (hM l H.size) (cwS na hts (g_inS h1 hg) rfl hr0.1 hr0.2 hg.1 hR) (g_pre (av := As) hz hK hA hZ hP hD hS) rfl hn hl.1 hst (by simpa [JFrame.monitorRoom] using hcat) hd ⟨Nat.zero_le _, Nat.zero_le _⟩) (kk Pr.1 Pr.2 rfl rfl)
theorem g_callVV (hc : gC ω κ cc nL own ret rm) (q0 : Nat) {y : MethodName} {rmy : Room} {by_ : ByteArray} {mL i b ci na : Nat} {rety : Option FieldType} {C : String} {T : u_T} {N : Nat} {fs st : List Value} {Pr : Unit × gSt} {F : Unit → gSt → ρ × gSt} (As : List Value) (hM : ∀ l, gMet l y by_ mL rety rmy ω (.ref b :: As) S (oV Pr.1) Pr.2) (h1 : Cond.methodLink own i y ∈ WT) (hg : g_callee C y by_ mL rety na) (hn : As.length = na) (hr0 : rmy.cells = 0 ∧ rmy.slots = 0)
    (hR : rmy.frames + 1 ≤ rm.frames ∧ 8 + (mL + 11) + rmy.locals ≤ rm.locals) (he : (ω.1 S)[q0]? = some (b, .inr (ci, fs))) (hcl : vwCl[ci]? = some (C, T, N)) (hst : st = As.reverse ++ .ref b :: rest) (hcat : (rest.map fun v => v.category).sum ≤ 8) (hd : decode cc pc = .ok (.invokevirtual i, 3))
    (kk : ∀ (r : Unit) (S1 : gSt), r = Pr.1 → S1 = Pr.2 → gG ω κ nL out (pc + 3) lv (rest) S1 (F r S1)) : gG ω κ nL out pc lv st S (gB Pr F) := by
  obtain ⟨p, l, e, R, s, m, args, below, meth, c, A⟩ := κ
  intro H locs ls hP hD hS hl
  obtain ⟨hx, hb, hml, hown, hts, hK, hA, hr, hlk, rfl, hZ, hz⟩ := hc
  obtain ⟨hb1, hp1⟩ := g_pre (av := .ref b :: As) hz hK hA hZ hP hD hS
  exact g_back hA hD hS hl (va_runV (As := As) (rest := rest) ⟨hx, hb, hml, hown, hts⟩ (hM l H.size) (cwV na hts (g_inV h1 hg) rfl hr0.1 hr0.2 hg.1 hR) ⟨hb1, va_recv hK hP hcl he, hp1⟩ rfl hn hl.1 hst (by simpa [JFrame.monitorRoom] using hcat) hd ⟨Nat.zero_le _, Nat.zero_le _⟩) (kk Pr.1 Pr.2 rfl rfl)
theorem g_callUV (hc : gC ω κ cc nL own ret rm) (q0 : Nat) {x y : MethodName} {rmy : Room} {by_ : ByteArray} {mL i b ci na : Nat} {rety : Option FieldType} {C owner : String} {T : u_T} {N : Nat} {fs st : List Value} {Pr : Unit × gSt} {F : Unit → gSt → ρ × gSt} (As : List Value) (hM : ∀ l, gMet l y by_ mL rety rmy ω (.ref b :: As) S (oV Pr.1) Pr.2) (h1 : Cond.methodLink own i x ∈ WT) (h2 : Cond.sameMethod x.cls owner x.name x.desc ∈ WT) (h3 : Cond.selects C x y ∈ WT) (hg : g_calleeU owner x y by_ mL rety na) (hn : As.length = na) (hr0 : rmy.cells = 0 ∧ rmy.slots = 0)
    (hdec : ∀ (A : Nat → Prop) (U : State) (H : Heap), ω.2.2.2 A U H → va_Nw (.declares ⟨owner, x.name, x.desc⟩) U) (hR : rmy.frames + 1 ≤ rm.frames ∧ 8 + (mL + 11) + rmy.locals ≤ rm.locals) (he : (ω.1 S)[q0]? = some (b, .inr (ci, fs))) (hcl : vwCl[ci]? = some (C, T, N)) (hst : st = As.reverse ++ .ref b :: rest) (hcat : (rest.map fun v => v.category).sum ≤ 8) (hd : decode cc pc = .ok (.invokevirtual i, 3))
    (kk : ∀ (r : Unit) (S1 : gSt), r = Pr.1 → S1 = Pr.2 → gG ω κ nL out (pc + 3) lv (rest) S1 (F r S1)) : gG ω κ nL out pc lv st S (gB Pr F) := by
  obtain ⟨p, l, e, R, s, m, args, below, meth, c, A⟩ := κ
  intro H locs ls hP hD hS hl
  obtain ⟨hx, hb, hml, hown, hts, hK, hA, hr, hlk, rfl, hZ, hz⟩ := hc
  obtain ⟨hb1, hp1⟩ := g_pre (av := .ref b :: As) hz hK hA hZ hP hD hS
  exact g_back hA hD hS hl (va_runU (As := As) (rest := rest) ⟨hx, hb, hml, hown, hts⟩ (hM l H.size) (va_cwA na hts (g_inU h1 h2 h3 hg) rfl hr0.1 hr0.2 (hdec _ _ _ hZ) hg.1 hR) ⟨hb1, va_recv hK hP hcl he, hp1⟩ rfl hn hl.1 hst (by simpa [JFrame.monitorRoom] using hcat) hd ⟨Nat.zero_le _, Nat.zero_le _⟩) (kk Pr.1 Pr.2 rfl rfl)
theorem g_callWV (hc : gC ω κ cc nL own ret rm) (q0 : Nat) {x y : MethodName} {rmy : Room} {by_ : ByteArray} {mL i b ci na : Nat} {rety : Option FieldType} {C owner : String} {T : u_T} {N : Nat} {fs st : List Value} {Pr : Unit × gSt} {F : Unit → gSt → ρ × gSt} (As : List Value) (hM : ∀ l, gMet l y by_ mL rety rmy ω (.ref b :: As) S (oV Pr.1) Pr.2) (h1 : Cond.methodLink own i x ∈ WT) (h2 : Cond.sameMethod x.cls owner x.name x.desc ∈ WT) (h3 : Cond.selects C x y ∈ WT) (hg : g_calleeU owner x y by_ mL rety na) (hn : As.length = na) (hr0 : rmy.cells = 0 ∧ rmy.slots = 0)
    (hyx : y = ⟨owner, x.name, x.desc⟩) (hR : rmy.frames + 1 ≤ rm.frames ∧ 8 + (mL + 11) + rmy.locals ≤ rm.locals) (he : (ω.1 S)[q0]? = some (b, .inr (ci, fs))) (hcl : vwCl[ci]? = some (C, T, N)) (hst : st = As.reverse ++ .ref b :: rest) (hcat : (rest.map fun v => v.category).sum ≤ 8) (hd : decode cc pc = .ok (.invokevirtual i, 3))
    (kk : ∀ (r : Unit) (S1 : gSt), r = Pr.1 → S1 = Pr.2 → gG ω κ nL out (pc + 3) lv (rest) S1 (F r S1)) : gG ω κ nL out pc lv st S (gB Pr F) := by
  obtain ⟨p, l, e, R, s, m, args, below, meth, c, A⟩ := κ
  intro H locs ls hP hD hS hl
  obtain ⟨hx, hb, hml, hown, hts, hK, hA, hr, hlk, rfl, hZ, hz⟩ := hc
  obtain ⟨hb1, hp1⟩ := g_pre (av := .ref b :: As) hz hK hA hZ hP hD hS
  exact g_back hA hD hS hl (va_runU (As := As) (rest := rest) ⟨hx, hb, hml, hown, hts⟩ (hM l H.size) (va_cwU na hts (g_inU h1 h2 h3 hg) rfl hr0.1 hr0.2 hyx hg.1 hR) ⟨hb1, va_recv hK hP hcl he, hp1⟩ rfl hn hl.1 hst (by simpa [JFrame.monitorRoom] using hcat) hd ⟨Nat.zero_le _, Nat.zero_le _⟩) (kk Pr.1 Pr.2 rfl rfl)
theorem g_callSV (hc : gC ω κ cc nL own ret rm) {y : MethodName} {rmy : Room} {by_ : ByteArray} {mL i na : Nat} {rety : Option FieldType} {st : List Value} {Pr : Unit × gSt} {F : Unit → gSt → ρ × gSt} (As : List Value) (hM : ∀ l, gMet l y by_ mL rety rmy ω As S (oV Pr.1) Pr.2) (h1 : Cond.methodLink own i y ∈ WT) (hg : g_calleeS own y by_ mL rety na) (hn : As.length = na) (hr0 : rmy.cells = 0 ∧ rmy.slots = 0)
    (hR : rmy.frames + 1 ≤ rm.frames ∧ 8 + (mL + 11) + rmy.locals ≤ rm.locals) (hst : st = As.reverse ++ rest) (hcat : (rest.map fun v => v.category).sum ≤ 8) (hd : decode cc pc = .ok (.invokestatic i, 3))
    (kk : ∀ (r : Unit) (S1 : gSt), r = Pr.1 → S1 = Pr.2 → gG ω κ nL out (pc + 3) lv (rest) S1 (F r S1)) : gG ω κ nL out pc lv st S (gB Pr F) := by
  obtain ⟨p, l, e, R, s, m, args, below, meth, c, A⟩ := κ
  intro H locs ls hP hD hS hl
  obtain ⟨hx, hb, hml, hown, hts, hK, hA, hr, hlk, rfl, hZ, hz⟩ := hc
  exact g_back hA hD hS hl (va_runS (As := As) (rest := rest) ⟨hx, hb, hml, hown, hts⟩ (hM l H.size) (cwS na hts (g_inS h1 hg) rfl hr0.1 hr0.2 hg.1 hR) (g_pre (av := As) hz hK hA hZ hP hD hS) rfl hn hl.1 hst (by simpa [JFrame.monitorRoom] using hcat) hd ⟨Nat.zero_le _, Nat.zero_le _⟩) (kk Pr.1 Pr.2 rfl rfl)
end GR
/-- a loop's counter c against its bound b, n rounds left at most -/
def gJ (b c : Int32) (n : Nat) : Prop := 0 ≤ c.toInt ∧ c.toInt ≤ max 0 b.toInt ∧ max 0 b.toInt < c.toInt + n
theorem gJ_0 {b c : Int32} {P : Prop} (h : gJ b c 0) : P := by
  obtain ⟨h1, h2, h3⟩ := h
  omega
theorem gJ_s {b c : Int32} {n : Nat} (h : gJ b c (n + 1)) (hc : ¬ b ≤ c) : gJ b (c + 1) n := by
  obtain ⟨h1, h2, h3⟩ := h
  rw [Int32.le_iff_toInt_le] at hc
  have hb : b.toInt ≤ 2147483647 := by
    have h := Int32.toInt_le b
    rwa [show Int32.maxValue.toInt = 2147483647 from rfl] at h
  have e : (c + 1).toInt = c.toInt + 1 := by
    rw [Int32.toInt_add, show (1 : Int32).toInt = 1 from rfl]
    rw [Int.bmod_eq_of_le] <;> omega
  refine ⟨?_, ?_, ?_⟩ <;> rw [e] <;> omega
theorem gJ_i {b : Int32} {n : Nat} (h : b.toInt < n) (h0 : 0 < n) : gJ b 0 n := by
  refine ⟨?_, ?_, ?_⟩ <;> rw [Int32.toInt_zero] <;> omega
theorem gJ_v (b : Int32) : gJ b 0 (b.toNatClampNeg + 1) := by
  have h : (b.toNatClampNeg : Int) = max 0 b.toInt := by
    rw [Int32.toNatClampNeg]
    omega
  refine ⟨?_, ?_, ?_⟩ <;> rw [Int32.toInt_zero] <;> omega
theorem gJ_in {b c : Int32} {n N : Nat} (h : gJ b c n) (hc : ¬ b ≤ c) (hN : b.toInt = N) : vp_in c N := by
  obtain ⟨h1, h2, h3⟩ := h
  rw [Int32.le_iff_toInt_le] at hc
  exact vp_in_iff.mpr ⟨h1, by omega⟩
end GF
end
section
theorem wtC_0 : Cond.fieldLink RX1 9 "GameConsole$Cartridge" "rom" "[I" ∈ WT := wt_m (by decide +kernel) (by decide +kernel)
theorem wtC_1 : Cond.fieldLink RX1 18 "GameConsole$Cartridge" "romBanks" "[I" ∈ WT := wt_m (by decide +kernel) (by decide +kernel)
theorem wtC_2 : Cond.fieldLink RX1 15 "GameConsole$Cartridge" "chr" "[I" ∈ WT := wt_m (by decide +kernel) (by decide +kernel)
theorem wtC_3 : Cond.fieldLink RX1 21 "GameConsole$Cartridge" "chrBanks" "[I" ∈ WT := wt_m (by decide +kernel) (by decide +kernel)
theorem wtC_4 : Cond.fieldLink RX3 22 "GameConsole$Mmc1" "shifted" "I" ∈ WT := wt_m (by decide +kernel) (by decide +kernel)
theorem wtC_5 : Cond.fieldLink RX3 25 "GameConsole$Mmc1" "count" "I" ∈ WT := wt_m (by decide +kernel) (by decide +kernel)
theorem wtC_6 : Cond.fieldLink RX3 32 "GameConsole$Mmc1" "mirroring" "I" ∈ WT := wt_m (by decide +kernel) (by decide +kernel)
theorem wtC_7 : Cond.sameField "GameConsole$Mmc1" "GameConsole$Cartridge" "mirroring" "I" ∈ WT := wt_m (by decide +kernel) (by decide +kernel)
theorem wtC_8 : Cond.fieldLink RX3 7 "GameConsole$Mmc1" "prgMode" "I" ∈ WT := wt_m (by decide +kernel) (by decide +kernel)
theorem wtC_9 : Cond.fieldLink RX3 35 "GameConsole$Mmc1" "chrMode" "I" ∈ WT := wt_m (by decide +kernel) (by decide +kernel)
theorem wtC_10 : Cond.fieldLink RX3 38 "GameConsole$Mmc1" "firstChr" "I" ∈ WT := wt_m (by decide +kernel) (by decide +kernel)
theorem wtC_11 : Cond.fieldLink RX3 41 "GameConsole$Mmc1" "secondChr" "I" ∈ WT := wt_m (by decide +kernel) (by decide +kernel)
theorem wtC_12 : Cond.fieldLink RX3 44 "GameConsole$Mmc1" "prgBank" "I" ∈ WT := wt_m (by decide +kernel) (by decide +kernel)
theorem wtC_13 : Cond.instanceMethod yX1_setRomBanks ∈ WT := wt_m (by decide +kernel) (by decide +kernel)
theorem wtC_14 : Cond.initialized RX1 ∈ WT := wt_m (by decide +kernel) (by decide +kernel)
theorem wtC_15 : Cond.code yX1_setRomBanks cX1_setRomBanks 5 none ∈ WT := wt_m (by decide +kernel) (by decide +kernel)
theorem wtC_16 : Cond.methodLink RX3 47 ⟨"GameConsole$Mmc1", "setRomBanks", "(IIII)V"⟩ ∈ WT := wt_m (by decide +kernel) (by decide +kernel)
theorem wtC_17 : Cond.sameMethod "GameConsole$Mmc1" "GameConsole$Cartridge" "setRomBanks" "(IIII)V" ∈ WT := wt_m (by decide +kernel) (by decide +kernel)
theorem wtC_18 : Cond.selects RX3 ⟨"GameConsole$Mmc1", "setRomBanks", "(IIII)V"⟩ yX1_setRomBanks ∈ WT := wt_m (by decide +kernel) (by decide +kernel)
theorem wtC_19 : Cond.instanceMethod yX1_setFourChrBanks ∈ WT := wt_m (by decide +kernel) (by decide +kernel)
theorem wtC_20 : Cond.code yX1_setFourChrBanks cX1_setFourChrBanks 6 none ∈ WT := wt_m (by decide +kernel) (by decide +kernel)
theorem wtC_21 : Cond.methodLink RX3 51 ⟨"GameConsole$Mmc1", "setFourChrBanks", "(IIIII)V"⟩ ∈ WT := wt_m (by decide +kernel) (by decide +kernel)
theorem wtC_22 : Cond.sameMethod "GameConsole$Mmc1" "GameConsole$Cartridge" "setFourChrBanks" "(IIIII)V" ∈ WT := wt_m (by decide +kernel) (by decide +kernel)
theorem wtC_23 : Cond.selects RX3 ⟨"GameConsole$Mmc1", "setFourChrBanks", "(IIIII)V"⟩ yX1_setFourChrBanks ∈ WT := wt_m (by decide +kernel) (by decide +kernel)
theorem wtC_24 : Cond.instanceMethod yX3_setRegister ∈ WT := wt_m (by decide +kernel) (by decide +kernel)
theorem wtC_25 : Cond.selects RX3 yX3_setRegister yX3_setRegister ∈ WT := wt_m (by decide +kernel) (by decide +kernel)
theorem wtC_26 : Cond.initialized RX3 ∈ WT := wt_m (by decide +kernel) (by decide +kernel)
theorem wtC_27 : Cond.code yX3_setRegister cX3_setRegister 3 none ∈ WT := wt_m (by decide +kernel) (by decide +kernel)
theorem wtC_28 : Cond.methodLink RX3 28 yX3_setRegister ∈ WT := wt_m (by decide +kernel) (by decide +kernel)
theorem wtC_29 : Cond.instanceMethod yX3_forgetShifted ∈ WT := wt_m (by decide +kernel) (by decide +kernel)
theorem wtC_30 : Cond.selects RX3 yX3_forgetShifted yX3_forgetShifted ∈ WT := wt_m (by decide +kernel) (by decide +kernel)
theorem wtC_31 : Cond.code yX3_forgetShifted cX3_forgetShifted 1 none ∈ WT := wt_m (by decide +kernel) (by decide +kernel)
theorem wtC_32 : Cond.methodLink RX3 19 yX3_forgetShifted ∈ WT := wt_m (by decide +kernel) (by decide +kernel)
theorem wtC_33 : Cond.instanceMethod yX3_mapRom ∈ WT := wt_m (by decide +kernel) (by decide +kernel)
theorem wtC_34 : Cond.selects RX3 yX3_mapRom yX3_mapRom ∈ WT := wt_m (by decide +kernel) (by decide +kernel)
theorem wtC_35 : Cond.code yX3_mapRom cX3_mapRom 3 none ∈ WT := wt_m (by decide +kernel) (by decide +kernel)
theorem wtC_36 : Cond.methodLink RX3 13 yX3_mapRom ∈ WT := wt_m (by decide +kernel) (by decide +kernel)
theorem wtC_37 : Cond.instanceMethod yX3_mapChr ∈ WT := wt_m (by decide +kernel) (by decide +kernel)
theorem wtC_38 : Cond.selects RX3 yX3_mapChr yX3_mapChr ∈ WT := wt_m (by decide +kernel) (by decide +kernel)
theorem wtC_39 : Cond.code yX3_mapChr cX3_mapChr 3 none ∈ WT := wt_m (by decide +kernel) (by decide +kernel)
theorem wtC_40 : Cond.methodLink RX3 16 yX3_mapChr ∈ WT := wt_m (by decide +kernel) (by decide +kernel)
theorem wtC_41 : Cond.fieldLink RX4 29 "GameConsole$Mmc3" "counter" "I" ∈ WT := wt_m (by decide +kernel) (by decide +kernel)
theorem wtC_42 : Cond.fieldLink RX4 26 "GameConsole$Mmc3" "latch" "I" ∈ WT := wt_m (by decide +kernel) (by decide +kernel)
theorem wtC_43 : Cond.fieldLink RX4 32 "GameConsole$Mmc3" "interruptsOn" "Z" ∈ WT := wt_m (by decide +kernel) (by decide +kernel)
theorem wtC_44 : Cond.fieldLink RX4 36 "GameConsole$Mmc3" "irqLine" "Z" ∈ WT := wt_m (by decide +kernel) (by decide +kernel)
theorem wtC_45 : Cond.sameField "GameConsole$Mmc3" "GameConsole$Cartridge" "irqLine" "Z" ∈ WT := wt_m (by decide +kernel) (by decide +kernel)
theorem wtC_46 : Cond.fieldLink RX4 23 "GameConsole$Mmc3" "select" "I" ∈ WT := wt_m (by decide +kernel) (by decide +kernel)
theorem wtC_47 : Cond.fieldLink RX4 7 "GameConsole$Mmc3" "registers" "[I" ∈ WT := wt_m (by decide +kernel) (by decide +kernel)
theorem wtC_48 : Cond.methodLink RX4 39 ⟨"GameConsole$Mmc3", "setRomBanks", "(IIII)V"⟩ ∈ WT := wt_m (by decide +kernel) (by decide +kernel)
theorem wtC_49 : Cond.sameMethod "GameConsole$Mmc3" "GameConsole$Cartridge" "setRomBanks" "(IIII)V" ∈ WT := wt_m (by decide +kernel) (by decide +kernel)
theorem wtC_50 : Cond.selects RX4 ⟨"GameConsole$Mmc3", "setRomBanks", "(IIII)V"⟩ yX1_setRomBanks ∈ WT := wt_m (by decide +kernel) (by decide +kernel)
theorem wtC_51 : Cond.methodLink RX4 43 ⟨"GameConsole$Mmc3", "setFourChrBanks", "(IIIII)V"⟩ ∈ WT := wt_m (by decide +kernel) (by decide +kernel)
theorem wtC_52 : Cond.sameMethod "GameConsole$Mmc3" "GameConsole$Cartridge" "setFourChrBanks" "(IIIII)V" ∈ WT := wt_m (by decide +kernel) (by decide +kernel)
theorem wtC_53 : Cond.selects RX4 ⟨"GameConsole$Mmc3", "setFourChrBanks", "(IIIII)V"⟩ yX1_setFourChrBanks ∈ WT := wt_m (by decide +kernel) (by decide +kernel)
theorem wtC_54 : Cond.instanceMethod yX4_mapRom ∈ WT := wt_m (by decide +kernel) (by decide +kernel)
theorem wtC_55 : Cond.selects RX4 yX4_mapRom yX4_mapRom ∈ WT := wt_m (by decide +kernel) (by decide +kernel)
theorem wtC_56 : Cond.initialized RX4 ∈ WT := wt_m (by decide +kernel) (by decide +kernel)
theorem wtC_57 : Cond.code yX4_mapRom cX4_mapRom 1 none ∈ WT := wt_m (by decide +kernel) (by decide +kernel)
theorem wtC_58 : Cond.methodLink RX4 17 yX4_mapRom ∈ WT := wt_m (by decide +kernel) (by decide +kernel)
theorem wtC_59 : Cond.instanceMethod yX4_mapChr ∈ WT := wt_m (by decide +kernel) (by decide +kernel)
theorem wtC_60 : Cond.selects RX4 yX4_mapChr yX4_mapChr ∈ WT := wt_m (by decide +kernel) (by decide +kernel)
theorem wtC_61 : Cond.code yX4_mapChr cX4_mapChr 4 none ∈ WT := wt_m (by decide +kernel) (by decide +kernel)
theorem wtC_62 : Cond.methodLink RX4 20 yX4_mapChr ∈ WT := wt_m (by decide +kernel) (by decide +kernel)
theorem wtC_63 : Cond.fieldLink RX4 13 "GameConsole$Mmc3" "mirroring" "I" ∈ WT := wt_m (by decide +kernel) (by decide +kernel)
theorem wtC_64 : Cond.sameField "GameConsole$Mmc3" "GameConsole$Cartridge" "mirroring" "I" ∈ WT := wt_m (by decide +kernel) (by decide +kernel)
theorem wtC_65 : Cond.instanceMethod yX1_romByte ∈ WT := wt_m (by decide +kernel) (by decide +kernel)
theorem wtC_66 : Cond.code yX1_romByte cX1_romByte 2 (some .int) ∈ WT := wt_m (by decide +kernel) (by decide +kernel)
theorem wtC_67 : Cond.sameMethod "GameConsole$Cartridge" "GameConsole$Cartridge" "romByte" "(I)I" ∈ WT := wt_m (by decide +kernel) (by decide +kernel)
theorem wtC_68 : Cond.selects RX3 ⟨"GameConsole$Cartridge", "romByte", "(I)I"⟩ yX1_romByte ∈ WT := wt_m (by decide +kernel) (by decide +kernel)
theorem wtC_69 : Cond.selects RX4 ⟨"GameConsole$Cartridge", "romByte", "(I)I"⟩ yX1_romByte ∈ WT := wt_m (by decide +kernel) (by decide +kernel)
theorem wtC_70 : Cond.instanceMethod yX1_chrByte ∈ WT := wt_m (by decide +kernel) (by decide +kernel)
theorem wtC_71 : Cond.code yX1_chrByte cX1_chrByte 2 (some .int) ∈ WT := wt_m (by decide +kernel) (by decide +kernel)
theorem wtC_72 : Cond.sameMethod "GameConsole$Cartridge" "GameConsole$Cartridge" "chrByte" "(I)I" ∈ WT := wt_m (by decide +kernel) (by decide +kernel)
theorem wtC_73 : Cond.selects RX3 ⟨"GameConsole$Cartridge", "chrByte", "(I)I"⟩ yX1_chrByte ∈ WT := wt_m (by decide +kernel) (by decide +kernel)
theorem wtC_74 : Cond.selects RX4 ⟨"GameConsole$Cartridge", "chrByte", "(I)I"⟩ yX1_chrByte ∈ WT := wt_m (by decide +kernel) (by decide +kernel)
theorem wtC_75 : Cond.instanceMethod yX3_storeRegister ∈ WT := wt_m (by decide +kernel) (by decide +kernel)
theorem wtC_76 : Cond.code yX3_storeRegister cX3_storeRegister 3 none ∈ WT := wt_m (by decide +kernel) (by decide +kernel)
theorem wtC_77 : Cond.sameMethod "GameConsole$Cartridge" "GameConsole$Cartridge" "storeRegister" "(II)V" ∈ WT := wt_m (by decide +kernel) (by decide +kernel)
theorem wtC_78 : Cond.selects RX3 ⟨"GameConsole$Cartridge", "storeRegister", "(II)V"⟩ yX3_storeRegister ∈ WT := wt_m (by decide +kernel) (by decide +kernel)
theorem wtC_79 : Cond.instanceMethod yX4_storeRegister ∈ WT := wt_m (by decide +kernel) (by decide +kernel)
theorem wtC_80 : Cond.code yX4_storeRegister cX4_storeRegister 3 none ∈ WT := wt_m (by decide +kernel) (by decide +kernel)
theorem wtC_81 : Cond.selects RX4 ⟨"GameConsole$Cartridge", "storeRegister", "(II)V"⟩ yX4_storeRegister ∈ WT := wt_m (by decide +kernel) (by decide +kernel)
theorem wtC_82 : Cond.instanceMethod yX3_noteLine ∈ WT := wt_m (by decide +kernel) (by decide +kernel)
theorem wtC_83 : Cond.code yX3_noteLine cX3_noteLine 1 none ∈ WT := wt_m (by decide +kernel) (by decide +kernel)
theorem wtC_84 : Cond.sameMethod "GameConsole$Cartridge" "GameConsole$Cartridge" "noteLine" "()V" ∈ WT := wt_m (by decide +kernel) (by decide +kernel)
theorem wtC_85 : Cond.selects RX3 ⟨"GameConsole$Cartridge", "noteLine", "()V"⟩ yX3_noteLine ∈ WT := wt_m (by decide +kernel) (by decide +kernel)
theorem wtC_86 : Cond.instanceMethod yX4_noteLine ∈ WT := wt_m (by decide +kernel) (by decide +kernel)
theorem wtC_87 : Cond.code yX4_noteLine cX4_noteLine 1 none ∈ WT := wt_m (by decide +kernel) (by decide +kernel)
theorem wtC_88 : Cond.selects RX4 ⟨"GameConsole$Cartridge", "noteLine", "()V"⟩ yX4_noteLine ∈ WT := wt_m (by decide +kernel) (by decide +kernel)
theorem wtC_89 : Cond.sameMethod "GameConsole$Cartridge" "GameConsole$Cartridge" "forgetShifted" "()V" ∈ WT := wt_m (by decide +kernel) (by decide +kernel)
theorem wtC_90 : Cond.selects RX3 ⟨"GameConsole$Cartridge", "forgetShifted", "()V"⟩ yX3_forgetShifted ∈ WT := wt_m (by decide +kernel) (by decide +kernel)
theorem wtC_91 : Cond.instanceMethod yX4_forgetShifted ∈ WT := wt_m (by decide +kernel) (by decide +kernel)
theorem wtC_92 : Cond.code yX4_forgetShifted cX4_forgetShifted 1 none ∈ WT := wt_m (by decide +kernel) (by decide +kernel)
theorem wtC_93 : Cond.selects RX4 ⟨"GameConsole$Cartridge", "forgetShifted", "()V"⟩ yX4_forgetShifted ∈ WT := wt_m (by decide +kernel) (by decide +kernel)
theorem wtC_94 : Cond.instanceMethod yX3_lineCounter ∈ WT := wt_m (by decide +kernel) (by decide +kernel)
theorem wtC_95 : Cond.code yX3_lineCounter cX3_lineCounter 1 (some .int) ∈ WT := wt_m (by decide +kernel) (by decide +kernel)
theorem wtC_96 : Cond.sameMethod "GameConsole$Cartridge" "GameConsole$Cartridge" "lineCounter" "()I" ∈ WT := wt_m (by decide +kernel) (by decide +kernel)
theorem wtC_97 : Cond.selects RX3 ⟨"GameConsole$Cartridge", "lineCounter", "()I"⟩ yX3_lineCounter ∈ WT := wt_m (by decide +kernel) (by decide +kernel)
theorem wtC_98 : Cond.instanceMethod yX4_lineCounter ∈ WT := wt_m (by decide +kernel) (by decide +kernel)
theorem wtC_99 : Cond.code yX4_lineCounter cX4_lineCounter 1 (some .int) ∈ WT := wt_m (by decide +kernel) (by decide +kernel)
theorem wtC_100 : Cond.selects RX4 ⟨"GameConsole$Cartridge", "lineCounter", "()I"⟩ yX4_lineCounter ∈ WT := wt_m (by decide +kernel) (by decide +kernel)
theorem wtC_101 : Cond.fieldLink RX6 16 "GameConsole$Pads" "strobe" "Z" ∈ WT := wt_m (by decide +kernel) (by decide +kernel)
theorem wtC_102 : Cond.fieldLink RX6 13 "GameConsole$Pads" "taken" "[I" ∈ WT := wt_m (by decide +kernel) (by decide +kernel)
theorem wtC_103 : Cond.fieldLink RX6 7 "GameConsole$Pads" "buttons" "[I" ∈ WT := wt_m (by decide +kernel) (by decide +kernel)
theorem wtC_104 : Cond.fieldLink RX8 9 "GameConsole$SoundUnit" "lengths" "[I" ∈ WT := wt_m (by decide +kernel) (by decide +kernel)
theorem wtC_105 : Cond.fieldLink RX8 28 "GameConsole$SoundUnit" "halted" "I" ∈ WT := wt_m (by decide +kernel) (by decide +kernel)
theorem wtC_106 : Cond.fieldLink RX8 32 "GameConsole$SoundUnit" "enabled" "I" ∈ WT := wt_m (by decide +kernel) (by decide +kernel)
theorem wtC_107 : Cond.instanceMethod yX8_enable ∈ WT := wt_m (by decide +kernel) (by decide +kernel)
theorem wtC_108 : Cond.selects RX8 yX8_enable yX8_enable ∈ WT := wt_m (by decide +kernel) (by decide +kernel)
theorem wtC_109 : Cond.initialized RX8 ∈ WT := wt_m (by decide +kernel) (by decide +kernel)
theorem wtC_110 : Cond.code yX8_enable cX8_enable 3 none ∈ WT := wt_m (by decide +kernel) (by decide +kernel)
theorem wtC_111 : Cond.methodLink RX8 13 yX8_enable ∈ WT := wt_m (by decide +kernel) (by decide +kernel)
theorem wtC_112 : Cond.fieldLink RX8 17 "GameConsole$SoundUnit" "irqLine" "Z" ∈ WT := wt_m (by decide +kernel) (by decide +kernel)
theorem wtC_113 : Cond.fieldLink RX8 38 "GameConsole$SoundUnit" "isLong" "Z" ∈ WT := wt_m (by decide +kernel) (by decide +kernel)
theorem wtC_114 : Cond.fieldLink RX8 41 "GameConsole$SoundUnit" "quiet" "Z" ∈ WT := wt_m (by decide +kernel) (by decide +kernel)
theorem wtC_115 : Cond.fieldLink RX8 44 "GameConsole$SoundUnit" "frameCycles" "I" ∈ WT := wt_m (by decide +kernel) (by decide +kernel)
theorem wtC_116 : Cond.instanceMethod yX8_countLengths ∈ WT := wt_m (by decide +kernel) (by decide +kernel)
theorem wtC_117 : Cond.selects RX8 yX8_countLengths yX8_countLengths ∈ WT := wt_m (by decide +kernel) (by decide +kernel)
theorem wtC_118 : Cond.code yX8_countLengths cX8_countLengths 2 none ∈ WT := wt_m (by decide +kernel) (by decide +kernel)
theorem wtC_119 : Cond.methodLink RX8 47 yX8_countLengths ∈ WT := wt_m (by decide +kernel) (by decide +kernel)
theorem wtC_120 : Cond.fieldLink RX8 35 "GameConsole$SoundUnit" "LENGTHS" "[I" ∈ WT := wt_m (by decide +kernel) (by decide +kernel)
theorem wtC_121 : Cond.instanceMethod yX8_restartFrame ∈ WT := wt_m (by decide +kernel) (by decide +kernel)
theorem wtC_122 : Cond.selects RX8 yX8_restartFrame yX8_restartFrame ∈ WT := wt_m (by decide +kernel) (by decide +kernel)
theorem wtC_123 : Cond.code yX8_restartFrame cX8_restartFrame 2 none ∈ WT := wt_m (by decide +kernel) (by decide +kernel)
theorem wtC_124 : Cond.methodLink RX8 21 yX8_restartFrame ∈ WT := wt_m (by decide +kernel) (by decide +kernel)
theorem wtC_125 : Cond.instanceMethod yX8_storeChannel ∈ WT := wt_m (by decide +kernel) (by decide +kernel)
theorem wtC_126 : Cond.selects RX8 yX8_storeChannel yX8_storeChannel ∈ WT := wt_m (by decide +kernel) (by decide +kernel)
theorem wtC_127 : Cond.code yX8_storeChannel cX8_storeChannel 6 none ∈ WT := wt_m (by decide +kernel) (by decide +kernel)
theorem wtC_128 : Cond.methodLink RX8 24 yX8_storeChannel ∈ WT := wt_m (by decide +kernel) (by decide +kernel)
theorem wtC_129 : Cond.constant RX8 63 (37281) ∈ WT := wt_m (by decide +kernel) (by decide +kernel)
theorem wtC_130 : Cond.instanceMethod yX8_frameEnd ∈ WT := wt_m (by decide +kernel) (by decide +kernel)
theorem wtC_131 : Cond.selects RX8 yX8_frameEnd yX8_frameEnd ∈ WT := wt_m (by decide +kernel) (by decide +kernel)
theorem wtC_132 : Cond.code yX8_frameEnd cX8_frameEnd 1 (some .int) ∈ WT := wt_m (by decide +kernel) (by decide +kernel)
theorem wtC_133 : Cond.methodLink RX8 64 yX8_frameEnd ∈ WT := wt_m (by decide +kernel) (by decide +kernel)
theorem wtC_134 : Cond.instanceMethod yX8_nextMark ∈ WT := wt_m (by decide +kernel) (by decide +kernel)
theorem wtC_135 : Cond.selects RX8 yX8_nextMark yX8_nextMark ∈ WT := wt_m (by decide +kernel) (by decide +kernel)
theorem wtC_136 : Cond.code yX8_nextMark cX8_nextMark 1 (some .int) ∈ WT := wt_m (by decide +kernel) (by decide +kernel)
theorem wtC_137 : Cond.methodLink RX8 50 yX8_nextMark ∈ WT := wt_m (by decide +kernel) (by decide +kernel)
theorem wtC_138 : Cond.methodLink RX8 54 Lib.Math.min.name ∈ WT := wt_m (by decide +kernel) (by decide +kernel)
theorem wtC_139 : Cond.static Lib.Math.min.name ∈ WT := wt_m (by decide +kernel) (by decide +kernel)
theorem wtC_140 : Cond.initialized "java/lang/Math" ∈ WT := wt_m (by decide +kernel) (by decide +kernel)
theorem wtC_141 : Cond.code Lib.Math.min.name Lib.Math.min.code 2 (some .int) ∈ WT := wt_m (by decide +kernel) (by decide +kernel)
theorem wtC_142 : Cond.instanceMethod yX8_comeToMark ∈ WT := wt_m (by decide +kernel) (by decide +kernel)
theorem wtC_143 : Cond.selects RX8 yX8_comeToMark yX8_comeToMark ∈ WT := wt_m (by decide +kernel) (by decide +kernel)
theorem wtC_144 : Cond.code yX8_comeToMark cX8_comeToMark 1 none ∈ WT := wt_m (by decide +kernel) (by decide +kernel)
theorem wtC_145 : Cond.methodLink RX8 60 yX8_comeToMark ∈ WT := wt_m (by decide +kernel) (by decide +kernel)
theorem wtC_146 : Cond.fieldLink RX7 23 "GameConsole$PictureUnit" "ctrl" "I" ∈ WT := wt_m (by decide +kernel) (by decide +kernel)
theorem wtC_147 : Cond.fieldLink RX7 27 "GameConsole$PictureUnit" "mask" "I" ∈ WT := wt_m (by decide +kernel) (by decide +kernel)
theorem wtC_148 : Cond.fieldLink RX7 30 "GameConsole$PictureUnit" "w" "I" ∈ WT := wt_m (by decide +kernel) (by decide +kernel)
theorem wtC_149 : Cond.fieldLink RX7 33 "GameConsole$PictureUnit" "nmiPending" "Z" ∈ WT := wt_m (by decide +kernel) (by decide +kernel)
theorem wtC_150 : Cond.fieldLink RX7 73 "GameConsole$PictureUnit" "t" "I" ∈ WT := wt_m (by decide +kernel) (by decide +kernel)
theorem wtC_151 : Cond.fieldLink RX7 37 "GameConsole$PictureUnit" "vblank" "I" ∈ WT := wt_m (by decide +kernel) (by decide +kernel)
theorem wtC_152 : Cond.fieldLink RX7 76 "GameConsole$PictureUnit" "x" "I" ∈ WT := wt_m (by decide +kernel) (by decide +kernel)
theorem wtC_153 : Cond.fieldLink RX7 43 "GameConsole$PictureUnit" "v" "I" ∈ WT := wt_m (by decide +kernel) (by decide +kernel)
theorem wtC_154 : Cond.fieldLink RX7 19 "GameConsole$PictureUnit" "cartridge" "LGameConsole$Cartridge;" ∈ WT := wt_m (by decide +kernel) (by decide +kernel)
theorem wtC_155 : Cond.fieldLink RX7 87 "GameConsole$Cartridge" "mirroring" "I" ∈ WT := wt_m (by decide +kernel) (by decide +kernel)
theorem wtC_156 : Cond.fieldLink RX7 16 "GameConsole$PictureUnit" "palette" "[I" ∈ WT := wt_m (by decide +kernel) (by decide +kernel)
theorem wtC_157 : Cond.static yX7_palettePlace ∈ WT := wt_m (by decide +kernel) (by decide +kernel)
theorem wtC_158 : Cond.initialized RX7 ∈ WT := wt_m (by decide +kernel) (by decide +kernel)
theorem wtC_159 : Cond.code yX7_palettePlace cX7_palettePlace 2 (some .int) ∈ WT := wt_m (by decide +kernel) (by decide +kernel)
theorem wtC_160 : Cond.methodLink RX7 84 yX7_palettePlace ∈ WT := wt_m (by decide +kernel) (by decide +kernel)
theorem wtC_161 : Cond.fieldLink RX7 13 "GameConsole$PictureUnit" "nameTables" "[I" ∈ WT := wt_m (by decide +kernel) (by decide +kernel)
theorem wtC_162 : Cond.instanceMethod yX7_nameTablePlace ∈ WT := wt_m (by decide +kernel) (by decide +kernel)
theorem wtC_163 : Cond.selects RX7 yX7_nameTablePlace yX7_nameTablePlace ∈ WT := wt_m (by decide +kernel) (by decide +kernel)
theorem wtC_164 : Cond.code yX7_nameTablePlace cX7_nameTablePlace 3 (some .int) ∈ WT := wt_m (by decide +kernel) (by decide +kernel)
theorem wtC_165 : Cond.methodLink RX7 53 yX7_nameTablePlace ∈ WT := wt_m (by decide +kernel) (by decide +kernel)
theorem wtC_166 : Cond.methodLink RX7 79 ⟨"GameConsole$Cartridge", "chrByte", "(I)I"⟩ ∈ WT := wt_m (by decide +kernel) (by decide +kernel)
theorem wtC_167 : Cond.fieldLink RX7 7 "GameConsole$PictureUnit" "oam" "[I" ∈ WT := wt_m (by decide +kernel) (by decide +kernel)
theorem wtC_168 : Cond.fieldLink RX7 40 "GameConsole$PictureUnit" "oamAddress" "I" ∈ WT := wt_m (by decide +kernel) (by decide +kernel)
theorem wtC_169 : Cond.instanceMethod yX7_byteAt ∈ WT := wt_m (by decide +kernel) (by decide +kernel)
theorem wtC_170 : Cond.selects RX7 yX7_byteAt yX7_byteAt ∈ WT := wt_m (by decide +kernel) (by decide +kernel)
theorem wtC_171 : Cond.code yX7_byteAt cX7_byteAt 2 (some .int) ∈ WT := wt_m (by decide +kernel) (by decide +kernel)
theorem wtC_172 : Cond.methodLink RX7 46 yX7_byteAt ∈ WT := wt_m (by decide +kernel) (by decide +kernel)
theorem wtC_173 : Cond.fieldLink RX7 50 "GameConsole$PictureUnit" "buffer" "I" ∈ WT := wt_m (by decide +kernel) (by decide +kernel)
theorem wtC_174 : Cond.instanceMethod yX7_growV ∈ WT := wt_m (by decide +kernel) (by decide +kernel)
theorem wtC_175 : Cond.selects RX7 yX7_growV yX7_growV ∈ WT := wt_m (by decide +kernel) (by decide +kernel)
theorem wtC_176 : Cond.code yX7_growV cX7_growV 1 none ∈ WT := wt_m (by decide +kernel) (by decide +kernel)
theorem wtC_177 : Cond.methodLink RX7 56 yX7_growV ∈ WT := wt_m (by decide +kernel) (by decide +kernel)
theorem wtC_178 : Cond.instanceMethod yX7_storeControl ∈ WT := wt_m (by decide +kernel) (by decide +kernel)
theorem wtC_179 : Cond.selects RX7 yX7_storeControl yX7_storeControl ∈ WT := wt_m (by decide +kernel) (by decide +kernel)
theorem wtC_180 : Cond.code yX7_storeControl cX7_storeControl 3 none ∈ WT := wt_m (by decide +kernel) (by decide +kernel)
theorem wtC_181 : Cond.methodLink RX7 59 yX7_storeControl ∈ WT := wt_m (by decide +kernel) (by decide +kernel)
theorem wtC_182 : Cond.instanceMethod yX7_storeScroll ∈ WT := wt_m (by decide +kernel) (by decide +kernel)
theorem wtC_183 : Cond.selects RX7 yX7_storeScroll yX7_storeScroll ∈ WT := wt_m (by decide +kernel) (by decide +kernel)
theorem wtC_184 : Cond.code yX7_storeScroll cX7_storeScroll 2 none ∈ WT := wt_m (by decide +kernel) (by decide +kernel)
theorem wtC_185 : Cond.methodLink RX7 63 yX7_storeScroll ∈ WT := wt_m (by decide +kernel) (by decide +kernel)
theorem wtC_186 : Cond.instanceMethod yX7_storeAddress ∈ WT := wt_m (by decide +kernel) (by decide +kernel)
theorem wtC_187 : Cond.selects RX7 yX7_storeAddress yX7_storeAddress ∈ WT := wt_m (by decide +kernel) (by decide +kernel)
theorem wtC_188 : Cond.code yX7_storeAddress cX7_storeAddress 2 none ∈ WT := wt_m (by decide +kernel) (by decide +kernel)
theorem wtC_189 : Cond.methodLink RX7 66 yX7_storeAddress ∈ WT := wt_m (by decide +kernel) (by decide +kernel)
theorem wtC_190 : Cond.instanceMethod yX7_storeByte ∈ WT := wt_m (by decide +kernel) (by decide +kernel)
theorem wtC_191 : Cond.selects RX7 yX7_storeByte yX7_storeByte ∈ WT := wt_m (by decide +kernel) (by decide +kernel)
theorem wtC_192 : Cond.code yX7_storeByte cX7_storeByte 3 none ∈ WT := wt_m (by decide +kernel) (by decide +kernel)
theorem wtC_193 : Cond.methodLink RX7 69 yX7_storeByte ∈ WT := wt_m (by decide +kernel) (by decide +kernel)
theorem wtC_194 : Cond.fieldLink RX7 105 "GameConsole$PictureUnit" "line" "I" ∈ WT := wt_m (by decide +kernel) (by decide +kernel)
theorem wtC_195 : Cond.methodLink RX7 108 ⟨"GameConsole$Cartridge", "noteLine", "()V"⟩ ∈ WT := wt_m (by decide +kernel) (by decide +kernel)
theorem wtC_196 : Cond.fieldLink RX7 90 "GameConsole$PictureUnit" "dot" "I" ∈ WT := wt_m (by decide +kernel) (by decide +kernel)
theorem wtC_197 : Cond.methodLink RX7 93 Lib.Math.min.name ∈ WT := wt_m (by decide +kernel) (by decide +kernel)
theorem wtC_198 : Cond.instanceMethod yX7_tellLine ∈ WT := wt_m (by decide +kernel) (by decide +kernel)
theorem wtC_199 : Cond.selects RX7 yX7_tellLine yX7_tellLine ∈ WT := wt_m (by decide +kernel) (by decide +kernel)
theorem wtC_200 : Cond.code yX7_tellLine cX7_tellLine 2 none ∈ WT := wt_m (by decide +kernel) (by decide +kernel)
theorem wtC_201 : Cond.methodLink RX7 102 yX7_tellLine ∈ WT := wt_m (by decide +kernel) (by decide +kernel)
theorem wtC_202 : Cond.instanceMethod yX7_comeToDotOne ∈ WT := wt_m (by decide +kernel) (by decide +kernel)
theorem wtC_203 : Cond.selects RX7 yX7_comeToDotOne yX7_comeToDotOne ∈ WT := wt_m (by decide +kernel) (by decide +kernel)
theorem wtC_204 : Cond.code yX7_comeToDotOne cX7_comeToDotOne 1 none ∈ WT := wt_m (by decide +kernel) (by decide +kernel)
theorem wtC_205 : Cond.methodLink RX7 99 yX7_comeToDotOne ∈ WT := wt_m (by decide +kernel) (by decide +kernel)
theorem wtC_206 : Cond.fieldLink RX0 24 "GameConsole$Bus" "sound" "LGameConsole$SoundUnit;" ∈ WT := wt_m (by decide +kernel) (by decide +kernel)
theorem wtC_207 : Cond.instanceMethod yX8_loadStatus ∈ WT := wt_m (by decide +kernel) (by decide +kernel)
theorem wtC_208 : Cond.selects RX8 yX8_loadStatus yX8_loadStatus ∈ WT := wt_m (by decide +kernel) (by decide +kernel)
theorem wtC_209 : Cond.code yX8_loadStatus cX8_loadStatus 3 (some .int) ∈ WT := wt_m (by decide +kernel) (by decide +kernel)
theorem wtC_210 : Cond.methodLink RX0 51 yX8_loadStatus ∈ WT := wt_m (by decide +kernel) (by decide +kernel)
theorem wtC_211 : Cond.fieldLink RX0 28 "GameConsole$Bus" "pads" "LGameConsole$Pads;" ∈ WT := wt_m (by decide +kernel) (by decide +kernel)
theorem wtC_212 : Cond.instanceMethod yX6_nextBit ∈ WT := wt_m (by decide +kernel) (by decide +kernel)
theorem wtC_213 : Cond.selects RX6 yX6_nextBit yX6_nextBit ∈ WT := wt_m (by decide +kernel) (by decide +kernel)
theorem wtC_214 : Cond.initialized RX6 ∈ WT := wt_m (by decide +kernel) (by decide +kernel)
theorem wtC_215 : Cond.code yX6_nextBit cX6_nextBit 4 (some .int) ∈ WT := wt_m (by decide +kernel) (by decide +kernel)
theorem wtC_216 : Cond.methodLink RX0 57 yX6_nextBit ∈ WT := wt_m (by decide +kernel) (by decide +kernel)
theorem wtC_217 : Cond.constant RX0 45 (32768) ∈ WT := wt_m (by decide +kernel) (by decide +kernel)
theorem wtC_218 : Cond.fieldLink RX0 32 "GameConsole$Bus" "cartridge" "LGameConsole$Cartridge;" ∈ WT := wt_m (by decide +kernel) (by decide +kernel)
theorem wtC_219 : Cond.methodLink RX0 46 ⟨"GameConsole$Cartridge", "romByte", "(I)I"⟩ ∈ WT := wt_m (by decide +kernel) (by decide +kernel)
theorem wtC_220 : Cond.fieldLink RX0 13 "GameConsole$Bus" "cartridgeRam" "[I" ∈ WT := wt_m (by decide +kernel) (by decide +kernel)
theorem wtC_221 : Cond.instanceMethod yX0_loadInput ∈ WT := wt_m (by decide +kernel) (by decide +kernel)
theorem wtC_222 : Cond.selects RX0 yX0_loadInput yX0_loadInput ∈ WT := wt_m (by decide +kernel) (by decide +kernel)
theorem wtC_223 : Cond.initialized RX0 ∈ WT := wt_m (by decide +kernel) (by decide +kernel)
theorem wtC_224 : Cond.code yX0_loadInput cX0_loadInput 2 (some .int) ∈ WT := wt_m (by decide +kernel) (by decide +kernel)
theorem wtC_225 : Cond.methodLink RX0 42 yX0_loadInput ∈ WT := wt_m (by decide +kernel) (by decide +kernel)
theorem wtC_226 : Cond.fieldLink RX0 20 "GameConsole$Bus" "picture" "LGameConsole$PictureUnit;" ∈ WT := wt_m (by decide +kernel) (by decide +kernel)
theorem wtC_227 : Cond.instanceMethod yX7_load ∈ WT := wt_m (by decide +kernel) (by decide +kernel)
theorem wtC_228 : Cond.selects RX7 yX7_load yX7_load ∈ WT := wt_m (by decide +kernel) (by decide +kernel)
theorem wtC_229 : Cond.code yX7_load cX7_load 6 (some .int) ∈ WT := wt_m (by decide +kernel) (by decide +kernel)
theorem wtC_230 : Cond.methodLink RX0 36 yX7_load ∈ WT := wt_m (by decide +kernel) (by decide +kernel)
theorem wtC_231 : Cond.fieldLink RX0 7 "GameConsole$Bus" "ram" "[I" ∈ WT := wt_m (by decide +kernel) (by decide +kernel)
theorem wtC_232 : Cond.fieldLink RX0 16 "GameConsole$Bus" "pageAsked" "I" ∈ WT := wt_m (by decide +kernel) (by decide +kernel)
theorem wtC_233 : Cond.instanceMethod yX6_setStrobe ∈ WT := wt_m (by decide +kernel) (by decide +kernel)
theorem wtC_234 : Cond.selects RX6 yX6_setStrobe yX6_setStrobe ∈ WT := wt_m (by decide +kernel) (by decide +kernel)
theorem wtC_235 : Cond.code yX6_setStrobe cX6_setStrobe 2 none ∈ WT := wt_m (by decide +kernel) (by decide +kernel)
theorem wtC_236 : Cond.methodLink RX0 66 yX6_setStrobe ∈ WT := wt_m (by decide +kernel) (by decide +kernel)
theorem wtC_237 : Cond.methodLink RX0 71 ⟨"GameConsole$Cartridge", "storeRegister", "(II)V"⟩ ∈ WT := wt_m (by decide +kernel) (by decide +kernel)
theorem wtC_238 : Cond.instanceMethod yX8_store ∈ WT := wt_m (by decide +kernel) (by decide +kernel)
theorem wtC_239 : Cond.selects RX8 yX8_store yX8_store ∈ WT := wt_m (by decide +kernel) (by decide +kernel)
theorem wtC_240 : Cond.code yX8_store cX8_store 3 none ∈ WT := wt_m (by decide +kernel) (by decide +kernel)
theorem wtC_241 : Cond.methodLink RX0 70 yX8_store ∈ WT := wt_m (by decide +kernel) (by decide +kernel)
theorem wtC_242 : Cond.instanceMethod yX7_store ∈ WT := wt_m (by decide +kernel) (by decide +kernel)
theorem wtC_243 : Cond.selects RX7 yX7_store yX7_store ∈ WT := wt_m (by decide +kernel) (by decide +kernel)
theorem wtC_244 : Cond.code yX7_store cX7_store 3 none ∈ WT := wt_m (by decide +kernel) (by decide +kernel)
theorem wtC_245 : Cond.methodLink RX0 62 yX7_store ∈ WT := wt_m (by decide +kernel) (by decide +kernel)
theorem wtC_246 : Cond.instanceMethod yX0_load ∈ WT := wt_m (by decide +kernel) (by decide +kernel)
theorem wtC_247 : Cond.selects RX0 yX0_load yX0_load ∈ WT := wt_m (by decide +kernel) (by decide +kernel)
theorem wtC_248 : Cond.code yX0_load cX0_load 2 (some .int) ∈ WT := wt_m (by decide +kernel) (by decide +kernel)
theorem wtC_249 : Cond.methodLink RX0 74 yX0_load ∈ WT := wt_m (by decide +kernel) (by decide +kernel)
theorem wtC_250 : Cond.fieldLink RX2 9 "GameConsole$Core" "p" "I" ∈ WT := wt_m (by decide +kernel) (by decide +kernel)
theorem wtC_251 : Cond.instanceMethod yX2_setFlag ∈ WT := wt_m (by decide +kernel) (by decide +kernel)
theorem wtC_252 : Cond.selects RX2 yX2_setFlag yX2_setFlag ∈ WT := wt_m (by decide +kernel) (by decide +kernel)
theorem wtC_253 : Cond.initialized RX2 ∈ WT := wt_m (by decide +kernel) (by decide +kernel)
theorem wtC_254 : Cond.code yX2_setFlag cX2_setFlag 3 none ∈ WT := wt_m (by decide +kernel) (by decide +kernel)
theorem wtC_255 : Cond.methodLink RX2 130 yX2_setFlag ∈ WT := wt_m (by decide +kernel) (by decide +kernel)
theorem wtC_256 : Cond.fieldLink RX2 13 "GameConsole$Core" "bus" "LGameConsole$Bus;" ∈ WT := wt_m (by decide +kernel) (by decide +kernel)
theorem wtC_257 : Cond.fieldLink RX2 17 "GameConsole$Core" "s" "I" ∈ WT := wt_m (by decide +kernel) (by decide +kernel)
theorem wtC_258 : Cond.instanceMethod yX0_storeStack ∈ WT := wt_m (by decide +kernel) (by decide +kernel)
theorem wtC_259 : Cond.selects RX0 yX0_storeStack yX0_storeStack ∈ WT := wt_m (by decide +kernel) (by decide +kernel)
theorem wtC_260 : Cond.code yX0_storeStack cX0_storeStack 3 none ∈ WT := wt_m (by decide +kernel) (by decide +kernel)
theorem wtC_261 : Cond.methodLink RX2 162 yX0_storeStack ∈ WT := wt_m (by decide +kernel) (by decide +kernel)
theorem wtC_262 : Cond.instanceMethod yX2_push ∈ WT := wt_m (by decide +kernel) (by decide +kernel)
theorem wtC_263 : Cond.selects RX2 yX2_push yX2_push ∈ WT := wt_m (by decide +kernel) (by decide +kernel)
theorem wtC_264 : Cond.code yX2_push cX2_push 2 none ∈ WT := wt_m (by decide +kernel) (by decide +kernel)
theorem wtC_265 : Cond.methodLink RX2 147 yX2_push ∈ WT := wt_m (by decide +kernel) (by decide +kernel)
theorem wtC_266 : Cond.instanceMethod yX0_loadStack ∈ WT := wt_m (by decide +kernel) (by decide +kernel)
theorem wtC_267 : Cond.selects RX0 yX0_loadStack yX0_loadStack ∈ WT := wt_m (by decide +kernel) (by decide +kernel)
theorem wtC_268 : Cond.code yX0_loadStack cX0_loadStack 2 (some .int) ∈ WT := wt_m (by decide +kernel) (by decide +kernel)
theorem wtC_269 : Cond.methodLink RX2 165 yX0_loadStack ∈ WT := wt_m (by decide +kernel) (by decide +kernel)
theorem wtC_270 : Cond.instanceMethod yX2_pull ∈ WT := wt_m (by decide +kernel) (by decide +kernel)
theorem wtC_271 : Cond.selects RX2 yX2_pull yX2_pull ∈ WT := wt_m (by decide +kernel) (by decide +kernel)
theorem wtC_272 : Cond.code yX2_pull cX2_pull 1 (some .int) ∈ WT := wt_m (by decide +kernel) (by decide +kernel)
theorem wtC_273 : Cond.methodLink RX2 150 yX2_pull ∈ WT := wt_m (by decide +kernel) (by decide +kernel)
theorem wtC_274 : Cond.instanceMethod yX2_pushWord ∈ WT := wt_m (by decide +kernel) (by decide +kernel)
theorem wtC_275 : Cond.selects RX2 yX2_pushWord yX2_pushWord ∈ WT := wt_m (by decide +kernel) (by decide +kernel)
theorem wtC_276 : Cond.code yX2_pushWord cX2_pushWord 2 none ∈ WT := wt_m (by decide +kernel) (by decide +kernel)
theorem wtC_277 : Cond.methodLink RX2 156 yX2_pushWord ∈ WT := wt_m (by decide +kernel) (by decide +kernel)
theorem wtC_278 : Cond.instanceMethod yX0_vector ∈ WT := wt_m (by decide +kernel) (by decide +kernel)
theorem wtC_279 : Cond.selects RX0 yX0_vector yX0_vector ∈ WT := wt_m (by decide +kernel) (by decide +kernel)
theorem wtC_280 : Cond.code yX0_vector cX0_vector 2 (some .int) ∈ WT := wt_m (by decide +kernel) (by decide +kernel)
theorem wtC_281 : Cond.methodLink RX2 21 yX0_vector ∈ WT := wt_m (by decide +kernel) (by decide +kernel)
theorem wtC_282 : Cond.fieldLink RX2 27 "GameConsole$Core" "pc" "I" ∈ WT := wt_m (by decide +kernel) (by decide +kernel)
theorem wtC_283 : Cond.constant RX2 20 (65532) ∈ WT := wt_m (by decide +kernel) (by decide +kernel)
theorem wtC_284 : Cond.methodLink RX2 63 yX0_load ∈ WT := wt_m (by decide +kernel) (by decide +kernel)
theorem wtC_285 : Cond.constant RX2 66 (65535) ∈ WT := wt_m (by decide +kernel) (by decide +kernel)
theorem wtC_286 : Cond.instanceMethod yX2_fetch ∈ WT := wt_m (by decide +kernel) (by decide +kernel)
theorem wtC_287 : Cond.selects RX2 yX2_fetch yX2_fetch ∈ WT := wt_m (by decide +kernel) (by decide +kernel)
theorem wtC_288 : Cond.code yX2_fetch cX2_fetch 2 (some .int) ∈ WT := wt_m (by decide +kernel) (by decide +kernel)
theorem wtC_289 : Cond.methodLink RX2 36 yX2_fetch ∈ WT := wt_m (by decide +kernel) (by decide +kernel)
theorem wtC_290 : Cond.constant RX2 82 (65280) ∈ WT := wt_m (by decide +kernel) (by decide +kernel)
theorem wtC_291 : Cond.static yX2_otherPage ∈ WT := wt_m (by decide +kernel) (by decide +kernel)
theorem wtC_292 : Cond.code yX2_otherPage cX2_otherPage 2 (some .int) ∈ WT := wt_m (by decide +kernel) (by decide +kernel)
theorem wtC_293 : Cond.methodLink RX2 83 yX2_otherPage ∈ WT := wt_m (by decide +kernel) (by decide +kernel)
theorem wtC_294 : Cond.fieldLink RX2 67 "GameConsole$Core" "crossed" "I" ∈ WT := wt_m (by decide +kernel) (by decide +kernel)
theorem wtC_295 : Cond.fieldLink RX2 70 "GameConsole$Core" "x" "I" ∈ WT := wt_m (by decide +kernel) (by decide +kernel)
theorem wtC_296 : Cond.fieldLink RX2 73 "GameConsole$Core" "y" "I" ∈ WT := wt_m (by decide +kernel) (by decide +kernel)
theorem wtC_297 : Cond.instanceMethod yX2_wordWithinPage ∈ WT := wt_m (by decide +kernel) (by decide +kernel)
theorem wtC_298 : Cond.selects RX2 yX2_wordWithinPage yX2_wordWithinPage ∈ WT := wt_m (by decide +kernel) (by decide +kernel)
theorem wtC_299 : Cond.code yX2_wordWithinPage cX2_wordWithinPage 3 (some .int) ∈ WT := wt_m (by decide +kernel) (by decide +kernel)
theorem wtC_300 : Cond.methodLink RX2 76 yX2_wordWithinPage ∈ WT := wt_m (by decide +kernel) (by decide +kernel)
theorem wtC_301 : Cond.instanceMethod yX2_indexed ∈ WT := wt_m (by decide +kernel) (by decide +kernel)
theorem wtC_302 : Cond.selects RX2 yX2_indexed yX2_indexed ∈ WT := wt_m (by decide +kernel) (by decide +kernel)
theorem wtC_303 : Cond.code yX2_indexed cX2_indexed 4 (some .int) ∈ WT := wt_m (by decide +kernel) (by decide +kernel)
theorem wtC_304 : Cond.methodLink RX2 79 yX2_indexed ∈ WT := wt_m (by decide +kernel) (by decide +kernel)
theorem wtC_305 : Cond.fieldLink RX2 118 "GameConsole$Core" "a" "I" ∈ WT := wt_m (by decide +kernel) (by decide +kernel)
theorem wtC_306 : Cond.instanceMethod yX2_judged ∈ WT := wt_m (by decide +kernel) (by decide +kernel)
theorem wtC_307 : Cond.selects RX2 yX2_judged yX2_judged ∈ WT := wt_m (by decide +kernel) (by decide +kernel)
theorem wtC_308 : Cond.code yX2_judged cX2_judged 3 (some .int) ∈ WT := wt_m (by decide +kernel) (by decide +kernel)
theorem wtC_309 : Cond.methodLink RX2 115 yX2_judged ∈ WT := wt_m (by decide +kernel) (by decide +kernel)
theorem wtC_310 : Cond.instanceMethod yX2_add ∈ WT := wt_m (by decide +kernel) (by decide +kernel)
theorem wtC_311 : Cond.selects RX2 yX2_add yX2_add ∈ WT := wt_m (by decide +kernel) (by decide +kernel)
theorem wtC_312 : Cond.code yX2_add cX2_add 3 none ∈ WT := wt_m (by decide +kernel) (by decide +kernel)
theorem wtC_313 : Cond.methodLink RX2 121 yX2_add ∈ WT := wt_m (by decide +kernel) (by decide +kernel)
theorem wtC_314 : Cond.instanceMethod yX2_compare ∈ WT := wt_m (by decide +kernel) (by decide +kernel)
theorem wtC_315 : Cond.selects RX2 yX2_compare yX2_compare ∈ WT := wt_m (by decide +kernel) (by decide +kernel)
theorem wtC_316 : Cond.code yX2_compare cX2_compare 3 none ∈ WT := wt_m (by decide +kernel) (by decide +kernel)
theorem wtC_317 : Cond.methodLink RX2 124 yX2_compare ∈ WT := wt_m (by decide +kernel) (by decide +kernel)
theorem wtC_318 : Cond.instanceMethod yX2_testBits ∈ WT := wt_m (by decide +kernel) (by decide +kernel)
theorem wtC_319 : Cond.selects RX2 yX2_testBits yX2_testBits ∈ WT := wt_m (by decide +kernel) (by decide +kernel)
theorem wtC_320 : Cond.code yX2_testBits cX2_testBits 2 none ∈ WT := wt_m (by decide +kernel) (by decide +kernel)
theorem wtC_321 : Cond.methodLink RX2 127 yX2_testBits ∈ WT := wt_m (by decide +kernel) (by decide +kernel)
theorem wtC_322 : Cond.instanceMethod yX2_shiftedUp ∈ WT := wt_m (by decide +kernel) (by decide +kernel)
theorem wtC_323 : Cond.selects RX2 yX2_shiftedUp yX2_shiftedUp ∈ WT := wt_m (by decide +kernel) (by decide +kernel)
theorem wtC_324 : Cond.code yX2_shiftedUp cX2_shiftedUp 3 (some .int) ∈ WT := wt_m (by decide +kernel) (by decide +kernel)
theorem wtC_325 : Cond.methodLink RX2 137 yX2_shiftedUp ∈ WT := wt_m (by decide +kernel) (by decide +kernel)
theorem wtC_326 : Cond.instanceMethod yX2_shiftedDown ∈ WT := wt_m (by decide +kernel) (by decide +kernel)
theorem wtC_327 : Cond.selects RX2 yX2_shiftedDown yX2_shiftedDown ∈ WT := wt_m (by decide +kernel) (by decide +kernel)
theorem wtC_328 : Cond.code yX2_shiftedDown cX2_shiftedDown 3 (some .int) ∈ WT := wt_m (by decide +kernel) (by decide +kernel)
theorem wtC_329 : Cond.methodLink RX2 140 yX2_shiftedDown ∈ WT := wt_m (by decide +kernel) (by decide +kernel)
theorem wtC_330 : Cond.instanceMethod yX2_changed ∈ WT := wt_m (by decide +kernel) (by decide +kernel)
theorem wtC_331 : Cond.selects RX2 yX2_changed yX2_changed ∈ WT := wt_m (by decide +kernel) (by decide +kernel)
theorem wtC_332 : Cond.code yX2_changed cX2_changed 3 (some .int) ∈ WT := wt_m (by decide +kernel) (by decide +kernel)
theorem wtC_333 : Cond.methodLink RX2 134 yX2_changed ∈ WT := wt_m (by decide +kernel) (by decide +kernel)
theorem wtC_334 : Cond.instanceMethod yX0_store ∈ WT := wt_m (by decide +kernel) (by decide +kernel)
theorem wtC_335 : Cond.selects RX0 yX0_store yX0_store ∈ WT := wt_m (by decide +kernel) (by decide +kernel)
theorem wtC_336 : Cond.code yX0_store cX0_store 3 none ∈ WT := wt_m (by decide +kernel) (by decide +kernel)
theorem wtC_337 : Cond.methodLink RX2 93 yX0_store ∈ WT := wt_m (by decide +kernel) (by decide +kernel)
theorem wtC_338 : Cond.instanceMethod yX2_branchTaken ∈ WT := wt_m (by decide +kernel) (by decide +kernel)
theorem wtC_339 : Cond.selects RX2 yX2_branchTaken yX2_branchTaken ∈ WT := wt_m (by decide +kernel) (by decide +kernel)
theorem wtC_340 : Cond.code yX2_branchTaken cX2_branchTaken 2 (some .boolean) ∈ WT := wt_m (by decide +kernel) (by decide +kernel)
theorem wtC_341 : Cond.methodLink RX2 143 yX2_branchTaken ∈ WT := wt_m (by decide +kernel) (by decide +kernel)
theorem wtC_342 : Cond.instanceMethod yX2_pullFlags ∈ WT := wt_m (by decide +kernel) (by decide +kernel)
theorem wtC_343 : Cond.selects RX2 yX2_pullFlags yX2_pullFlags ∈ WT := wt_m (by decide +kernel) (by decide +kernel)
theorem wtC_344 : Cond.code yX2_pullFlags cX2_pullFlags 1 none ∈ WT := wt_m (by decide +kernel) (by decide +kernel)
theorem wtC_345 : Cond.methodLink RX2 153 yX2_pullFlags ∈ WT := wt_m (by decide +kernel) (by decide +kernel)
theorem wtC_346 : Cond.instanceMethod yX2_pullWord ∈ WT := wt_m (by decide +kernel) (by decide +kernel)
theorem wtC_347 : Cond.selects RX2 yX2_pullWord yX2_pullWord ∈ WT := wt_m (by decide +kernel) (by decide +kernel)
theorem wtC_348 : Cond.code yX2_pullWord cX2_pullWord 2 (some .int) ∈ WT := wt_m (by decide +kernel) (by decide +kernel)
theorem wtC_349 : Cond.methodLink RX2 159 yX2_pullWord ∈ WT := wt_m (by decide +kernel) (by decide +kernel)
theorem wtC_350 : Cond.constant RX2 35 (65534) ∈ WT := wt_m (by decide +kernel) (by decide +kernel)
theorem wtC_351 : Cond.instanceMethod yX2_enter ∈ WT := wt_m (by decide +kernel) (by decide +kernel)
theorem wtC_352 : Cond.selects RX2 yX2_enter yX2_enter ∈ WT := wt_m (by decide +kernel) (by decide +kernel)
theorem wtC_353 : Cond.code yX2_enter cX2_enter 4 none ∈ WT := wt_m (by decide +kernel) (by decide +kernel)
theorem wtC_354 : Cond.methodLink RX2 31 yX2_enter ∈ WT := wt_m (by decide +kernel) (by decide +kernel)
theorem wtC_355 : Cond.instanceMethod yX2_jump ∈ WT := wt_m (by decide +kernel) (by decide +kernel)
theorem wtC_356 : Cond.selects RX2 yX2_jump yX2_jump ∈ WT := wt_m (by decide +kernel) (by decide +kernel)
theorem wtC_357 : Cond.code yX2_jump cX2_jump 3 none ∈ WT := wt_m (by decide +kernel) (by decide +kernel)
theorem wtC_358 : Cond.methodLink RX2 112 yX2_jump ∈ WT := wt_m (by decide +kernel) (by decide +kernel)
theorem wtC_359 : Cond.instanceMethod yX2_useStack ∈ WT := wt_m (by decide +kernel) (by decide +kernel)
theorem wtC_360 : Cond.selects RX2 yX2_useStack yX2_useStack ∈ WT := wt_m (by decide +kernel) (by decide +kernel)
theorem wtC_361 : Cond.code yX2_useStack cX2_useStack 2 none ∈ WT := wt_m (by decide +kernel) (by decide +kernel)
theorem wtC_362 : Cond.methodLink RX2 109 yX2_useStack ∈ WT := wt_m (by decide +kernel) (by decide +kernel)
theorem wtC_363 : Cond.instanceMethod yX2_changeFlag ∈ WT := wt_m (by decide +kernel) (by decide +kernel)
theorem wtC_364 : Cond.selects RX2 yX2_changeFlag yX2_changeFlag ∈ WT := wt_m (by decide +kernel) (by decide +kernel)
theorem wtC_365 : Cond.code yX2_changeFlag cX2_changeFlag 2 none ∈ WT := wt_m (by decide +kernel) (by decide +kernel)
theorem wtC_366 : Cond.methodLink RX2 106 yX2_changeFlag ∈ WT := wt_m (by decide +kernel) (by decide +kernel)
theorem wtC_367 : Cond.instanceMethod yX2_changeRegister ∈ WT := wt_m (by decide +kernel) (by decide +kernel)
theorem wtC_368 : Cond.selects RX2 yX2_changeRegister yX2_changeRegister ∈ WT := wt_m (by decide +kernel) (by decide +kernel)
theorem wtC_369 : Cond.code yX2_changeRegister cX2_changeRegister 2 none ∈ WT := wt_m (by decide +kernel) (by decide +kernel)
theorem wtC_370 : Cond.methodLink RX2 102 yX2_changeRegister ∈ WT := wt_m (by decide +kernel) (by decide +kernel)
theorem wtC_371 : Cond.instanceMethod yX2_branch ∈ WT := wt_m (by decide +kernel) (by decide +kernel)
theorem wtC_372 : Cond.selects RX2 yX2_branch yX2_branch ∈ WT := wt_m (by decide +kernel) (by decide +kernel)
theorem wtC_373 : Cond.code yX2_branch cX2_branch 4 (some .int) ∈ WT := wt_m (by decide +kernel) (by decide +kernel)
theorem wtC_374 : Cond.methodLink RX2 99 yX2_branch ∈ WT := wt_m (by decide +kernel) (by decide +kernel)
theorem wtC_375 : Cond.instanceMethod yX2_change ∈ WT := wt_m (by decide +kernel) (by decide +kernel)
theorem wtC_376 : Cond.selects RX2 yX2_change yX2_change ∈ WT := wt_m (by decide +kernel) (by decide +kernel)
theorem wtC_377 : Cond.code yX2_change cX2_change 4 none ∈ WT := wt_m (by decide +kernel) (by decide +kernel)
theorem wtC_378 : Cond.methodLink RX2 96 yX2_change ∈ WT := wt_m (by decide +kernel) (by decide +kernel)
theorem wtC_379 : Cond.instanceMethod yX2_stored ∈ WT := wt_m (by decide +kernel) (by decide +kernel)
theorem wtC_380 : Cond.selects RX2 yX2_stored yX2_stored ∈ WT := wt_m (by decide +kernel) (by decide +kernel)
theorem wtC_381 : Cond.code yX2_stored cX2_stored 2 (some .int) ∈ WT := wt_m (by decide +kernel) (by decide +kernel)
theorem wtC_382 : Cond.methodLink RX2 90 yX2_stored ∈ WT := wt_m (by decide +kernel) (by decide +kernel)
theorem wtC_383 : Cond.instanceMethod yX2_combine ∈ WT := wt_m (by decide +kernel) (by decide +kernel)
theorem wtC_384 : Cond.selects RX2 yX2_combine yX2_combine ∈ WT := wt_m (by decide +kernel) (by decide +kernel)
theorem wtC_385 : Cond.code yX2_combine cX2_combine 3 none ∈ WT := wt_m (by decide +kernel) (by decide +kernel)
theorem wtC_386 : Cond.methodLink RX2 86 yX2_combine ∈ WT := wt_m (by decide +kernel) (by decide +kernel)
theorem wtC_387 : Cond.fieldLink RX2 40 "GameConsole$Opcodes" "OPERATION" "[I" ∈ WT := wt_m (by decide +kernel) (by decide +kernel)
theorem wtC_388 : Cond.fieldLink RX2 60 "GameConsole$Opcodes" "CYCLES" "[I" ∈ WT := wt_m (by decide +kernel) (by decide +kernel)
theorem wtC_389 : Cond.fieldLink RX2 46 "GameConsole$Opcodes" "MODE" "[I" ∈ WT := wt_m (by decide +kernel) (by decide +kernel)
theorem wtC_390 : Cond.instanceMethod yX2_fetchOperand ∈ WT := wt_m (by decide +kernel) (by decide +kernel)
theorem wtC_391 : Cond.selects RX2 yX2_fetchOperand yX2_fetchOperand ∈ WT := wt_m (by decide +kernel) (by decide +kernel)
theorem wtC_392 : Cond.code yX2_fetchOperand cX2_fetchOperand 3 (some .int) ∈ WT := wt_m (by decide +kernel) (by decide +kernel)
theorem wtC_393 : Cond.methodLink RX2 49 yX2_fetchOperand ∈ WT := wt_m (by decide +kernel) (by decide +kernel)
theorem wtC_394 : Cond.instanceMethod yX2_addressOf ∈ WT := wt_m (by decide +kernel) (by decide +kernel)
theorem wtC_395 : Cond.selects RX2 yX2_addressOf yX2_addressOf ∈ WT := wt_m (by decide +kernel) (by decide +kernel)
theorem wtC_396 : Cond.code yX2_addressOf cX2_addressOf 3 (some .int) ∈ WT := wt_m (by decide +kernel) (by decide +kernel)
theorem wtC_397 : Cond.methodLink RX2 52 yX2_addressOf ∈ WT := wt_m (by decide +kernel) (by decide +kernel)
theorem wtC_398 : Cond.instanceMethod yX2_perform ∈ WT := wt_m (by decide +kernel) (by decide +kernel)
theorem wtC_399 : Cond.selects RX2 yX2_perform yX2_perform ∈ WT := wt_m (by decide +kernel) (by decide +kernel)
theorem wtC_400 : Cond.code yX2_perform cX2_perform 5 (some .int) ∈ WT := wt_m (by decide +kernel) (by decide +kernel)
theorem wtC_401 : Cond.methodLink RX2 56 yX2_perform ∈ WT := wt_m (by decide +kernel) (by decide +kernel)
theorem wtC_402 : Cond.constant RX2 30 (65530) ∈ WT := wt_m (by decide +kernel) (by decide +kernel)
theorem wtC_403 : Cond.fieldLink RX9 31 "GameConsole" "sound" "LGameConsole$SoundUnit;" ∈ WT := wt_m (by decide +kernel) (by decide +kernel)
theorem wtC_404 : Cond.fieldLink RX9 10 "GameConsole" "cartridge" "LGameConsole$Cartridge;" ∈ WT := wt_m (by decide +kernel) (by decide +kernel)
theorem wtC_405 : Cond.fieldLink RX9 216 "GameConsole$Cartridge" "irqLine" "Z" ∈ WT := wt_m (by decide +kernel) (by decide +kernel)
theorem wtC_406 : Cond.fieldLink RX9 141 "GameConsole" "elapsed" "I" ∈ WT := wt_m (by decide +kernel) (by decide +kernel)
theorem wtC_407 : Cond.constant RX9 106 (65535) ∈ WT := wt_m (by decide +kernel) (by decide +kernel)
theorem wtC_408 : Cond.fieldLink RX9 24 "GameConsole" "picture" "LGameConsole$PictureUnit;" ∈ WT := wt_m (by decide +kernel) (by decide +kernel)
theorem wtC_409 : Cond.instanceMethod yX7_advance ∈ WT := wt_m (by decide +kernel) (by decide +kernel)
theorem wtC_410 : Cond.selects RX7 yX7_advance yX7_advance ∈ WT := wt_m (by decide +kernel) (by decide +kernel)
theorem wtC_411 : Cond.code yX7_advance cX7_advance 6 none ∈ WT := wt_m (by decide +kernel) (by decide +kernel)
theorem wtC_412 : Cond.methodLink RX9 220 yX7_advance ∈ WT := wt_m (by decide +kernel) (by decide +kernel)
theorem wtC_413 : Cond.instanceMethod yX8_advance ∈ WT := wt_m (by decide +kernel) (by decide +kernel)
theorem wtC_414 : Cond.selects RX8 yX8_advance yX8_advance ∈ WT := wt_m (by decide +kernel) (by decide +kernel)
theorem wtC_415 : Cond.code yX8_advance cX8_advance 6 none ∈ WT := wt_m (by decide +kernel) (by decide +kernel)
theorem wtC_416 : Cond.methodLink RX9 223 yX8_advance ∈ WT := wt_m (by decide +kernel) (by decide +kernel)
theorem wtC_417 : Cond.fieldLink RX9 47 "GameConsole" "bus" "LGameConsole$Bus;" ∈ WT := wt_m (by decide +kernel) (by decide +kernel)
theorem wtC_418 : Cond.instanceMethod yX0_copyPageAsked ∈ WT := wt_m (by decide +kernel) (by decide +kernel)
theorem wtC_419 : Cond.selects RX0 yX0_copyPageAsked yX0_copyPageAsked ∈ WT := wt_m (by decide +kernel) (by decide +kernel)
theorem wtC_420 : Cond.code yX0_copyPageAsked cX0_copyPageAsked 4 (some .int) ∈ WT := wt_m (by decide +kernel) (by decide +kernel)
theorem wtC_421 : Cond.methodLink RX9 217 yX0_copyPageAsked ∈ WT := wt_m (by decide +kernel) (by decide +kernel)
theorem wtC_422 : Cond.instanceMethod yX9_letTimePass ∈ WT := wt_m (by decide +kernel) (by decide +kernel)
theorem wtC_423 : Cond.selects RX9 yX9_letTimePass yX9_letTimePass ∈ WT := wt_m (by decide +kernel) (by decide +kernel)
theorem wtC_424 : Cond.initialized RX9 ∈ WT := wt_m (by decide +kernel) (by decide +kernel)
theorem wtC_425 : Cond.code yX9_letTimePass cX9_letTimePass 2 none ∈ WT := wt_m (by decide +kernel) (by decide +kernel)
theorem wtC_426 : Cond.methodLink RX9 102 yX9_letTimePass ∈ WT := wt_m (by decide +kernel) (by decide +kernel)
theorem wtC_427 : Cond.methodLink RX9 78 ⟨"GameConsole$Cartridge", "forgetShifted", "()V"⟩ ∈ WT := wt_m (by decide +kernel) (by decide +kernel)
theorem wtC_428 : Cond.instanceMethod yX7_restart ∈ WT := wt_m (by decide +kernel) (by decide +kernel)
theorem wtC_429 : Cond.selects RX7 yX7_restart yX7_restart ∈ WT := wt_m (by decide +kernel) (by decide +kernel)
theorem wtC_430 : Cond.code yX7_restart cX7_restart 1 none ∈ WT := wt_m (by decide +kernel) (by decide +kernel)
theorem wtC_431 : Cond.methodLink RX9 81 yX7_restart ∈ WT := wt_m (by decide +kernel) (by decide +kernel)
theorem wtC_432 : Cond.instanceMethod yX8_restart ∈ WT := wt_m (by decide +kernel) (by decide +kernel)
theorem wtC_433 : Cond.selects RX8 yX8_restart yX8_restart ∈ WT := wt_m (by decide +kernel) (by decide +kernel)
theorem wtC_434 : Cond.code yX8_restart cX8_restart 1 none ∈ WT := wt_m (by decide +kernel) (by decide +kernel)
theorem wtC_435 : Cond.methodLink RX9 84 yX8_restart ∈ WT := wt_m (by decide +kernel) (by decide +kernel)
theorem wtC_436 : Cond.fieldLink RX9 56 "GameConsole" "core" "LGameConsole$Core;" ∈ WT := wt_m (by decide +kernel) (by decide +kernel)
theorem wtC_437 : Cond.instanceMethod yX2_restart ∈ WT := wt_m (by decide +kernel) (by decide +kernel)
theorem wtC_438 : Cond.selects RX2 yX2_restart yX2_restart ∈ WT := wt_m (by decide +kernel) (by decide +kernel)
theorem wtC_439 : Cond.code yX2_restart cX2_restart 1 none ∈ WT := wt_m (by decide +kernel) (by decide +kernel)
theorem wtC_440 : Cond.methodLink RX9 85 yX2_restart ∈ WT := wt_m (by decide +kernel) (by decide +kernel)
theorem wtC_441 : Cond.instanceMethod yX7_takeNmi ∈ WT := wt_m (by decide +kernel) (by decide +kernel)
theorem wtC_442 : Cond.selects RX7 yX7_takeNmi yX7_takeNmi ∈ WT := wt_m (by decide +kernel) (by decide +kernel)
theorem wtC_443 : Cond.code yX7_takeNmi cX7_takeNmi 2 (some .boolean) ∈ WT := wt_m (by decide +kernel) (by decide +kernel)
theorem wtC_444 : Cond.methodLink RX9 86 yX7_takeNmi ∈ WT := wt_m (by decide +kernel) (by decide +kernel)
theorem wtC_445 : Cond.instanceMethod yX9_irqLines ∈ WT := wt_m (by decide +kernel) (by decide +kernel)
theorem wtC_446 : Cond.selects RX9 yX9_irqLines yX9_irqLines ∈ WT := wt_m (by decide +kernel) (by decide +kernel)
theorem wtC_447 : Cond.code yX9_irqLines cX9_irqLines 1 (some .int) ∈ WT := wt_m (by decide +kernel) (by decide +kernel)
theorem wtC_448 : Cond.methodLink RX9 90 yX9_irqLines ∈ WT := wt_m (by decide +kernel) (by decide +kernel)
theorem wtC_449 : Cond.instanceMethod yX2_takeStep ∈ WT := wt_m (by decide +kernel) (by decide +kernel)
theorem wtC_450 : Cond.selects RX2 yX2_takeStep yX2_takeStep ∈ WT := wt_m (by decide +kernel) (by decide +kernel)
theorem wtC_451 : Cond.code yX2_takeStep cX2_takeStep 8 (some .int) ∈ WT := wt_m (by decide +kernel) (by decide +kernel)
theorem wtC_452 : Cond.methodLink RX9 94 yX2_takeStep ∈ WT := wt_m (by decide +kernel) (by decide +kernel)
theorem wtC_453 : Cond.instanceMethod yX9_settle ∈ WT := wt_m (by decide +kernel) (by decide +kernel)
theorem wtC_454 : Cond.selects RX9 yX9_settle yX9_settle ∈ WT := wt_m (by decide +kernel) (by decide +kernel)
theorem wtC_455 : Cond.code yX9_settle cX9_settle 3 (some .int) ∈ WT := wt_m (by decide +kernel) (by decide +kernel)
theorem wtC_456 : Cond.methodLink RX9 98 yX9_settle ∈ WT := wt_m (by decide +kernel) (by decide +kernel)
theorem wtC_457 : Cond.methodLink RX9 107 yX0_load ∈ WT := wt_m (by decide +kernel) (by decide +kernel)
theorem wtC_458 : Cond.methodLink RX9 110 yX0_store ∈ WT := wt_m (by decide +kernel) (by decide +kernel)
theorem wtC_459 : Cond.methodLink RX9 183 yX7_byteAt ∈ WT := wt_m (by decide +kernel) (by decide +kernel)
end
section
/-! the class's world: one list of cells for a state S, by the cartridge's kind k (true: MMC3) -/
abbrev gE : Type := (Nat → Nat) × va_G × ClassId × ClassId × (Nat → Nat)
def cC1 (k : Bool) (η : gE) (S : gSt) : Nat × va_E := match k with
  | false => (η.1 1, .inr (2, [.ref (η.1 2), .ref (η.1 3), .ref (η.1 4), .ref (η.1 5), .int (S.1 1), .int (bI (S.2.1 0)), .int (S.1 2), .int (S.1 3), .int (S.1 4), .int (S.1 5), .int (S.1 6), .int (S.1 7), .int (S.1 8)]))
  | true => (η.1 1, .inr (3, [.ref (η.1 2), .ref (η.1 3), .ref (η.1 4), .ref (η.1 5), .int (S.1 1), .int (bI (S.2.1 0)), .ref (η.1 19), .int (S.1 9), .int (S.1 10), .int (S.1 11), .int (bI (S.2.1 1))]))
def rC19 (k : Bool) (η : gE) (S : gSt) : va_W := match k with
  | false => []
  | true => [(η.1 19, .inl (η.2.2.1, 8, .inl (S.2.2.2 19)))]
def wC (k : Bool) (η : gE) (S : gSt) : va_W := (η.1 0, .inr (7, [.ref (η.1 1), .ref (η.1 6), .ref (η.1 10), .ref (η.1 12), .ref (η.1 15), .ref (η.1 18), .int (S.1 0)])) ::
  cC1 k η S ::
  (η.1 2, .inl (η.2.2.1, 512, .inl (S.2.2.2 2))) ::
  (η.1 3, .inl (η.2.2.1, 128, .inl (S.2.2.2 3))) ::
  (η.1 4, .inl (η.2.2.1, 4, .inl (S.2.2.2 4))) ::
  (η.1 5, .inl (η.2.2.1, 8, .inl (S.2.2.2 5))) ::
  (η.1 6, .inr (5, [.ref (η.1 1), .ref (η.1 7), .ref (η.1 8), .ref (η.1 9), .int (S.1 12), .int (S.1 13), .int (S.1 14), .int (S.1 15), .int (S.1 16), .int (S.1 17), .int (S.1 18), .int (S.1 19), .int (S.1 20), .int (S.1 21), .int (S.1 22), .int (bI (S.2.1 2))])) ::
  (η.1 7, .inl (η.2.2.1, 256, .inl (S.2.2.2 7))) ::
  (η.1 8, .inl (η.2.2.1, 2048, .inl (S.2.2.2 8))) ::
  (η.1 9, .inl (η.2.2.1, 32, .inl (S.2.2.2 9))) ::
  (η.1 10, .inr (6, [.ref (η.1 11), .int (S.1 23), .int (S.1 24), .int (bI (S.2.1 3)), .int (bI (S.2.1 4)), .int (bI (S.2.1 5)), .int (S.1 25)])) ::
  (η.1 11, .inl (η.2.2.1, 4, .inl (S.2.2.2 11))) ::
  (η.1 12, .inr (4, [.ref (η.1 13), .ref (η.1 14), .int (bI (S.2.1 6))])) ::
  (η.1 13, .inl (η.2.2.1, 2, .inl (S.2.2.2 13))) ::
  (η.1 14, .inl (η.2.2.1, 2, .inl (S.2.2.2 14))) ::
  (η.1 15, .inr (0, [.ref (η.1 16), .ref (η.1 17), .ref (η.1 6), .ref (η.1 10), .ref (η.1 12), .ref (η.1 1), .int (S.1 26)])) ::
  (η.1 16, .inl (η.2.2.1, 2048, .inl (S.2.2.2 16))) ::
  (η.1 17, .inl (η.2.2.1, 256, .inl (S.2.2.2 17))) ::
  (η.1 18, .inr (1, [.ref (η.1 15), .int (S.1 27), .int (S.1 28), .int (S.1 29), .int (S.1 30), .int (S.1 31), .int (S.1 32), .int (S.1 33)])) :: rC19 k η S
def lOP : List Int32 := [56, 7, 0, 0, 0, 7, 16, 0, 49, 7, 16, 0, 0, 7, 16, 0, 22, 7, 0, 0, 0, 7, 16, 0, 40, 7, 0, 0, 0, 7, 16, 0, 53, 6, 0, 0, 12, 6, 18, 0, 51, 6, 18, 0, 12, 6, 18, 0, 23, 6, 0, 0, 0, 6, 18, 0, 41, 6, 0, 0, 0, 6, 18, 0, 55, 8, 0, 0, 0, 8, 17, 0, 48, 8, 17, 0, 52, 8, 17, 0, 24, 8, 0, 0, 0, 8, 17, 0, 42, 8, 0, 0, 0, 8, 17, 0, 54, 4, 0, 0, 0, 4, 19, 0, 50, 4, 19, 0, 52, 4, 19, 0, 25, 4, 0, 0, 0, 4, 19, 0, 43, 4, 0, 0, 0, 4, 19, 0, 0, 13, 0, 0, 15, 13, 14, 0, 39, 0, 32, 0, 15, 13, 14, 0, 26, 13, 0, 0, 15, 13, 14, 0, 33, 13, 35, 0, 0, 13, 0, 0, 3, 1, 2, 0, 3, 1, 2, 0, 31, 1, 30, 0, 3, 1, 2, 0, 27, 1, 0, 0, 3, 1, 2, 0, 44, 1, 34, 0, 3, 1, 2, 0, 11, 9, 0, 0, 11, 9, 21, 0, 37, 9, 38, 0, 11, 9, 21, 0, 28, 9, 0, 0, 0, 9, 21, 0, 45, 9, 0, 0, 0, 9, 21, 0, 10, 5, 0, 0, 10, 5, 20, 0, 36, 5, 47, 0, 10, 5, 20, 0, 29, 5, 0, 0, 0, 5, 20, 0, 46, 5, 0, 0, 0, 5, 20, 0]
def tOP (j : Nat) : Int32 := lOP.getD j 0
def lMO : List Int32 := [0, 6, 0, 0, 0, 3, 3, 0, 0, 2, 1, 0, 0, 9, 9, 0, 8, 7, 0, 0, 0, 4, 4, 0, 0, 11, 0, 0, 0, 10, 10, 0, 9, 6, 0, 0, 3, 3, 3, 0, 0, 2, 1, 0, 9, 9, 9, 0, 8, 7, 0, 0, 0, 4, 4, 0, 0, 11, 0, 0, 0, 10, 10, 0, 0, 6, 0, 0, 0, 3, 3, 0, 0, 2, 1, 0, 9, 9, 9, 0, 8, 7, 0, 0, 0, 4, 4, 0, 0, 11, 0, 0, 0, 10, 10, 0, 0, 6, 0, 0, 0, 3, 3, 0, 0, 2, 1, 0, 12, 9, 9, 0, 8, 7, 0, 0, 0, 4, 4, 0, 0, 11, 0, 0, 0, 10, 10, 0, 0, 6, 0, 0, 3, 3, 3, 0, 0, 0, 0, 0, 9, 9, 9, 0, 8, 7, 0, 0, 4, 4, 5, 0, 0, 11, 0, 0, 0, 10, 0, 0, 2, 6, 2, 0, 3, 3, 3, 0, 0, 2, 0, 0, 9, 9, 9, 0, 8, 7, 0, 0, 4, 4, 5, 0, 0, 11, 0, 0, 10, 10, 11, 0, 2, 6, 0, 0, 3, 3, 3, 0, 0, 2, 0, 0, 9, 9, 9, 0, 8, 7, 0, 0, 0, 4, 4, 0, 0, 11, 0, 0, 0, 10, 10, 0, 2, 6, 0, 0, 3, 3, 3, 0, 0, 2, 0, 0, 9, 9, 9, 0, 8, 7, 0, 0, 0, 4, 4, 0, 0, 11, 0, 0, 0, 10, 10, 0]
def tMO (j : Nat) : Int32 := lMO.getD j 0
def lCY : List Int32 := [7, 6, 2, 2, 2, 3, 5, 2, 3, 2, 2, 2, 2, 4, 6, 2, 2, 5, 2, 2, 2, 4, 6, 2, 2, 4, 2, 2, 2, 4, 7, 2, 6, 6, 2, 2, 3, 3, 5, 2, 4, 2, 2, 2, 4, 4, 6, 2, 2, 5, 2, 2, 2, 4, 6, 2, 2, 4, 2, 2, 2, 4, 7, 2, 6, 6, 2, 2, 2, 3, 5, 2, 3, 2, 2, 2, 3, 4, 6, 2, 2, 5, 2, 2, 2, 4, 6, 2, 2, 4, 2, 2, 2, 4, 7, 2, 6, 6, 2, 2, 2, 3, 5, 2, 4, 2, 2, 2, 5, 4, 6, 2, 2, 5, 2, 2, 2, 4, 6, 2, 2, 4, 2, 2, 2, 4, 7, 2, 2, 6, 2, 2, 3, 3, 3, 2, 2, 2, 2, 2, 4, 4, 4, 2, 2, 6, 2, 2, 4, 4, 4, 2, 2, 5, 2, 2, 2, 5, 2, 2, 2, 6, 2, 2, 3, 3, 3, 2, 2, 2, 2, 2, 4, 4, 4, 2, 2, 5, 2, 2, 4, 4, 4, 2, 2, 4, 2, 2, 4, 4, 4, 2, 2, 6, 2, 2, 3, 3, 5, 2, 2, 2, 2, 2, 4, 4, 6, 2, 2, 5, 2, 2, 2, 4, 6, 2, 2, 4, 2, 2, 2, 4, 7, 2, 2, 6, 2, 2, 3, 3, 5, 2, 2, 2, 2, 2, 4, 4, 6, 2, 2, 5, 2, 2, 2, 4, 6, 2, 2, 4, 2, 2, 2, 4, 7, 2]
def tCY (j : Nat) : Int32 := lCY.getD j 0
def lLE : List Int32 := [10, 254, 20, 2, 40, 4, 80, 6, 160, 8, 60, 10, 14, 12, 26, 14, 12, 16, 24, 18, 48, 20, 96, 22, 192, 24, 72, 26, 16, 28, 32, 30]
def tLE (j : Nat) : Int32 := lLE.getD j 0
def nwC : List Cond := [Cond.declares ⟨"GameConsole$Cartridge", "storeRegister", "(II)V"⟩, Cond.declares ⟨"GameConsole$Cartridge", "forgetShifted", "()V"⟩, Cond.declares ⟨"GameConsole$Cartridge", "noteLine", "()V"⟩, Cond.declares ⟨"GameConsole$Cartridge", "lineCounter", "()I"⟩, Cond.fieldLinkNest "GameConsole" 188 "GameConsole$PictureUnit" "oam" "[I" "GameConsole", Cond.fieldLinkNest "GameConsole" 160 "GameConsole$PictureUnit" "ctrl" "I" "GameConsole", Cond.fieldLinkNest "GameConsole" 163 "GameConsole$PictureUnit" "mask" "I" "GameConsole", Cond.fieldLinkNest "GameConsole" 166 "GameConsole$PictureUnit" "vblank" "I" "GameConsole", Cond.fieldLinkNest "GameConsole" 169 "GameConsole$PictureUnit" "oamAddress" "I" "GameConsole", Cond.fieldLinkNest "GameConsole" 150 "GameConsole$PictureUnit" "v" "I" "GameConsole", Cond.fieldLinkNest "GameConsole" 153 "GameConsole$PictureUnit" "t" "I" "GameConsole", Cond.fieldLinkNest "GameConsole" 156 "GameConsole$PictureUnit" "x" "I" "GameConsole", Cond.fieldLinkNest "GameConsole" 157 "GameConsole$PictureUnit" "w" "I" "GameConsole", Cond.fieldLinkNest "GameConsole" 178 "GameConsole$PictureUnit" "buffer" "I" "GameConsole", Cond.fieldLinkNest "GameConsole" 172 "GameConsole$PictureUnit" "line" "I" "GameConsole", Cond.fieldLinkNest "GameConsole" 175 "GameConsole$PictureUnit" "dot" "I" "GameConsole", Cond.fieldLinkNest "GameConsole" 144 "GameConsole$PictureUnit" "nmiPending" "Z" "GameConsole", Cond.fieldLinkNest "GameConsole" 210 "GameConsole$SoundUnit" "lengths" "[I" "GameConsole", Cond.fieldLinkNest "GameConsole" 213 "GameConsole$SoundUnit" "irqLine" "Z" "GameConsole", Cond.fieldLinkNest "GameConsole" 207 "GameConsole$SoundUnit" "frameCycles" "I" "GameConsole", Cond.fieldLinkNest "GameConsole" 119 "GameConsole$Pads" "buttons" "[I" "GameConsole", Cond.fieldLinkNest "GameConsole" 122 "GameConsole$Core" "a" "I" "GameConsole", Cond.fieldLinkNest "GameConsole" 126 "GameConsole$Core" "x" "I" "GameConsole", Cond.fieldLinkNest "GameConsole" 129 "GameConsole$Core" "y" "I" "GameConsole", Cond.fieldLinkNest "GameConsole" 132 "GameConsole$Core" "s" "I" "GameConsole", Cond.fieldLinkNest "GameConsole" 135 "GameConsole$Core" "p" "I" "GameConsole", Cond.fieldLinkNest "GameConsole" 138 "GameConsole$Core" "pc" "I" "GameConsole"]
def zC (η : gE) : (Nat → Prop) → State → Heap → Prop := fun A U H => (va_Z "GameConsole$Opcodes" "OPERATION" "[I" (.ref (η.2.2.2.2 0)) A U H ∧ va_T .int (η.2.2.2.2 0) 256 (fun j => .int (tOP j)) A U H) ∧ (va_Z "GameConsole$Opcodes" "MODE" "[I" (.ref (η.2.2.2.2 1)) A U H ∧ va_T .int (η.2.2.2.2 1) 256 (fun j => .int (tMO j)) A U H) ∧ (va_Z "GameConsole$Opcodes" "CYCLES" "[I" (.ref (η.2.2.2.2 2)) A U H ∧ va_T .int (η.2.2.2.2 2) 256 (fun j => .int (tCY j)) A U H) ∧ (va_Z "GameConsole$SoundUnit" "LENGTHS" "[I" (.ref (η.2.2.2.2 3)) A U H ∧ va_T .int (η.2.2.2.2 3) 32 (fun j => .int (tLE j)) A U H) ∧ ∀ w ∈ nwC, va_Nw w U
theorem zC_z0 (η : gE) : ∀ (A : Nat → Prop) (U : State) (H : Heap), zC η A U H → va_Z "GameConsole$Opcodes" "OPERATION" "[I" (.ref (η.2.2.2.2 0)) A U H := fun _ _ _ h => h.1.1
theorem zC_t0 (η : gE) : ∀ (A : Nat → Prop) (U : State) (H : Heap), zC η A U H → va_T .int (η.2.2.2.2 0) 256 (fun j => .int (tOP j)) A U H := fun _ _ _ h => h.1.2
theorem zC_z1 (η : gE) : ∀ (A : Nat → Prop) (U : State) (H : Heap), zC η A U H → va_Z "GameConsole$Opcodes" "MODE" "[I" (.ref (η.2.2.2.2 1)) A U H := fun _ _ _ h => h.2.1.1
theorem zC_t1 (η : gE) : ∀ (A : Nat → Prop) (U : State) (H : Heap), zC η A U H → va_T .int (η.2.2.2.2 1) 256 (fun j => .int (tMO j)) A U H := fun _ _ _ h => h.2.1.2
theorem zC_z2 (η : gE) : ∀ (A : Nat → Prop) (U : State) (H : Heap), zC η A U H → va_Z "GameConsole$Opcodes" "CYCLES" "[I" (.ref (η.2.2.2.2 2)) A U H := fun _ _ _ h => h.2.2.1.1
theorem zC_t2 (η : gE) : ∀ (A : Nat → Prop) (U : State) (H : Heap), zC η A U H → va_T .int (η.2.2.2.2 2) 256 (fun j => .int (tCY j)) A U H := fun _ _ _ h => h.2.2.1.2
theorem zC_z3 (η : gE) : ∀ (A : Nat → Prop) (U : State) (H : Heap), zC η A U H → va_Z "GameConsole$SoundUnit" "LENGTHS" "[I" (.ref (η.2.2.2.2 3)) A U H := fun _ _ _ h => h.2.2.2.1.1
theorem zC_t3 (η : gE) : ∀ (A : Nat → Prop) (U : State) (H : Heap), zC η A U H → va_T .int (η.2.2.2.2 3) 32 (fun j => .int (tLE j)) A U H := fun _ _ _ h => h.2.2.2.1.2
theorem zC_n (η : gE) {w : Cond} (hw : w ∈ nwC) : ∀ (A : Nat → Prop) (U : State) (H : Heap), zC η A U H → va_Nw w U := fun _ _ _ h => h.2.2.2.2 w hw
theorem nwC_warm {s U : State} (hW : s.WarmedH U.vm) : ∀ w ∈ nwC, va_Nw w s → va_Nw w U := by
  intro w hw h
  simp only [nwC, List.mem_cons, List.not_mem_nil, or_false] at hw
  rcases hw with rfl | rfl | rfl | rfl | rfl | rfl | rfl | rfl | rfl | rfl | rfl | rfl | rfl | rfl | rfl | rfl | rfl | rfl | rfl | rfl | rfl | rfl | rfl | rfl | rfl | rfl | rfl <;> first | exact va_Nw.warmD hW h | exact va_Nw.warmF hW h
theorem zC_ok (η : gE) : gZok (zC η) := by
  refine ⟨fun A u U H hW h => ?_, fun A U H H1 hq h => ?_, fun A B U H hAB h => ?_⟩
  · obtain ⟨⟨a1, a2⟩, ⟨b1, b2⟩, ⟨c1, c2⟩, ⟨d1, d2⟩, e⟩ := h
    exact ⟨⟨a1.moved hW.alike, a2.moved hW.alike⟩, ⟨b1.moved hW.alike, b2.moved hW.alike⟩, ⟨c1.moved hW.alike, c2.moved hW.alike⟩, ⟨d1.moved hW.alike, d2.moved hW.alike⟩, fun w hw => nwC_warm hW w hw (e w hw)⟩
  · obtain ⟨⟨a1, a2⟩, ⟨b1, b2⟩, ⟨c1, c2⟩, ⟨d1, d2⟩, e⟩ := h
    exact ⟨⟨a1.kept hq, a2.kept hq⟩, ⟨b1.kept hq, b2.kept hq⟩, ⟨c1.kept hq, c2.kept hq⟩, ⟨d1.kept hq, d2.kept hq⟩, e⟩
  · obtain ⟨⟨a1, a2⟩, ⟨b1, b2⟩, ⟨c1, c2⟩, ⟨d1, d2⟩, e⟩ := h
    exact ⟨⟨a1.narrow hAB, a2.narrow hAB⟩, ⟨b1.narrow hAB, b2.narrow hAB⟩, ⟨c1.narrow hAB, c2.narrow hAB⟩, ⟨d1.narrow hAB, d2.narrow hAB⟩, e⟩
def oC (k : Bool) (η : gE) : gO := (wC k η, η.2.1, [(η.2.2.1, .int)], zC η)
section RC
variable {ρ : Type} {k : Bool} {η : gE} {κ : gK} {cc : ByteArray} {nL : Nat} {own : String} {ret : Option FieldType} {rm : Room} {out : ρ → Option Value} {pc : Nat} {lv : List (Nat × Value)} {rest : List Value} {S : gSt} {X : ρ × gSt}
theorem gf_C_1_rom (hc : gC (oC k η) κ cc nL own ret rm) {i : Nat} (hm : Cond.fieldLink own i "GameConsole$Cartridge" "rom" "[I" ∈ WT) (hd : decode cc pc = .ok (.getfield i, 3)) (kk : gG (oC k η) κ nL out (pc + 3) lv (.ref (η.1 2) :: rest) S X) : gG (oC k η) κ nL out pc lv (.ref (η.1 1) :: rest) S X := by
  cases k
  · exact g_get hc (C := RX3) (T := TX3) (N := 13) (ci := 2) 1 0 wu_X3 hm (Or.inl rfl) (by decide) rfl rfl rfl hd kk
  · exact g_get hc (C := RX4) (T := TX4) (N := 11) (ci := 3) 1 0 wu_X4 hm (Or.inl rfl) (by decide) rfl rfl rfl hd kk
theorem gf_C_1_romBanks (hc : gC (oC k η) κ cc nL own ret rm) {i : Nat} (hm : Cond.fieldLink own i "GameConsole$Cartridge" "romBanks" "[I" ∈ WT) (hd : decode cc pc = .ok (.getfield i, 3)) (kk : gG (oC k η) κ nL out (pc + 3) lv (.ref (η.1 4) :: rest) S X) : gG (oC k η) κ nL out pc lv (.ref (η.1 1) :: rest) S X := by
  cases k
  · exact g_get hc (C := RX3) (T := TX3) (N := 13) (ci := 2) 1 2 wu_X3 hm (Or.inl rfl) (by decide) rfl rfl rfl hd kk
  · exact g_get hc (C := RX4) (T := TX4) (N := 11) (ci := 3) 1 2 wu_X4 hm (Or.inl rfl) (by decide) rfl rfl rfl hd kk
theorem al_C_4 (hc : gC (oC k η) κ cc nL own ret rm) {i : Int32} (hin : vp_in i 4) (hd : decode cc pc = .ok (.iaload, 1)) (kk : gG (oC k η) κ nL out (pc + 1) lv (.int (aG S 4 i) :: rest) S X) : gG (oC k η) κ nL out pc lv (.int i :: .ref (η.1 4) :: rest) S X := g_iald hc 4 0 rfl rfl hin hd kk
theorem al_C_2 (hc : gC (oC k η) κ cc nL own ret rm) {i : Int32} (hin : vp_in i 512) (hd : decode cc pc = .ok (.iaload, 1)) (kk : gG (oC k η) κ nL out (pc + 1) lv (.int (aG S 2 i) :: rest) S X) : gG (oC k η) κ nL out pc lv (.int i :: .ref (η.1 2) :: rest) S X := g_iald hc 2 0 rfl rfl hin hd kk
theorem gf_C_1_chr (hc : gC (oC k η) κ cc nL own ret rm) {i : Nat} (hm : Cond.fieldLink own i "GameConsole$Cartridge" "chr" "[I" ∈ WT) (hd : decode cc pc = .ok (.getfield i, 3)) (kk : gG (oC k η) κ nL out (pc + 3) lv (.ref (η.1 3) :: rest) S X) : gG (oC k η) κ nL out pc lv (.ref (η.1 1) :: rest) S X := by
  cases k
  · exact g_get hc (C := RX3) (T := TX3) (N := 13) (ci := 2) 1 1 wu_X3 hm (Or.inl rfl) (by decide) rfl rfl rfl hd kk
  · exact g_get hc (C := RX4) (T := TX4) (N := 11) (ci := 3) 1 1 wu_X4 hm (Or.inl rfl) (by decide) rfl rfl rfl hd kk
theorem gf_C_1_chrBanks (hc : gC (oC k η) κ cc nL own ret rm) {i : Nat} (hm : Cond.fieldLink own i "GameConsole$Cartridge" "chrBanks" "[I" ∈ WT) (hd : decode cc pc = .ok (.getfield i, 3)) (kk : gG (oC k η) κ nL out (pc + 3) lv (.ref (η.1 5) :: rest) S X) : gG (oC k η) κ nL out pc lv (.ref (η.1 1) :: rest) S X := by
  cases k
  · exact g_get hc (C := RX3) (T := TX3) (N := 13) (ci := 2) 1 3 wu_X3 hm (Or.inl rfl) (by decide) rfl rfl rfl hd kk
  · exact g_get hc (C := RX4) (T := TX4) (N := 11) (ci := 3) 1 3 wu_X4 hm (Or.inl rfl) (by decide) rfl rfl rfl hd kk
theorem al_C_5 (hc : gC (oC k η) κ cc nL own ret rm) {i : Int32} (hin : vp_in i 8) (hd : decode cc pc = .ok (.iaload, 1)) (kk : gG (oC k η) κ nL out (pc + 1) lv (.int (aG S 5 i) :: rest) S X) : gG (oC k η) κ nL out pc lv (.int i :: .ref (η.1 5) :: rest) S X := g_iald hc 5 0 rfl rfl hin hd kk
theorem al_C_3 (hc : gC (oC k η) κ cc nL own ret rm) {i : Int32} (hin : vp_in i 128) (hd : decode cc pc = .ok (.iaload, 1)) (kk : gG (oC k η) κ nL out (pc + 1) lv (.int (aG S 3 i) :: rest) S X) : gG (oC k η) κ nL out pc lv (.int i :: .ref (η.1 3) :: rest) S X := g_iald hc 3 0 rfl rfl hin hd kk
theorem as_C_4 (hc : gC (oC k η) κ cc nL own ret rm) {i x : Int32} {F : gSt → ρ × gSt} (hin : vp_in i 4) (hd : decode cc pc = .ok (.iastore, 1)) (kk : ∀ S1 : gSt, S1 = aP S 4 i x → gG (oC k η) κ nL out (pc + 1) lv rest S1 (F S1)) : gG (oC k η) κ nL out pc lv (.int x :: .int i :: .ref (η.1 4) :: rest) S (gL (aP S 4 i x) F) := g_iast hc 4 0 rfl rfl hin (by cases k <;> rfl) hd kk
theorem as_C_5 (hc : gC (oC k η) κ cc nL own ret rm) {i x : Int32} {F : gSt → ρ × gSt} (hin : vp_in i 8) (hd : decode cc pc = .ok (.iastore, 1)) (kk : ∀ S1 : gSt, S1 = aP S 5 i x → gG (oC k η) κ nL out (pc + 1) lv rest S1 (F S1)) : gG (oC k η) κ nL out pc lv (.int x :: .int i :: .ref (η.1 5) :: rest) S (gL (aP S 5 i x) F) := g_iast hc 5 0 rfl rfl hin (by cases k <;> rfl) hd kk
theorem pf_C_1_shifted_false {v : Int32} {F : gSt → ρ × gSt} (hc : gC (oC false η) κ cc nL own ret rm) {i : Nat} (hm : Cond.fieldLink own i "GameConsole$Mmc1" "shifted" "I" ∈ WT) (hd : decode cc pc = .ok (.putfield i, 3)) (kk : ∀ S1 : gSt, S1 = sI S 2 v → gG (oC false η) κ nL out (pc + 3) lv rest S1 (F S1)) : gG (oC false η) κ nL out pc lv (.int v :: .ref (η.1 1) :: rest) S (gL (sI S 2 v) F) := g_put hc (C := RX3) (T := TX3) (N := 13) (ci := 2) 1 6 wu_X3 tyX3_ok nmX3 hm (Or.inl rfl) (by decide) rfl rfl rfl rfl rfl rfl (Nat.le_of_ble_eq_true rfl) rfl hd kk
theorem pf_C_1_count_false {v : Int32} {F : gSt → ρ × gSt} (hc : gC (oC false η) κ cc nL own ret rm) {i : Nat} (hm : Cond.fieldLink own i "GameConsole$Mmc1" "count" "I" ∈ WT) (hd : decode cc pc = .ok (.putfield i, 3)) (kk : ∀ S1 : gSt, S1 = sI S 3 v → gG (oC false η) κ nL out (pc + 3) lv rest S1 (F S1)) : gG (oC false η) κ nL out pc lv (.int v :: .ref (η.1 1) :: rest) S (gL (sI S 3 v) F) := g_put hc (C := RX3) (T := TX3) (N := 13) (ci := 2) 1 7 wu_X3 tyX3_ok nmX3 hm (Or.inl rfl) (by decide) rfl rfl rfl rfl rfl rfl (Nat.le_of_ble_eq_true rfl) rfl hd kk
theorem pf_C_1_mirroring_false_same {v : Int32} {F : gSt → ρ × gSt} (hc : gC (oC false η) κ cc nL own ret rm) {i : Nat} (hm : Cond.fieldLink own i "GameConsole$Mmc1" "mirroring" "I" ∈ WT) (hs : Cond.sameField "GameConsole$Mmc1" "GameConsole$Cartridge" "mirroring" "I" ∈ WT) (hd : decode cc pc = .ok (.putfield i, 3)) (kk : ∀ S1 : gSt, S1 = sI S 1 v → gG (oC false η) κ nL out (pc + 3) lv rest S1 (F S1)) : gG (oC false η) κ nL out pc lv (.int v :: .ref (η.1 1) :: rest) S (gL (sI S 1 v) F) := g_put hc (C := RX3) (T := TX3) (N := 13) (ci := 2) 1 4 wu_X3 tyX3_ok nmX3 hm (Or.inr hs) (by decide) rfl rfl rfl rfl rfl rfl (Nat.le_of_ble_eq_true rfl) rfl hd kk
theorem pf_C_1_prgMode_false {v : Int32} {F : gSt → ρ × gSt} (hc : gC (oC false η) κ cc nL own ret rm) {i : Nat} (hm : Cond.fieldLink own i "GameConsole$Mmc1" "prgMode" "I" ∈ WT) (hd : decode cc pc = .ok (.putfield i, 3)) (kk : ∀ S1 : gSt, S1 = sI S 4 v → gG (oC false η) κ nL out (pc + 3) lv rest S1 (F S1)) : gG (oC false η) κ nL out pc lv (.int v :: .ref (η.1 1) :: rest) S (gL (sI S 4 v) F) := g_put hc (C := RX3) (T := TX3) (N := 13) (ci := 2) 1 8 wu_X3 tyX3_ok nmX3 hm (Or.inl rfl) (by decide) rfl rfl rfl rfl rfl rfl (Nat.le_of_ble_eq_true rfl) rfl hd kk
theorem pf_C_1_chrMode_false {v : Int32} {F : gSt → ρ × gSt} (hc : gC (oC false η) κ cc nL own ret rm) {i : Nat} (hm : Cond.fieldLink own i "GameConsole$Mmc1" "chrMode" "I" ∈ WT) (hd : decode cc pc = .ok (.putfield i, 3)) (kk : ∀ S1 : gSt, S1 = sI S 6 v → gG (oC false η) κ nL out (pc + 3) lv rest S1 (F S1)) : gG (oC false η) κ nL out pc lv (.int v :: .ref (η.1 1) :: rest) S (gL (sI S 6 v) F) := g_put hc (C := RX3) (T := TX3) (N := 13) (ci := 2) 1 10 wu_X3 tyX3_ok nmX3 hm (Or.inl rfl) (by decide) rfl rfl rfl rfl rfl rfl (Nat.le_of_ble_eq_true rfl) rfl hd kk
theorem pf_C_1_firstChr_false {v : Int32} {F : gSt → ρ × gSt} (hc : gC (oC false η) κ cc nL own ret rm) {i : Nat} (hm : Cond.fieldLink own i "GameConsole$Mmc1" "firstChr" "I" ∈ WT) (hd : decode cc pc = .ok (.putfield i, 3)) (kk : ∀ S1 : gSt, S1 = sI S 7 v → gG (oC false η) κ nL out (pc + 3) lv rest S1 (F S1)) : gG (oC false η) κ nL out pc lv (.int v :: .ref (η.1 1) :: rest) S (gL (sI S 7 v) F) := g_put hc (C := RX3) (T := TX3) (N := 13) (ci := 2) 1 11 wu_X3 tyX3_ok nmX3 hm (Or.inl rfl) (by decide) rfl rfl rfl rfl rfl rfl (Nat.le_of_ble_eq_true rfl) rfl hd kk
theorem pf_C_1_secondChr_false {v : Int32} {F : gSt → ρ × gSt} (hc : gC (oC false η) κ cc nL own ret rm) {i : Nat} (hm : Cond.fieldLink own i "GameConsole$Mmc1" "secondChr" "I" ∈ WT) (hd : decode cc pc = .ok (.putfield i, 3)) (kk : ∀ S1 : gSt, S1 = sI S 8 v → gG (oC false η) κ nL out (pc + 3) lv rest S1 (F S1)) : gG (oC false η) κ nL out pc lv (.int v :: .ref (η.1 1) :: rest) S (gL (sI S 8 v) F) := g_put hc (C := RX3) (T := TX3) (N := 13) (ci := 2) 1 12 wu_X3 tyX3_ok nmX3 hm (Or.inl rfl) (by decide) rfl rfl rfl rfl rfl rfl (Nat.le_of_ble_eq_true rfl) rfl hd kk
theorem pf_C_1_prgBank_false {v : Int32} {F : gSt → ρ × gSt} (hc : gC (oC false η) κ cc nL own ret rm) {i : Nat} (hm : Cond.fieldLink own i "GameConsole$Mmc1" "prgBank" "I" ∈ WT) (hd : decode cc pc = .ok (.putfield i, 3)) (kk : ∀ S1 : gSt, S1 = sI S 5 v → gG (oC false η) κ nL out (pc + 3) lv rest S1 (F S1)) : gG (oC false η) κ nL out pc lv (.int v :: .ref (η.1 1) :: rest) S (gL (sI S 5 v) F) := g_put hc (C := RX3) (T := TX3) (N := 13) (ci := 2) 1 9 wu_X3 tyX3_ok nmX3 hm (Or.inl rfl) (by decide) rfl rfl rfl rfl rfl rfl (Nat.le_of_ble_eq_true rfl) rfl hd kk
theorem gf_C_1_prgBank_false (hc : gC (oC false η) κ cc nL own ret rm) {i : Nat} (hm : Cond.fieldLink own i "GameConsole$Mmc1" "prgBank" "I" ∈ WT) (hd : decode cc pc = .ok (.getfield i, 3)) (kk : gG (oC false η) κ nL out (pc + 3) lv (.int (S.1 5) :: rest) S X) : gG (oC false η) κ nL out pc lv (.ref (η.1 1) :: rest) S X := g_get hc (C := RX3) (T := TX3) (N := 13) (ci := 2) 1 9 wu_X3 hm (Or.inl rfl) (by decide) rfl rfl rfl hd kk
theorem gf_C_1_prgMode_false (hc : gC (oC false η) κ cc nL own ret rm) {i : Nat} (hm : Cond.fieldLink own i "GameConsole$Mmc1" "prgMode" "I" ∈ WT) (hd : decode cc pc = .ok (.getfield i, 3)) (kk : gG (oC false η) κ nL out (pc + 3) lv (.int (S.1 4) :: rest) S X) : gG (oC false η) κ nL out pc lv (.ref (η.1 1) :: rest) S X := g_get hc (C := RX3) (T := TX3) (N := 13) (ci := 2) 1 8 wu_X3 hm (Or.inl rfl) (by decide) rfl rfl rfl hd kk
theorem gf_C_1_chrMode_false (hc : gC (oC false η) κ cc nL own ret rm) {i : Nat} (hm : Cond.fieldLink own i "GameConsole$Mmc1" "chrMode" "I" ∈ WT) (hd : decode cc pc = .ok (.getfield i, 3)) (kk : gG (oC false η) κ nL out (pc + 3) lv (.int (S.1 6) :: rest) S X) : gG (oC false η) κ nL out pc lv (.ref (η.1 1) :: rest) S X := g_get hc (C := RX3) (T := TX3) (N := 13) (ci := 2) 1 10 wu_X3 hm (Or.inl rfl) (by decide) rfl rfl rfl hd kk
theorem gf_C_1_secondChr_false (hc : gC (oC false η) κ cc nL own ret rm) {i : Nat} (hm : Cond.fieldLink own i "GameConsole$Mmc1" "secondChr" "I" ∈ WT) (hd : decode cc pc = .ok (.getfield i, 3)) (kk : gG (oC false η) κ nL out (pc + 3) lv (.int (S.1 8) :: rest) S X) : gG (oC false η) κ nL out pc lv (.ref (η.1 1) :: rest) S X := g_get hc (C := RX3) (T := TX3) (N := 13) (ci := 2) 1 12 wu_X3 hm (Or.inl rfl) (by decide) rfl rfl rfl hd kk
theorem gf_C_1_firstChr_false (hc : gC (oC false η) κ cc nL own ret rm) {i : Nat} (hm : Cond.fieldLink own i "GameConsole$Mmc1" "firstChr" "I" ∈ WT) (hd : decode cc pc = .ok (.getfield i, 3)) (kk : gG (oC false η) κ nL out (pc + 3) lv (.int (S.1 7) :: rest) S X) : gG (oC false η) κ nL out pc lv (.ref (η.1 1) :: rest) S X := g_get hc (C := RX3) (T := TX3) (N := 13) (ci := 2) 1 11 wu_X3 hm (Or.inl rfl) (by decide) rfl rfl rfl hd kk
theorem gf_C_1_shifted_false (hc : gC (oC false η) κ cc nL own ret rm) {i : Nat} (hm : Cond.fieldLink own i "GameConsole$Mmc1" "shifted" "I" ∈ WT) (hd : decode cc pc = .ok (.getfield i, 3)) (kk : gG (oC false η) κ nL out (pc + 3) lv (.int (S.1 2) :: rest) S X) : gG (oC false η) κ nL out pc lv (.ref (η.1 1) :: rest) S X := g_get hc (C := RX3) (T := TX3) (N := 13) (ci := 2) 1 6 wu_X3 hm (Or.inl rfl) (by decide) rfl rfl rfl hd kk
theorem gf_C_1_count_false (hc : gC (oC false η) κ cc nL own ret rm) {i : Nat} (hm : Cond.fieldLink own i "GameConsole$Mmc1" "count" "I" ∈ WT) (hd : decode cc pc = .ok (.getfield i, 3)) (kk : gG (oC false η) κ nL out (pc + 3) lv (.int (S.1 3) :: rest) S X) : gG (oC false η) κ nL out pc lv (.ref (η.1 1) :: rest) S X := g_get hc (C := RX3) (T := TX3) (N := 13) (ci := 2) 1 7 wu_X3 hm (Or.inl rfl) (by decide) rfl rfl rfl hd kk
theorem gf_C_1_counter_true (hc : gC (oC true η) κ cc nL own ret rm) {i : Nat} (hm : Cond.fieldLink own i "GameConsole$Mmc3" "counter" "I" ∈ WT) (hd : decode cc pc = .ok (.getfield i, 3)) (kk : gG (oC true η) κ nL out (pc + 3) lv (.int (S.1 11) :: rest) S X) : gG (oC true η) κ nL out pc lv (.ref (η.1 1) :: rest) S X := g_get hc (C := RX4) (T := TX4) (N := 11) (ci := 3) 1 9 wu_X4 hm (Or.inl rfl) (by decide) rfl rfl rfl hd kk
theorem gf_C_1_latch_true (hc : gC (oC true η) κ cc nL own ret rm) {i : Nat} (hm : Cond.fieldLink own i "GameConsole$Mmc3" "latch" "I" ∈ WT) (hd : decode cc pc = .ok (.getfield i, 3)) (kk : gG (oC true η) κ nL out (pc + 3) lv (.int (S.1 10) :: rest) S X) : gG (oC true η) κ nL out pc lv (.ref (η.1 1) :: rest) S X := g_get hc (C := RX4) (T := TX4) (N := 11) (ci := 3) 1 8 wu_X4 hm (Or.inl rfl) (by decide) rfl rfl rfl hd kk
theorem pf_C_1_counter_true {v : Int32} {F : gSt → ρ × gSt} (hc : gC (oC true η) κ cc nL own ret rm) {i : Nat} (hm : Cond.fieldLink own i "GameConsole$Mmc3" "counter" "I" ∈ WT) (hd : decode cc pc = .ok (.putfield i, 3)) (kk : ∀ S1 : gSt, S1 = sI S 11 v → gG (oC true η) κ nL out (pc + 3) lv rest S1 (F S1)) : gG (oC true η) κ nL out pc lv (.int v :: .ref (η.1 1) :: rest) S (gL (sI S 11 v) F) := g_put hc (C := RX4) (T := TX4) (N := 11) (ci := 3) 1 9 wu_X4 tyX4_ok nmX4 hm (Or.inl rfl) (by decide) rfl rfl rfl rfl rfl rfl (Nat.le_of_ble_eq_true rfl) rfl hd kk
theorem gf_C_1_interruptsOn_true (hc : gC (oC true η) κ cc nL own ret rm) {i : Nat} (hm : Cond.fieldLink own i "GameConsole$Mmc3" "interruptsOn" "Z" ∈ WT) (hd : decode cc pc = .ok (.getfield i, 3)) (kk : gG (oC true η) κ nL out (pc + 3) lv (.int (bI (S.2.1 1)) :: rest) S X) : gG (oC true η) κ nL out pc lv (.ref (η.1 1) :: rest) S X := g_get hc (C := RX4) (T := TX4) (N := 11) (ci := 3) 1 10 wu_X4 hm (Or.inl rfl) (by decide) rfl rfl rfl hd kk
theorem pf_C_1_irqLine_true_same {v : Bool} {F : gSt → ρ × gSt} (hc : gC (oC true η) κ cc nL own ret rm) {i : Nat} (hm : Cond.fieldLink own i "GameConsole$Mmc3" "irqLine" "Z" ∈ WT) (hs : Cond.sameField "GameConsole$Mmc3" "GameConsole$Cartridge" "irqLine" "Z" ∈ WT) (hd : decode cc pc = .ok (.putfield i, 3)) (kk : ∀ S1 : gSt, S1 = sZ S 0 v → gG (oC true η) κ nL out (pc + 3) lv rest S1 (F S1)) : gG (oC true η) κ nL out pc lv (.int (bI v) :: .ref (η.1 1) :: rest) S (gL (sZ S 0 v) F) := g_put hc (C := RX4) (T := TX4) (N := 11) (ci := 3) 1 5 wu_X4 tyX4_ok nmX4 hm (Or.inr hs) (by decide) rfl rfl rfl rfl (bI_nar v) (by cases v <;> rfl) (Nat.le_of_ble_eq_true rfl) rfl hd kk
theorem gf_C_1_select_true (hc : gC (oC true η) κ cc nL own ret rm) {i : Nat} (hm : Cond.fieldLink own i "GameConsole$Mmc3" "select" "I" ∈ WT) (hd : decode cc pc = .ok (.getfield i, 3)) (kk : gG (oC true η) κ nL out (pc + 3) lv (.int (S.1 9) :: rest) S X) : gG (oC true η) κ nL out pc lv (.ref (η.1 1) :: rest) S X := g_get hc (C := RX4) (T := TX4) (N := 11) (ci := 3) 1 7 wu_X4 hm (Or.inl rfl) (by decide) rfl rfl rfl hd kk
theorem gf_C_1_registers_true (hc : gC (oC true η) κ cc nL own ret rm) {i : Nat} (hm : Cond.fieldLink own i "GameConsole$Mmc3" "registers" "[I" ∈ WT) (hd : decode cc pc = .ok (.getfield i, 3)) (kk : gG (oC true η) κ nL out (pc + 3) lv (.ref (η.1 19) :: rest) S X) : gG (oC true η) κ nL out pc lv (.ref (η.1 1) :: rest) S X := g_get hc (C := RX4) (T := TX4) (N := 11) (ci := 3) 1 6 wu_X4 hm (Or.inl rfl) (by decide) rfl rfl rfl hd kk
theorem al_C_19 (hc : gC (oC true η) κ cc nL own ret rm) {i : Int32} (hin : vp_in i 8) (hd : decode cc pc = .ok (.iaload, 1)) (kk : gG (oC true η) κ nL out (pc + 1) lv (.int (aG S 19 i) :: rest) S X) : gG (oC true η) κ nL out pc lv (.int i :: .ref (η.1 19) :: rest) S X := g_iald hc 19 0 rfl rfl hin hd kk
theorem pf_C_1_select_true {v : Int32} {F : gSt → ρ × gSt} (hc : gC (oC true η) κ cc nL own ret rm) {i : Nat} (hm : Cond.fieldLink own i "GameConsole$Mmc3" "select" "I" ∈ WT) (hd : decode cc pc = .ok (.putfield i, 3)) (kk : ∀ S1 : gSt, S1 = sI S 9 v → gG (oC true η) κ nL out (pc + 3) lv rest S1 (F S1)) : gG (oC true η) κ nL out pc lv (.int v :: .ref (η.1 1) :: rest) S (gL (sI S 9 v) F) := g_put hc (C := RX4) (T := TX4) (N := 11) (ci := 3) 1 7 wu_X4 tyX4_ok nmX4 hm (Or.inl rfl) (by decide) rfl rfl rfl rfl rfl rfl (Nat.le_of_ble_eq_true rfl) rfl hd kk
theorem as_C_19 (hc : gC (oC true η) κ cc nL own ret rm) {i x : Int32} {F : gSt → ρ × gSt} (hin : vp_in i 8) (hd : decode cc pc = .ok (.iastore, 1)) (kk : ∀ S1 : gSt, S1 = aP S 19 i x → gG (oC true η) κ nL out (pc + 1) lv rest S1 (F S1)) : gG (oC true η) κ nL out pc lv (.int x :: .int i :: .ref (η.1 19) :: rest) S (gL (aP S 19 i x) F) := g_iast hc 19 0 rfl rfl hin rfl hd kk
theorem pf_C_1_mirroring_true_same {v : Int32} {F : gSt → ρ × gSt} (hc : gC (oC true η) κ cc nL own ret rm) {i : Nat} (hm : Cond.fieldLink own i "GameConsole$Mmc3" "mirroring" "I" ∈ WT) (hs : Cond.sameField "GameConsole$Mmc3" "GameConsole$Cartridge" "mirroring" "I" ∈ WT) (hd : decode cc pc = .ok (.putfield i, 3)) (kk : ∀ S1 : gSt, S1 = sI S 1 v → gG (oC true η) κ nL out (pc + 3) lv rest S1 (F S1)) : gG (oC true η) κ nL out pc lv (.int v :: .ref (η.1 1) :: rest) S (gL (sI S 1 v) F) := g_put hc (C := RX4) (T := TX4) (N := 11) (ci := 3) 1 4 wu_X4 tyX4_ok nmX4 hm (Or.inr hs) (by decide) rfl rfl rfl rfl rfl rfl (Nat.le_of_ble_eq_true rfl) rfl hd kk
theorem pf_C_1_latch_true {v : Int32} {F : gSt → ρ × gSt} (hc : gC (oC true η) κ cc nL own ret rm) {i : Nat} (hm : Cond.fieldLink own i "GameConsole$Mmc3" "latch" "I" ∈ WT) (hd : decode cc pc = .ok (.putfield i, 3)) (kk : ∀ S1 : gSt, S1 = sI S 10 v → gG (oC true η) κ nL out (pc + 3) lv rest S1 (F S1)) : gG (oC true η) κ nL out pc lv (.int v :: .ref (η.1 1) :: rest) S (gL (sI S 10 v) F) := g_put hc (C := RX4) (T := TX4) (N := 11) (ci := 3) 1 8 wu_X4 tyX4_ok nmX4 hm (Or.inl rfl) (by decide) rfl rfl rfl rfl rfl rfl (Nat.le_of_ble_eq_true rfl) rfl hd kk
theorem pf_C_1_interruptsOn_true {v : Bool} {F : gSt → ρ × gSt} (hc : gC (oC true η) κ cc nL own ret rm) {i : Nat} (hm : Cond.fieldLink own i "GameConsole$Mmc3" "interruptsOn" "Z" ∈ WT) (hd : decode cc pc = .ok (.putfield i, 3)) (kk : ∀ S1 : gSt, S1 = sZ S 1 v → gG (oC true η) κ nL out (pc + 3) lv rest S1 (F S1)) : gG (oC true η) κ nL out pc lv (.int (bI v) :: .ref (η.1 1) :: rest) S (gL (sZ S 1 v) F) := g_put hc (C := RX4) (T := TX4) (N := 11) (ci := 3) 1 10 wu_X4 tyX4_ok nmX4 hm (Or.inl rfl) (by decide) rfl rfl rfl rfl (bI_nar v) (by cases v <;> rfl) (Nat.le_of_ble_eq_true rfl) rfl hd kk
theorem gf_C_12_strobe (hc : gC (oC k η) κ cc nL own ret rm) {i : Nat} (hm : Cond.fieldLink own i "GameConsole$Pads" "strobe" "Z" ∈ WT) (hd : decode cc pc = .ok (.getfield i, 3)) (kk : gG (oC k η) κ nL out (pc + 3) lv (.int (bI (S.2.1 6)) :: rest) S X) : gG (oC k η) κ nL out pc lv (.ref (η.1 12) :: rest) S X := g_get hc (C := RX6) (T := TX6) (N := 3) (ci := 4) 12 2 wu_X6 hm (Or.inl rfl) (by decide) rfl rfl rfl hd kk
theorem pf_C_12_strobe {v : Bool} {F : gSt → ρ × gSt} (hc : gC (oC k η) κ cc nL own ret rm) {i : Nat} (hm : Cond.fieldLink own i "GameConsole$Pads" "strobe" "Z" ∈ WT) (hd : decode cc pc = .ok (.putfield i, 3)) (kk : ∀ S1 : gSt, S1 = sZ S 6 v → gG (oC k η) κ nL out (pc + 3) lv rest S1 (F S1)) : gG (oC k η) κ nL out pc lv (.int (bI v) :: .ref (η.1 12) :: rest) S (gL (sZ S 6 v) F) := g_put hc (C := RX6) (T := TX6) (N := 3) (ci := 4) 12 2 wu_X6 tyX6_ok nmX6 hm (Or.inl rfl) (by decide) rfl rfl rfl rfl (bI_nar v) (by cases v <;> rfl) (Nat.le_of_ble_eq_true rfl) (by cases k <;> rfl) hd kk
theorem gf_C_12_taken (hc : gC (oC k η) κ cc nL own ret rm) {i : Nat} (hm : Cond.fieldLink own i "GameConsole$Pads" "taken" "[I" ∈ WT) (hd : decode cc pc = .ok (.getfield i, 3)) (kk : gG (oC k η) κ nL out (pc + 3) lv (.ref (η.1 14) :: rest) S X) : gG (oC k η) κ nL out pc lv (.ref (η.1 12) :: rest) S X := g_get hc (C := RX6) (T := TX6) (N := 3) (ci := 4) 12 1 wu_X6 hm (Or.inl rfl) (by decide) rfl rfl rfl hd kk
theorem gf_C_12_buttons (hc : gC (oC k η) κ cc nL own ret rm) {i : Nat} (hm : Cond.fieldLink own i "GameConsole$Pads" "buttons" "[I" ∈ WT) (hd : decode cc pc = .ok (.getfield i, 3)) (kk : gG (oC k η) κ nL out (pc + 3) lv (.ref (η.1 13) :: rest) S X) : gG (oC k η) κ nL out pc lv (.ref (η.1 12) :: rest) S X := g_get hc (C := RX6) (T := TX6) (N := 3) (ci := 4) 12 0 wu_X6 hm (Or.inl rfl) (by decide) rfl rfl rfl hd kk
theorem al_C_13 (hc : gC (oC k η) κ cc nL own ret rm) {i : Int32} (hin : vp_in i 2) (hd : decode cc pc = .ok (.iaload, 1)) (kk : gG (oC k η) κ nL out (pc + 1) lv (.int (aG S 13 i) :: rest) S X) : gG (oC k η) κ nL out pc lv (.int i :: .ref (η.1 13) :: rest) S X := g_iald hc 13 0 rfl rfl hin hd kk
theorem as_C_14 (hc : gC (oC k η) κ cc nL own ret rm) {i x : Int32} {F : gSt → ρ × gSt} (hin : vp_in i 2) (hd : decode cc pc = .ok (.iastore, 1)) (kk : ∀ S1 : gSt, S1 = aP S 14 i x → gG (oC k η) κ nL out (pc + 1) lv rest S1 (F S1)) : gG (oC k η) κ nL out pc lv (.int x :: .int i :: .ref (η.1 14) :: rest) S (gL (aP S 14 i x) F) := g_iast hc 14 0 rfl rfl hin (by cases k <;> rfl) hd kk
theorem al_C_14 (hc : gC (oC k η) κ cc nL own ret rm) {i : Int32} (hin : vp_in i 2) (hd : decode cc pc = .ok (.iaload, 1)) (kk : gG (oC k η) κ nL out (pc + 1) lv (.int (aG S 14 i) :: rest) S X) : gG (oC k η) κ nL out pc lv (.int i :: .ref (η.1 14) :: rest) S X := g_iald hc 14 0 rfl rfl hin hd kk
theorem gf_C_10_lengths (hc : gC (oC k η) κ cc nL own ret rm) {i : Nat} (hm : Cond.fieldLink own i "GameConsole$SoundUnit" "lengths" "[I" ∈ WT) (hd : decode cc pc = .ok (.getfield i, 3)) (kk : gG (oC k η) κ nL out (pc + 3) lv (.ref (η.1 11) :: rest) S X) : gG (oC k η) κ nL out pc lv (.ref (η.1 10) :: rest) S X := g_get hc (C := RX8) (T := TX8) (N := 7) (ci := 6) 10 0 wu_X8 hm (Or.inl rfl) (by decide) rfl rfl rfl hd kk
theorem al_C_11 (hc : gC (oC k η) κ cc nL own ret rm) {i : Int32} (hin : vp_in i 4) (hd : decode cc pc = .ok (.iaload, 1)) (kk : gG (oC k η) κ nL out (pc + 1) lv (.int (aG S 11 i) :: rest) S X) : gG (oC k η) κ nL out pc lv (.int i :: .ref (η.1 11) :: rest) S X := g_iald hc 11 0 rfl rfl hin hd kk
theorem gf_C_10_halted (hc : gC (oC k η) κ cc nL own ret rm) {i : Nat} (hm : Cond.fieldLink own i "GameConsole$SoundUnit" "halted" "I" ∈ WT) (hd : decode cc pc = .ok (.getfield i, 3)) (kk : gG (oC k η) κ nL out (pc + 3) lv (.int (S.1 23) :: rest) S X) : gG (oC k η) κ nL out pc lv (.ref (η.1 10) :: rest) S X := g_get hc (C := RX8) (T := TX8) (N := 7) (ci := 6) 10 1 wu_X8 hm (Or.inl rfl) (by decide) rfl rfl rfl hd kk
theorem as_C_11 (hc : gC (oC k η) κ cc nL own ret rm) {i x : Int32} {F : gSt → ρ × gSt} (hin : vp_in i 4) (hd : decode cc pc = .ok (.iastore, 1)) (kk : ∀ S1 : gSt, S1 = aP S 11 i x → gG (oC k η) κ nL out (pc + 1) lv rest S1 (F S1)) : gG (oC k η) κ nL out pc lv (.int x :: .int i :: .ref (η.1 11) :: rest) S (gL (aP S 11 i x) F) := g_iast hc 11 0 rfl rfl hin (by cases k <;> rfl) hd kk
theorem pf_C_10_enabled {v : Int32} {F : gSt → ρ × gSt} (hc : gC (oC k η) κ cc nL own ret rm) {i : Nat} (hm : Cond.fieldLink own i "GameConsole$SoundUnit" "enabled" "I" ∈ WT) (hd : decode cc pc = .ok (.putfield i, 3)) (kk : ∀ S1 : gSt, S1 = sI S 24 v → gG (oC k η) κ nL out (pc + 3) lv rest S1 (F S1)) : gG (oC k η) κ nL out pc lv (.int v :: .ref (η.1 10) :: rest) S (gL (sI S 24 v) F) := g_put hc (C := RX8) (T := TX8) (N := 7) (ci := 6) 10 2 wu_X8 tyX8_ok nmX8 hm (Or.inl rfl) (by decide) rfl rfl rfl rfl rfl rfl (Nat.le_of_ble_eq_true rfl) (by cases k <;> rfl) hd kk
theorem pf_C_10_irqLine {v : Bool} {F : gSt → ρ × gSt} (hc : gC (oC k η) κ cc nL own ret rm) {i : Nat} (hm : Cond.fieldLink own i "GameConsole$SoundUnit" "irqLine" "Z" ∈ WT) (hd : decode cc pc = .ok (.putfield i, 3)) (kk : ∀ S1 : gSt, S1 = sZ S 5 v → gG (oC k η) κ nL out (pc + 3) lv rest S1 (F S1)) : gG (oC k η) κ nL out pc lv (.int (bI v) :: .ref (η.1 10) :: rest) S (gL (sZ S 5 v) F) := g_put hc (C := RX8) (T := TX8) (N := 7) (ci := 6) 10 5 wu_X8 tyX8_ok nmX8 hm (Or.inl rfl) (by decide) rfl rfl rfl rfl (bI_nar v) (by cases v <;> rfl) (Nat.le_of_ble_eq_true rfl) (by cases k <;> rfl) hd kk
theorem gf_C_10_irqLine (hc : gC (oC k η) κ cc nL own ret rm) {i : Nat} (hm : Cond.fieldLink own i "GameConsole$SoundUnit" "irqLine" "Z" ∈ WT) (hd : decode cc pc = .ok (.getfield i, 3)) (kk : gG (oC k η) κ nL out (pc + 3) lv (.int (bI (S.2.1 5)) :: rest) S X) : gG (oC k η) κ nL out pc lv (.ref (η.1 10) :: rest) S X := g_get hc (C := RX8) (T := TX8) (N := 7) (ci := 6) 10 5 wu_X8 hm (Or.inl rfl) (by decide) rfl rfl rfl hd kk
theorem pf_C_10_isLong {v : Bool} {F : gSt → ρ × gSt} (hc : gC (oC k η) κ cc nL own ret rm) {i : Nat} (hm : Cond.fieldLink own i "GameConsole$SoundUnit" "isLong" "Z" ∈ WT) (hd : decode cc pc = .ok (.putfield i, 3)) (kk : ∀ S1 : gSt, S1 = sZ S 3 v → gG (oC k η) κ nL out (pc + 3) lv rest S1 (F S1)) : gG (oC k η) κ nL out pc lv (.int (bI v) :: .ref (η.1 10) :: rest) S (gL (sZ S 3 v) F) := g_put hc (C := RX8) (T := TX8) (N := 7) (ci := 6) 10 3 wu_X8 tyX8_ok nmX8 hm (Or.inl rfl) (by decide) rfl rfl rfl rfl (bI_nar v) (by cases v <;> rfl) (Nat.le_of_ble_eq_true rfl) (by cases k <;> rfl) hd kk
theorem pf_C_10_quiet {v : Bool} {F : gSt → ρ × gSt} (hc : gC (oC k η) κ cc nL own ret rm) {i : Nat} (hm : Cond.fieldLink own i "GameConsole$SoundUnit" "quiet" "Z" ∈ WT) (hd : decode cc pc = .ok (.putfield i, 3)) (kk : ∀ S1 : gSt, S1 = sZ S 4 v → gG (oC k η) κ nL out (pc + 3) lv rest S1 (F S1)) : gG (oC k η) κ nL out pc lv (.int (bI v) :: .ref (η.1 10) :: rest) S (gL (sZ S 4 v) F) := g_put hc (C := RX8) (T := TX8) (N := 7) (ci := 6) 10 4 wu_X8 tyX8_ok nmX8 hm (Or.inl rfl) (by decide) rfl rfl rfl rfl (bI_nar v) (by cases v <;> rfl) (Nat.le_of_ble_eq_true rfl) (by cases k <;> rfl) hd kk
theorem gf_C_10_quiet (hc : gC (oC k η) κ cc nL own ret rm) {i : Nat} (hm : Cond.fieldLink own i "GameConsole$SoundUnit" "quiet" "Z" ∈ WT) (hd : decode cc pc = .ok (.getfield i, 3)) (kk : gG (oC k η) κ nL out (pc + 3) lv (.int (bI (S.2.1 4)) :: rest) S X) : gG (oC k η) κ nL out pc lv (.ref (η.1 10) :: rest) S X := g_get hc (C := RX8) (T := TX8) (N := 7) (ci := 6) 10 4 wu_X8 hm (Or.inl rfl) (by decide) rfl rfl rfl hd kk
theorem pf_C_10_frameCycles {v : Int32} {F : gSt → ρ × gSt} (hc : gC (oC k η) κ cc nL own ret rm) {i : Nat} (hm : Cond.fieldLink own i "GameConsole$SoundUnit" "frameCycles" "I" ∈ WT) (hd : decode cc pc = .ok (.putfield i, 3)) (kk : ∀ S1 : gSt, S1 = sI S 25 v → gG (oC k η) κ nL out (pc + 3) lv rest S1 (F S1)) : gG (oC k η) κ nL out pc lv (.int v :: .ref (η.1 10) :: rest) S (gL (sI S 25 v) F) := g_put hc (C := RX8) (T := TX8) (N := 7) (ci := 6) 10 6 wu_X8 tyX8_ok nmX8 hm (Or.inl rfl) (by decide) rfl rfl rfl rfl rfl rfl (Nat.le_of_ble_eq_true rfl) (by cases k <;> rfl) hd kk
theorem gf_C_10_isLong (hc : gC (oC k η) κ cc nL own ret rm) {i : Nat} (hm : Cond.fieldLink own i "GameConsole$SoundUnit" "isLong" "Z" ∈ WT) (hd : decode cc pc = .ok (.getfield i, 3)) (kk : gG (oC k η) κ nL out (pc + 3) lv (.int (bI (S.2.1 3)) :: rest) S X) : gG (oC k η) κ nL out pc lv (.ref (η.1 10) :: rest) S X := g_get hc (C := RX8) (T := TX8) (N := 7) (ci := 6) 10 3 wu_X8 hm (Or.inl rfl) (by decide) rfl rfl rfl hd kk
theorem pf_C_10_halted {v : Int32} {F : gSt → ρ × gSt} (hc : gC (oC k η) κ cc nL own ret rm) {i : Nat} (hm : Cond.fieldLink own i "GameConsole$SoundUnit" "halted" "I" ∈ WT) (hd : decode cc pc = .ok (.putfield i, 3)) (kk : ∀ S1 : gSt, S1 = sI S 23 v → gG (oC k η) κ nL out (pc + 3) lv rest S1 (F S1)) : gG (oC k η) κ nL out pc lv (.int v :: .ref (η.1 10) :: rest) S (gL (sI S 23 v) F) := g_put hc (C := RX8) (T := TX8) (N := 7) (ci := 6) 10 1 wu_X8 tyX8_ok nmX8 hm (Or.inl rfl) (by decide) rfl rfl rfl rfl rfl rfl (Nat.le_of_ble_eq_true rfl) (by cases k <;> rfl) hd kk
theorem gf_C_10_enabled (hc : gC (oC k η) κ cc nL own ret rm) {i : Nat} (hm : Cond.fieldLink own i "GameConsole$SoundUnit" "enabled" "I" ∈ WT) (hd : decode cc pc = .ok (.getfield i, 3)) (kk : gG (oC k η) κ nL out (pc + 3) lv (.int (S.1 24) :: rest) S X) : gG (oC k η) κ nL out pc lv (.ref (η.1 10) :: rest) S X := g_get hc (C := RX8) (T := TX8) (N := 7) (ci := 6) 10 2 wu_X8 hm (Or.inl rfl) (by decide) rfl rfl rfl hd kk
theorem gf_C_10_frameCycles (hc : gC (oC k η) κ cc nL own ret rm) {i : Nat} (hm : Cond.fieldLink own i "GameConsole$SoundUnit" "frameCycles" "I" ∈ WT) (hd : decode cc pc = .ok (.getfield i, 3)) (kk : gG (oC k η) κ nL out (pc + 3) lv (.int (S.1 25) :: rest) S X) : gG (oC k η) κ nL out pc lv (.ref (η.1 10) :: rest) S X := g_get hc (C := RX8) (T := TX8) (N := 7) (ci := 6) 10 6 wu_X8 hm (Or.inl rfl) (by decide) rfl rfl rfl hd kk
theorem pf_C_6_ctrl {v : Int32} {F : gSt → ρ × gSt} (hc : gC (oC k η) κ cc nL own ret rm) {i : Nat} (hm : Cond.fieldLink own i "GameConsole$PictureUnit" "ctrl" "I" ∈ WT) (hd : decode cc pc = .ok (.putfield i, 3)) (kk : ∀ S1 : gSt, S1 = sI S 12 v → gG (oC k η) κ nL out (pc + 3) lv rest S1 (F S1)) : gG (oC k η) κ nL out pc lv (.int v :: .ref (η.1 6) :: rest) S (gL (sI S 12 v) F) := g_put hc (C := RX7) (T := TX7) (N := 16) (ci := 5) 6 4 wu_X7 tyX7_ok nmX7 hm (Or.inl rfl) (by decide) rfl rfl rfl rfl rfl rfl (Nat.le_of_ble_eq_true rfl) (by cases k <;> rfl) hd kk
theorem pf_C_6_mask {v : Int32} {F : gSt → ρ × gSt} (hc : gC (oC k η) κ cc nL own ret rm) {i : Nat} (hm : Cond.fieldLink own i "GameConsole$PictureUnit" "mask" "I" ∈ WT) (hd : decode cc pc = .ok (.putfield i, 3)) (kk : ∀ S1 : gSt, S1 = sI S 13 v → gG (oC k η) κ nL out (pc + 3) lv rest S1 (F S1)) : gG (oC k η) κ nL out pc lv (.int v :: .ref (η.1 6) :: rest) S (gL (sI S 13 v) F) := g_put hc (C := RX7) (T := TX7) (N := 16) (ci := 5) 6 5 wu_X7 tyX7_ok nmX7 hm (Or.inl rfl) (by decide) rfl rfl rfl rfl rfl rfl (Nat.le_of_ble_eq_true rfl) (by cases k <;> rfl) hd kk
theorem pf_C_6_w {v : Int32} {F : gSt → ρ × gSt} (hc : gC (oC k η) κ cc nL own ret rm) {i : Nat} (hm : Cond.fieldLink own i "GameConsole$PictureUnit" "w" "I" ∈ WT) (hd : decode cc pc = .ok (.putfield i, 3)) (kk : ∀ S1 : gSt, S1 = sI S 19 v → gG (oC k η) κ nL out (pc + 3) lv rest S1 (F S1)) : gG (oC k η) κ nL out pc lv (.int v :: .ref (η.1 6) :: rest) S (gL (sI S 19 v) F) := g_put hc (C := RX7) (T := TX7) (N := 16) (ci := 5) 6 11 wu_X7 tyX7_ok nmX7 hm (Or.inl rfl) (by decide) rfl rfl rfl rfl rfl rfl (Nat.le_of_ble_eq_true rfl) (by cases k <;> rfl) hd kk
theorem pf_C_6_nmiPending {v : Bool} {F : gSt → ρ × gSt} (hc : gC (oC k η) κ cc nL own ret rm) {i : Nat} (hm : Cond.fieldLink own i "GameConsole$PictureUnit" "nmiPending" "Z" ∈ WT) (hd : decode cc pc = .ok (.putfield i, 3)) (kk : ∀ S1 : gSt, S1 = sZ S 2 v → gG (oC k η) κ nL out (pc + 3) lv rest S1 (F S1)) : gG (oC k η) κ nL out pc lv (.int (bI v) :: .ref (η.1 6) :: rest) S (gL (sZ S 2 v) F) := g_put hc (C := RX7) (T := TX7) (N := 16) (ci := 5) 6 15 wu_X7 tyX7_ok nmX7 hm (Or.inl rfl) (by decide) rfl rfl rfl rfl (bI_nar v) (by cases v <;> rfl) (Nat.le_of_ble_eq_true rfl) (by cases k <;> rfl) hd kk
theorem gf_C_6_nmiPending (hc : gC (oC k η) κ cc nL own ret rm) {i : Nat} (hm : Cond.fieldLink own i "GameConsole$PictureUnit" "nmiPending" "Z" ∈ WT) (hd : decode cc pc = .ok (.getfield i, 3)) (kk : gG (oC k η) κ nL out (pc + 3) lv (.int (bI (S.2.1 2)) :: rest) S X) : gG (oC k η) κ nL out pc lv (.ref (η.1 6) :: rest) S X := g_get hc (C := RX7) (T := TX7) (N := 16) (ci := 5) 6 15 wu_X7 hm (Or.inl rfl) (by decide) rfl rfl rfl hd kk
theorem gf_C_6_ctrl (hc : gC (oC k η) κ cc nL own ret rm) {i : Nat} (hm : Cond.fieldLink own i "GameConsole$PictureUnit" "ctrl" "I" ∈ WT) (hd : decode cc pc = .ok (.getfield i, 3)) (kk : gG (oC k η) κ nL out (pc + 3) lv (.int (S.1 12) :: rest) S X) : gG (oC k η) κ nL out pc lv (.ref (η.1 6) :: rest) S X := g_get hc (C := RX7) (T := TX7) (N := 16) (ci := 5) 6 4 wu_X7 hm (Or.inl rfl) (by decide) rfl rfl rfl hd kk
theorem gf_C_6_t (hc : gC (oC k η) κ cc nL own ret rm) {i : Nat} (hm : Cond.fieldLink own i "GameConsole$PictureUnit" "t" "I" ∈ WT) (hd : decode cc pc = .ok (.getfield i, 3)) (kk : gG (oC k η) κ nL out (pc + 3) lv (.int (S.1 17) :: rest) S X) : gG (oC k η) κ nL out pc lv (.ref (η.1 6) :: rest) S X := g_get hc (C := RX7) (T := TX7) (N := 16) (ci := 5) 6 9 wu_X7 hm (Or.inl rfl) (by decide) rfl rfl rfl hd kk
theorem pf_C_6_t {v : Int32} {F : gSt → ρ × gSt} (hc : gC (oC k η) κ cc nL own ret rm) {i : Nat} (hm : Cond.fieldLink own i "GameConsole$PictureUnit" "t" "I" ∈ WT) (hd : decode cc pc = .ok (.putfield i, 3)) (kk : ∀ S1 : gSt, S1 = sI S 17 v → gG (oC k η) κ nL out (pc + 3) lv rest S1 (F S1)) : gG (oC k η) κ nL out pc lv (.int v :: .ref (η.1 6) :: rest) S (gL (sI S 17 v) F) := g_put hc (C := RX7) (T := TX7) (N := 16) (ci := 5) 6 9 wu_X7 tyX7_ok nmX7 hm (Or.inl rfl) (by decide) rfl rfl rfl rfl rfl rfl (Nat.le_of_ble_eq_true rfl) (by cases k <;> rfl) hd kk
theorem gf_C_6_vblank (hc : gC (oC k η) κ cc nL own ret rm) {i : Nat} (hm : Cond.fieldLink own i "GameConsole$PictureUnit" "vblank" "I" ∈ WT) (hd : decode cc pc = .ok (.getfield i, 3)) (kk : gG (oC k η) κ nL out (pc + 3) lv (.int (S.1 14) :: rest) S X) : gG (oC k η) κ nL out pc lv (.ref (η.1 6) :: rest) S X := g_get hc (C := RX7) (T := TX7) (N := 16) (ci := 5) 6 6 wu_X7 hm (Or.inl rfl) (by decide) rfl rfl rfl hd kk
theorem gf_C_6_w (hc : gC (oC k η) κ cc nL own ret rm) {i : Nat} (hm : Cond.fieldLink own i "GameConsole$PictureUnit" "w" "I" ∈ WT) (hd : decode cc pc = .ok (.getfield i, 3)) (kk : gG (oC k η) κ nL out (pc + 3) lv (.int (S.1 19) :: rest) S X) : gG (oC k η) κ nL out pc lv (.ref (η.1 6) :: rest) S X := g_get hc (C := RX7) (T := TX7) (N := 16) (ci := 5) 6 11 wu_X7 hm (Or.inl rfl) (by decide) rfl rfl rfl hd kk
theorem pf_C_6_x {v : Int32} {F : gSt → ρ × gSt} (hc : gC (oC k η) κ cc nL own ret rm) {i : Nat} (hm : Cond.fieldLink own i "GameConsole$PictureUnit" "x" "I" ∈ WT) (hd : decode cc pc = .ok (.putfield i, 3)) (kk : ∀ S1 : gSt, S1 = sI S 18 v → gG (oC k η) κ nL out (pc + 3) lv rest S1 (F S1)) : gG (oC k η) κ nL out pc lv (.int v :: .ref (η.1 6) :: rest) S (gL (sI S 18 v) F) := g_put hc (C := RX7) (T := TX7) (N := 16) (ci := 5) 6 10 wu_X7 tyX7_ok nmX7 hm (Or.inl rfl) (by decide) rfl rfl rfl rfl rfl rfl (Nat.le_of_ble_eq_true rfl) (by cases k <;> rfl) hd kk
theorem pf_C_6_v {v : Int32} {F : gSt → ρ × gSt} (hc : gC (oC k η) κ cc nL own ret rm) {i : Nat} (hm : Cond.fieldLink own i "GameConsole$PictureUnit" "v" "I" ∈ WT) (hd : decode cc pc = .ok (.putfield i, 3)) (kk : ∀ S1 : gSt, S1 = sI S 16 v → gG (oC k η) κ nL out (pc + 3) lv rest S1 (F S1)) : gG (oC k η) κ nL out pc lv (.int v :: .ref (η.1 6) :: rest) S (gL (sI S 16 v) F) := g_put hc (C := RX7) (T := TX7) (N := 16) (ci := 5) 6 8 wu_X7 tyX7_ok nmX7 hm (Or.inl rfl) (by decide) rfl rfl rfl rfl rfl rfl (Nat.le_of_ble_eq_true rfl) (by cases k <;> rfl) hd kk
theorem gf_C_6_v (hc : gC (oC k η) κ cc nL own ret rm) {i : Nat} (hm : Cond.fieldLink own i "GameConsole$PictureUnit" "v" "I" ∈ WT) (hd : decode cc pc = .ok (.getfield i, 3)) (kk : gG (oC k η) κ nL out (pc + 3) lv (.int (S.1 16) :: rest) S X) : gG (oC k η) κ nL out pc lv (.ref (η.1 6) :: rest) S X := g_get hc (C := RX7) (T := TX7) (N := 16) (ci := 5) 6 8 wu_X7 hm (Or.inl rfl) (by decide) rfl rfl rfl hd kk
theorem gf_C_6_cartridge (hc : gC (oC k η) κ cc nL own ret rm) {i : Nat} (hm : Cond.fieldLink own i "GameConsole$PictureUnit" "cartridge" "LGameConsole$Cartridge;" ∈ WT) (hd : decode cc pc = .ok (.getfield i, 3)) (kk : gG (oC k η) κ nL out (pc + 3) lv (.ref (η.1 1) :: rest) S X) : gG (oC k η) κ nL out pc lv (.ref (η.1 6) :: rest) S X := g_get hc (C := RX7) (T := TX7) (N := 16) (ci := 5) 6 0 wu_X7 hm (Or.inl rfl) (by decide) rfl rfl rfl hd kk
theorem gf_C_1_mirroring (hc : gC (oC k η) κ cc nL own ret rm) {i : Nat} (hm : Cond.fieldLink own i "GameConsole$Cartridge" "mirroring" "I" ∈ WT) (hd : decode cc pc = .ok (.getfield i, 3)) (kk : gG (oC k η) κ nL out (pc + 3) lv (.int (S.1 1) :: rest) S X) : gG (oC k η) κ nL out pc lv (.ref (η.1 1) :: rest) S X := by
  cases k
  · exact g_get hc (C := RX3) (T := TX3) (N := 13) (ci := 2) 1 4 wu_X3 hm (Or.inl rfl) (by decide) rfl rfl rfl hd kk
  · exact g_get hc (C := RX4) (T := TX4) (N := 11) (ci := 3) 1 4 wu_X4 hm (Or.inl rfl) (by decide) rfl rfl rfl hd kk
theorem gf_C_6_palette (hc : gC (oC k η) κ cc nL own ret rm) {i : Nat} (hm : Cond.fieldLink own i "GameConsole$PictureUnit" "palette" "[I" ∈ WT) (hd : decode cc pc = .ok (.getfield i, 3)) (kk : gG (oC k η) κ nL out (pc + 3) lv (.ref (η.1 9) :: rest) S X) : gG (oC k η) κ nL out pc lv (.ref (η.1 6) :: rest) S X := g_get hc (C := RX7) (T := TX7) (N := 16) (ci := 5) 6 3 wu_X7 hm (Or.inl rfl) (by decide) rfl rfl rfl hd kk
theorem al_C_9 (hc : gC (oC k η) κ cc nL own ret rm) {i : Int32} (hin : vp_in i 32) (hd : decode cc pc = .ok (.iaload, 1)) (kk : gG (oC k η) κ nL out (pc + 1) lv (.int (aG S 9 i) :: rest) S X) : gG (oC k η) κ nL out pc lv (.int i :: .ref (η.1 9) :: rest) S X := g_iald hc 9 0 rfl rfl hin hd kk
theorem gf_C_6_nameTables (hc : gC (oC k η) κ cc nL own ret rm) {i : Nat} (hm : Cond.fieldLink own i "GameConsole$PictureUnit" "nameTables" "[I" ∈ WT) (hd : decode cc pc = .ok (.getfield i, 3)) (kk : gG (oC k η) κ nL out (pc + 3) lv (.ref (η.1 8) :: rest) S X) : gG (oC k η) κ nL out pc lv (.ref (η.1 6) :: rest) S X := g_get hc (C := RX7) (T := TX7) (N := 16) (ci := 5) 6 2 wu_X7 hm (Or.inl rfl) (by decide) rfl rfl rfl hd kk
theorem al_C_8 (hc : gC (oC k η) κ cc nL own ret rm) {i : Int32} (hin : vp_in i 2048) (hd : decode cc pc = .ok (.iaload, 1)) (kk : gG (oC k η) κ nL out (pc + 1) lv (.int (aG S 8 i) :: rest) S X) : gG (oC k η) κ nL out pc lv (.int i :: .ref (η.1 8) :: rest) S X := g_iald hc 8 0 rfl rfl hin hd kk
theorem as_C_8 (hc : gC (oC k η) κ cc nL own ret rm) {i x : Int32} {F : gSt → ρ × gSt} (hin : vp_in i 2048) (hd : decode cc pc = .ok (.iastore, 1)) (kk : ∀ S1 : gSt, S1 = aP S 8 i x → gG (oC k η) κ nL out (pc + 1) lv rest S1 (F S1)) : gG (oC k η) κ nL out pc lv (.int x :: .int i :: .ref (η.1 8) :: rest) S (gL (aP S 8 i x) F) := g_iast hc 8 0 rfl rfl hin (by cases k <;> rfl) hd kk
theorem as_C_9 (hc : gC (oC k η) κ cc nL own ret rm) {i x : Int32} {F : gSt → ρ × gSt} (hin : vp_in i 32) (hd : decode cc pc = .ok (.iastore, 1)) (kk : ∀ S1 : gSt, S1 = aP S 9 i x → gG (oC k η) κ nL out (pc + 1) lv rest S1 (F S1)) : gG (oC k η) κ nL out pc lv (.int x :: .int i :: .ref (η.1 9) :: rest) S (gL (aP S 9 i x) F) := g_iast hc 9 0 rfl rfl hin (by cases k <;> rfl) hd kk
theorem pf_C_6_vblank {v : Int32} {F : gSt → ρ × gSt} (hc : gC (oC k η) κ cc nL own ret rm) {i : Nat} (hm : Cond.fieldLink own i "GameConsole$PictureUnit" "vblank" "I" ∈ WT) (hd : decode cc pc = .ok (.putfield i, 3)) (kk : ∀ S1 : gSt, S1 = sI S 14 v → gG (oC k η) κ nL out (pc + 3) lv rest S1 (F S1)) : gG (oC k η) κ nL out pc lv (.int v :: .ref (η.1 6) :: rest) S (gL (sI S 14 v) F) := g_put hc (C := RX7) (T := TX7) (N := 16) (ci := 5) 6 6 wu_X7 tyX7_ok nmX7 hm (Or.inl rfl) (by decide) rfl rfl rfl rfl rfl rfl (Nat.le_of_ble_eq_true rfl) (by cases k <;> rfl) hd kk
theorem gf_C_6_oam (hc : gC (oC k η) κ cc nL own ret rm) {i : Nat} (hm : Cond.fieldLink own i "GameConsole$PictureUnit" "oam" "[I" ∈ WT) (hd : decode cc pc = .ok (.getfield i, 3)) (kk : gG (oC k η) κ nL out (pc + 3) lv (.ref (η.1 7) :: rest) S X) : gG (oC k η) κ nL out pc lv (.ref (η.1 6) :: rest) S X := g_get hc (C := RX7) (T := TX7) (N := 16) (ci := 5) 6 1 wu_X7 hm (Or.inl rfl) (by decide) rfl rfl rfl hd kk
theorem gf_C_6_oamAddress (hc : gC (oC k η) κ cc nL own ret rm) {i : Nat} (hm : Cond.fieldLink own i "GameConsole$PictureUnit" "oamAddress" "I" ∈ WT) (hd : decode cc pc = .ok (.getfield i, 3)) (kk : gG (oC k η) κ nL out (pc + 3) lv (.int (S.1 15) :: rest) S X) : gG (oC k η) κ nL out pc lv (.ref (η.1 6) :: rest) S X := g_get hc (C := RX7) (T := TX7) (N := 16) (ci := 5) 6 7 wu_X7 hm (Or.inl rfl) (by decide) rfl rfl rfl hd kk
theorem al_C_7 (hc : gC (oC k η) κ cc nL own ret rm) {i : Int32} (hin : vp_in i 256) (hd : decode cc pc = .ok (.iaload, 1)) (kk : gG (oC k η) κ nL out (pc + 1) lv (.int (aG S 7 i) :: rest) S X) : gG (oC k η) κ nL out pc lv (.int i :: .ref (η.1 7) :: rest) S X := g_iald hc 7 0 rfl rfl hin hd kk
theorem gf_C_6_buffer (hc : gC (oC k η) κ cc nL own ret rm) {i : Nat} (hm : Cond.fieldLink own i "GameConsole$PictureUnit" "buffer" "I" ∈ WT) (hd : decode cc pc = .ok (.getfield i, 3)) (kk : gG (oC k η) κ nL out (pc + 3) lv (.int (S.1 20) :: rest) S X) : gG (oC k η) κ nL out pc lv (.ref (η.1 6) :: rest) S X := g_get hc (C := RX7) (T := TX7) (N := 16) (ci := 5) 6 12 wu_X7 hm (Or.inl rfl) (by decide) rfl rfl rfl hd kk
theorem pf_C_6_buffer {v : Int32} {F : gSt → ρ × gSt} (hc : gC (oC k η) κ cc nL own ret rm) {i : Nat} (hm : Cond.fieldLink own i "GameConsole$PictureUnit" "buffer" "I" ∈ WT) (hd : decode cc pc = .ok (.putfield i, 3)) (kk : ∀ S1 : gSt, S1 = sI S 20 v → gG (oC k η) κ nL out (pc + 3) lv rest S1 (F S1)) : gG (oC k η) κ nL out pc lv (.int v :: .ref (η.1 6) :: rest) S (gL (sI S 20 v) F) := g_put hc (C := RX7) (T := TX7) (N := 16) (ci := 5) 6 12 wu_X7 tyX7_ok nmX7 hm (Or.inl rfl) (by decide) rfl rfl rfl rfl rfl rfl (Nat.le_of_ble_eq_true rfl) (by cases k <;> rfl) hd kk
theorem pf_C_6_oamAddress {v : Int32} {F : gSt → ρ × gSt} (hc : gC (oC k η) κ cc nL own ret rm) {i : Nat} (hm : Cond.fieldLink own i "GameConsole$PictureUnit" "oamAddress" "I" ∈ WT) (hd : decode cc pc = .ok (.putfield i, 3)) (kk : ∀ S1 : gSt, S1 = sI S 15 v → gG (oC k η) κ nL out (pc + 3) lv rest S1 (F S1)) : gG (oC k η) κ nL out pc lv (.int v :: .ref (η.1 6) :: rest) S (gL (sI S 15 v) F) := g_put hc (C := RX7) (T := TX7) (N := 16) (ci := 5) 6 7 wu_X7 tyX7_ok nmX7 hm (Or.inl rfl) (by decide) rfl rfl rfl rfl rfl rfl (Nat.le_of_ble_eq_true rfl) (by cases k <;> rfl) hd kk
theorem as_C_7 (hc : gC (oC k η) κ cc nL own ret rm) {i x : Int32} {F : gSt → ρ × gSt} (hin : vp_in i 256) (hd : decode cc pc = .ok (.iastore, 1)) (kk : ∀ S1 : gSt, S1 = aP S 7 i x → gG (oC k η) κ nL out (pc + 1) lv rest S1 (F S1)) : gG (oC k η) κ nL out pc lv (.int x :: .int i :: .ref (η.1 7) :: rest) S (gL (aP S 7 i x) F) := g_iast hc 7 0 rfl rfl hin (by cases k <;> rfl) hd kk
theorem gf_C_6_line (hc : gC (oC k η) κ cc nL own ret rm) {i : Nat} (hm : Cond.fieldLink own i "GameConsole$PictureUnit" "line" "I" ∈ WT) (hd : decode cc pc = .ok (.getfield i, 3)) (kk : gG (oC k η) κ nL out (pc + 3) lv (.int (S.1 21) :: rest) S X) : gG (oC k η) κ nL out pc lv (.ref (η.1 6) :: rest) S X := g_get hc (C := RX7) (T := TX7) (N := 16) (ci := 5) 6 13 wu_X7 hm (Or.inl rfl) (by decide) rfl rfl rfl hd kk
theorem gf_C_6_mask (hc : gC (oC k η) κ cc nL own ret rm) {i : Nat} (hm : Cond.fieldLink own i "GameConsole$PictureUnit" "mask" "I" ∈ WT) (hd : decode cc pc = .ok (.getfield i, 3)) (kk : gG (oC k η) κ nL out (pc + 3) lv (.int (S.1 13) :: rest) S X) : gG (oC k η) κ nL out pc lv (.ref (η.1 6) :: rest) S X := g_get hc (C := RX7) (T := TX7) (N := 16) (ci := 5) 6 5 wu_X7 hm (Or.inl rfl) (by decide) rfl rfl rfl hd kk
theorem gf_C_6_dot (hc : gC (oC k η) κ cc nL own ret rm) {i : Nat} (hm : Cond.fieldLink own i "GameConsole$PictureUnit" "dot" "I" ∈ WT) (hd : decode cc pc = .ok (.getfield i, 3)) (kk : gG (oC k η) κ nL out (pc + 3) lv (.int (S.1 22) :: rest) S X) : gG (oC k η) κ nL out pc lv (.ref (η.1 6) :: rest) S X := g_get hc (C := RX7) (T := TX7) (N := 16) (ci := 5) 6 14 wu_X7 hm (Or.inl rfl) (by decide) rfl rfl rfl hd kk
theorem pf_C_6_dot {v : Int32} {F : gSt → ρ × gSt} (hc : gC (oC k η) κ cc nL own ret rm) {i : Nat} (hm : Cond.fieldLink own i "GameConsole$PictureUnit" "dot" "I" ∈ WT) (hd : decode cc pc = .ok (.putfield i, 3)) (kk : ∀ S1 : gSt, S1 = sI S 22 v → gG (oC k η) κ nL out (pc + 3) lv rest S1 (F S1)) : gG (oC k η) κ nL out pc lv (.int v :: .ref (η.1 6) :: rest) S (gL (sI S 22 v) F) := g_put hc (C := RX7) (T := TX7) (N := 16) (ci := 5) 6 14 wu_X7 tyX7_ok nmX7 hm (Or.inl rfl) (by decide) rfl rfl rfl rfl rfl rfl (Nat.le_of_ble_eq_true rfl) (by cases k <;> rfl) hd kk
theorem pf_C_6_line {v : Int32} {F : gSt → ρ × gSt} (hc : gC (oC k η) κ cc nL own ret rm) {i : Nat} (hm : Cond.fieldLink own i "GameConsole$PictureUnit" "line" "I" ∈ WT) (hd : decode cc pc = .ok (.putfield i, 3)) (kk : ∀ S1 : gSt, S1 = sI S 21 v → gG (oC k η) κ nL out (pc + 3) lv rest S1 (F S1)) : gG (oC k η) κ nL out pc lv (.int v :: .ref (η.1 6) :: rest) S (gL (sI S 21 v) F) := g_put hc (C := RX7) (T := TX7) (N := 16) (ci := 5) 6 13 wu_X7 tyX7_ok nmX7 hm (Or.inl rfl) (by decide) rfl rfl rfl rfl rfl rfl (Nat.le_of_ble_eq_true rfl) (by cases k <;> rfl) hd kk
theorem gf_C_15_sound (hc : gC (oC k η) κ cc nL own ret rm) {i : Nat} (hm : Cond.fieldLink own i "GameConsole$Bus" "sound" "LGameConsole$SoundUnit;" ∈ WT) (hd : decode cc pc = .ok (.getfield i, 3)) (kk : gG (oC k η) κ nL out (pc + 3) lv (.ref (η.1 10) :: rest) S X) : gG (oC k η) κ nL out pc lv (.ref (η.1 15) :: rest) S X := g_get hc (C := RX0) (T := TX0) (N := 7) (ci := 0) 15 3 wu_X0 hm (Or.inl rfl) (by decide) rfl rfl rfl hd kk
theorem gf_C_15_pads (hc : gC (oC k η) κ cc nL own ret rm) {i : Nat} (hm : Cond.fieldLink own i "GameConsole$Bus" "pads" "LGameConsole$Pads;" ∈ WT) (hd : decode cc pc = .ok (.getfield i, 3)) (kk : gG (oC k η) κ nL out (pc + 3) lv (.ref (η.1 12) :: rest) S X) : gG (oC k η) κ nL out pc lv (.ref (η.1 15) :: rest) S X := g_get hc (C := RX0) (T := TX0) (N := 7) (ci := 0) 15 4 wu_X0 hm (Or.inl rfl) (by decide) rfl rfl rfl hd kk
theorem gf_C_15_cartridge (hc : gC (oC k η) κ cc nL own ret rm) {i : Nat} (hm : Cond.fieldLink own i "GameConsole$Bus" "cartridge" "LGameConsole$Cartridge;" ∈ WT) (hd : decode cc pc = .ok (.getfield i, 3)) (kk : gG (oC k η) κ nL out (pc + 3) lv (.ref (η.1 1) :: rest) S X) : gG (oC k η) κ nL out pc lv (.ref (η.1 15) :: rest) S X := g_get hc (C := RX0) (T := TX0) (N := 7) (ci := 0) 15 5 wu_X0 hm (Or.inl rfl) (by decide) rfl rfl rfl hd kk
theorem gf_C_15_cartridgeRam (hc : gC (oC k η) κ cc nL own ret rm) {i : Nat} (hm : Cond.fieldLink own i "GameConsole$Bus" "cartridgeRam" "[I" ∈ WT) (hd : decode cc pc = .ok (.getfield i, 3)) (kk : gG (oC k η) κ nL out (pc + 3) lv (.ref (η.1 17) :: rest) S X) : gG (oC k η) κ nL out pc lv (.ref (η.1 15) :: rest) S X := g_get hc (C := RX0) (T := TX0) (N := 7) (ci := 0) 15 1 wu_X0 hm (Or.inl rfl) (by decide) rfl rfl rfl hd kk
theorem al_C_17 (hc : gC (oC k η) κ cc nL own ret rm) {i : Int32} (hin : vp_in i 256) (hd : decode cc pc = .ok (.iaload, 1)) (kk : gG (oC k η) κ nL out (pc + 1) lv (.int (aG S 17 i) :: rest) S X) : gG (oC k η) κ nL out pc lv (.int i :: .ref (η.1 17) :: rest) S X := g_iald hc 17 0 rfl rfl hin hd kk
theorem gf_C_15_picture (hc : gC (oC k η) κ cc nL own ret rm) {i : Nat} (hm : Cond.fieldLink own i "GameConsole$Bus" "picture" "LGameConsole$PictureUnit;" ∈ WT) (hd : decode cc pc = .ok (.getfield i, 3)) (kk : gG (oC k η) κ nL out (pc + 3) lv (.ref (η.1 6) :: rest) S X) : gG (oC k η) κ nL out pc lv (.ref (η.1 15) :: rest) S X := g_get hc (C := RX0) (T := TX0) (N := 7) (ci := 0) 15 2 wu_X0 hm (Or.inl rfl) (by decide) rfl rfl rfl hd kk
theorem gf_C_15_ram (hc : gC (oC k η) κ cc nL own ret rm) {i : Nat} (hm : Cond.fieldLink own i "GameConsole$Bus" "ram" "[I" ∈ WT) (hd : decode cc pc = .ok (.getfield i, 3)) (kk : gG (oC k η) κ nL out (pc + 3) lv (.ref (η.1 16) :: rest) S X) : gG (oC k η) κ nL out pc lv (.ref (η.1 15) :: rest) S X := g_get hc (C := RX0) (T := TX0) (N := 7) (ci := 0) 15 0 wu_X0 hm (Or.inl rfl) (by decide) rfl rfl rfl hd kk
theorem al_C_16 (hc : gC (oC k η) κ cc nL own ret rm) {i : Int32} (hin : vp_in i 2048) (hd : decode cc pc = .ok (.iaload, 1)) (kk : gG (oC k η) κ nL out (pc + 1) lv (.int (aG S 16 i) :: rest) S X) : gG (oC k η) κ nL out pc lv (.int i :: .ref (η.1 16) :: rest) S X := g_iald hc 16 0 rfl rfl hin hd kk
theorem pf_C_15_pageAsked {v : Int32} {F : gSt → ρ × gSt} (hc : gC (oC k η) κ cc nL own ret rm) {i : Nat} (hm : Cond.fieldLink own i "GameConsole$Bus" "pageAsked" "I" ∈ WT) (hd : decode cc pc = .ok (.putfield i, 3)) (kk : ∀ S1 : gSt, S1 = sI S 26 v → gG (oC k η) κ nL out (pc + 3) lv rest S1 (F S1)) : gG (oC k η) κ nL out pc lv (.int v :: .ref (η.1 15) :: rest) S (gL (sI S 26 v) F) := g_put hc (C := RX0) (T := TX0) (N := 7) (ci := 0) 15 6 wu_X0 tyX0_ok nmX0 hm (Or.inl rfl) (by decide) rfl rfl rfl rfl rfl rfl (Nat.le_of_ble_eq_true rfl) (by cases k <;> rfl) hd kk
theorem as_C_17 (hc : gC (oC k η) κ cc nL own ret rm) {i x : Int32} {F : gSt → ρ × gSt} (hin : vp_in i 256) (hd : decode cc pc = .ok (.iastore, 1)) (kk : ∀ S1 : gSt, S1 = aP S 17 i x → gG (oC k η) κ nL out (pc + 1) lv rest S1 (F S1)) : gG (oC k η) κ nL out pc lv (.int x :: .int i :: .ref (η.1 17) :: rest) S (gL (aP S 17 i x) F) := g_iast hc 17 0 rfl rfl hin (by cases k <;> rfl) hd kk
theorem as_C_16 (hc : gC (oC k η) κ cc nL own ret rm) {i x : Int32} {F : gSt → ρ × gSt} (hin : vp_in i 2048) (hd : decode cc pc = .ok (.iastore, 1)) (kk : ∀ S1 : gSt, S1 = aP S 16 i x → gG (oC k η) κ nL out (pc + 1) lv rest S1 (F S1)) : gG (oC k η) κ nL out pc lv (.int x :: .int i :: .ref (η.1 16) :: rest) S (gL (aP S 16 i x) F) := g_iast hc 16 0 rfl rfl hin (by cases k <;> rfl) hd kk
theorem gf_C_15_pageAsked (hc : gC (oC k η) κ cc nL own ret rm) {i : Nat} (hm : Cond.fieldLink own i "GameConsole$Bus" "pageAsked" "I" ∈ WT) (hd : decode cc pc = .ok (.getfield i, 3)) (kk : gG (oC k η) κ nL out (pc + 3) lv (.int (S.1 26) :: rest) S X) : gG (oC k η) κ nL out pc lv (.ref (η.1 15) :: rest) S X := g_get hc (C := RX0) (T := TX0) (N := 7) (ci := 0) 15 6 wu_X0 hm (Or.inl rfl) (by decide) rfl rfl rfl hd kk
theorem gf_C_18_p (hc : gC (oC k η) κ cc nL own ret rm) {i : Nat} (hm : Cond.fieldLink own i "GameConsole$Core" "p" "I" ∈ WT) (hd : decode cc pc = .ok (.getfield i, 3)) (kk : gG (oC k η) κ nL out (pc + 3) lv (.int (S.1 31) :: rest) S X) : gG (oC k η) κ nL out pc lv (.ref (η.1 18) :: rest) S X := g_get hc (C := RX2) (T := TX2) (N := 8) (ci := 1) 18 5 wu_X2 hm (Or.inl rfl) (by decide) rfl rfl rfl hd kk
theorem pf_C_18_p {v : Int32} {F : gSt → ρ × gSt} (hc : gC (oC k η) κ cc nL own ret rm) {i : Nat} (hm : Cond.fieldLink own i "GameConsole$Core" "p" "I" ∈ WT) (hd : decode cc pc = .ok (.putfield i, 3)) (kk : ∀ S1 : gSt, S1 = sI S 31 v → gG (oC k η) κ nL out (pc + 3) lv rest S1 (F S1)) : gG (oC k η) κ nL out pc lv (.int v :: .ref (η.1 18) :: rest) S (gL (sI S 31 v) F) := g_put hc (C := RX2) (T := TX2) (N := 8) (ci := 1) 18 5 wu_X2 tyX2_ok nmX2 hm (Or.inl rfl) (by decide) rfl rfl rfl rfl rfl rfl (Nat.le_of_ble_eq_true rfl) (by cases k <;> rfl) hd kk
theorem gf_C_18_bus (hc : gC (oC k η) κ cc nL own ret rm) {i : Nat} (hm : Cond.fieldLink own i "GameConsole$Core" "bus" "LGameConsole$Bus;" ∈ WT) (hd : decode cc pc = .ok (.getfield i, 3)) (kk : gG (oC k η) κ nL out (pc + 3) lv (.ref (η.1 15) :: rest) S X) : gG (oC k η) κ nL out pc lv (.ref (η.1 18) :: rest) S X := g_get hc (C := RX2) (T := TX2) (N := 8) (ci := 1) 18 0 wu_X2 hm (Or.inl rfl) (by decide) rfl rfl rfl hd kk
theorem gf_C_18_s (hc : gC (oC k η) κ cc nL own ret rm) {i : Nat} (hm : Cond.fieldLink own i "GameConsole$Core" "s" "I" ∈ WT) (hd : decode cc pc = .ok (.getfield i, 3)) (kk : gG (oC k η) κ nL out (pc + 3) lv (.int (S.1 30) :: rest) S X) : gG (oC k η) κ nL out pc lv (.ref (η.1 18) :: rest) S X := g_get hc (C := RX2) (T := TX2) (N := 8) (ci := 1) 18 4 wu_X2 hm (Or.inl rfl) (by decide) rfl rfl rfl hd kk
theorem pf_C_18_s {v : Int32} {F : gSt → ρ × gSt} (hc : gC (oC k η) κ cc nL own ret rm) {i : Nat} (hm : Cond.fieldLink own i "GameConsole$Core" "s" "I" ∈ WT) (hd : decode cc pc = .ok (.putfield i, 3)) (kk : ∀ S1 : gSt, S1 = sI S 30 v → gG (oC k η) κ nL out (pc + 3) lv rest S1 (F S1)) : gG (oC k η) κ nL out pc lv (.int v :: .ref (η.1 18) :: rest) S (gL (sI S 30 v) F) := g_put hc (C := RX2) (T := TX2) (N := 8) (ci := 1) 18 4 wu_X2 tyX2_ok nmX2 hm (Or.inl rfl) (by decide) rfl rfl rfl rfl rfl rfl (Nat.le_of_ble_eq_true rfl) (by cases k <;> rfl) hd kk
theorem pf_C_18_pc {v : Int32} {F : gSt → ρ × gSt} (hc : gC (oC k η) κ cc nL own ret rm) {i : Nat} (hm : Cond.fieldLink own i "GameConsole$Core" "pc" "I" ∈ WT) (hd : decode cc pc = .ok (.putfield i, 3)) (kk : ∀ S1 : gSt, S1 = sI S 32 v → gG (oC k η) κ nL out (pc + 3) lv rest S1 (F S1)) : gG (oC k η) κ nL out pc lv (.int v :: .ref (η.1 18) :: rest) S (gL (sI S 32 v) F) := g_put hc (C := RX2) (T := TX2) (N := 8) (ci := 1) 18 6 wu_X2 tyX2_ok nmX2 hm (Or.inl rfl) (by decide) rfl rfl rfl rfl rfl rfl (Nat.le_of_ble_eq_true rfl) (by cases k <;> rfl) hd kk
theorem gf_C_18_pc (hc : gC (oC k η) κ cc nL own ret rm) {i : Nat} (hm : Cond.fieldLink own i "GameConsole$Core" "pc" "I" ∈ WT) (hd : decode cc pc = .ok (.getfield i, 3)) (kk : gG (oC k η) κ nL out (pc + 3) lv (.int (S.1 32) :: rest) S X) : gG (oC k η) κ nL out pc lv (.ref (η.1 18) :: rest) S X := g_get hc (C := RX2) (T := TX2) (N := 8) (ci := 1) 18 6 wu_X2 hm (Or.inl rfl) (by decide) rfl rfl rfl hd kk
theorem pf_C_18_crossed {v : Int32} {F : gSt → ρ × gSt} (hc : gC (oC k η) κ cc nL own ret rm) {i : Nat} (hm : Cond.fieldLink own i "GameConsole$Core" "crossed" "I" ∈ WT) (hd : decode cc pc = .ok (.putfield i, 3)) (kk : ∀ S1 : gSt, S1 = sI S 33 v → gG (oC k η) κ nL out (pc + 3) lv rest S1 (F S1)) : gG (oC k η) κ nL out pc lv (.int v :: .ref (η.1 18) :: rest) S (gL (sI S 33 v) F) := g_put hc (C := RX2) (T := TX2) (N := 8) (ci := 1) 18 7 wu_X2 tyX2_ok nmX2 hm (Or.inl rfl) (by decide) rfl rfl rfl rfl rfl rfl (Nat.le_of_ble_eq_true rfl) (by cases k <;> rfl) hd kk
theorem gf_C_18_x (hc : gC (oC k η) κ cc nL own ret rm) {i : Nat} (hm : Cond.fieldLink own i "GameConsole$Core" "x" "I" ∈ WT) (hd : decode cc pc = .ok (.getfield i, 3)) (kk : gG (oC k η) κ nL out (pc + 3) lv (.int (S.1 28) :: rest) S X) : gG (oC k η) κ nL out pc lv (.ref (η.1 18) :: rest) S X := g_get hc (C := RX2) (T := TX2) (N := 8) (ci := 1) 18 2 wu_X2 hm (Or.inl rfl) (by decide) rfl rfl rfl hd kk
theorem gf_C_18_y (hc : gC (oC k η) κ cc nL own ret rm) {i : Nat} (hm : Cond.fieldLink own i "GameConsole$Core" "y" "I" ∈ WT) (hd : decode cc pc = .ok (.getfield i, 3)) (kk : gG (oC k η) κ nL out (pc + 3) lv (.int (S.1 29) :: rest) S X) : gG (oC k η) κ nL out pc lv (.ref (η.1 18) :: rest) S X := g_get hc (C := RX2) (T := TX2) (N := 8) (ci := 1) 18 3 wu_X2 hm (Or.inl rfl) (by decide) rfl rfl rfl hd kk
theorem gf_C_18_a (hc : gC (oC k η) κ cc nL own ret rm) {i : Nat} (hm : Cond.fieldLink own i "GameConsole$Core" "a" "I" ∈ WT) (hd : decode cc pc = .ok (.getfield i, 3)) (kk : gG (oC k η) κ nL out (pc + 3) lv (.int (S.1 27) :: rest) S X) : gG (oC k η) κ nL out pc lv (.ref (η.1 18) :: rest) S X := g_get hc (C := RX2) (T := TX2) (N := 8) (ci := 1) 18 1 wu_X2 hm (Or.inl rfl) (by decide) rfl rfl rfl hd kk
theorem pf_C_18_a {v : Int32} {F : gSt → ρ × gSt} (hc : gC (oC k η) κ cc nL own ret rm) {i : Nat} (hm : Cond.fieldLink own i "GameConsole$Core" "a" "I" ∈ WT) (hd : decode cc pc = .ok (.putfield i, 3)) (kk : ∀ S1 : gSt, S1 = sI S 27 v → gG (oC k η) κ nL out (pc + 3) lv rest S1 (F S1)) : gG (oC k η) κ nL out pc lv (.int v :: .ref (η.1 18) :: rest) S (gL (sI S 27 v) F) := g_put hc (C := RX2) (T := TX2) (N := 8) (ci := 1) 18 1 wu_X2 tyX2_ok nmX2 hm (Or.inl rfl) (by decide) rfl rfl rfl rfl rfl rfl (Nat.le_of_ble_eq_true rfl) (by cases k <;> rfl) hd kk
theorem pf_C_18_x {v : Int32} {F : gSt → ρ × gSt} (hc : gC (oC k η) κ cc nL own ret rm) {i : Nat} (hm : Cond.fieldLink own i "GameConsole$Core" "x" "I" ∈ WT) (hd : decode cc pc = .ok (.putfield i, 3)) (kk : ∀ S1 : gSt, S1 = sI S 28 v → gG (oC k η) κ nL out (pc + 3) lv rest S1 (F S1)) : gG (oC k η) κ nL out pc lv (.int v :: .ref (η.1 18) :: rest) S (gL (sI S 28 v) F) := g_put hc (C := RX2) (T := TX2) (N := 8) (ci := 1) 18 2 wu_X2 tyX2_ok nmX2 hm (Or.inl rfl) (by decide) rfl rfl rfl rfl rfl rfl (Nat.le_of_ble_eq_true rfl) (by cases k <;> rfl) hd kk
theorem pf_C_18_y {v : Int32} {F : gSt → ρ × gSt} (hc : gC (oC k η) κ cc nL own ret rm) {i : Nat} (hm : Cond.fieldLink own i "GameConsole$Core" "y" "I" ∈ WT) (hd : decode cc pc = .ok (.putfield i, 3)) (kk : ∀ S1 : gSt, S1 = sI S 29 v → gG (oC k η) κ nL out (pc + 3) lv rest S1 (F S1)) : gG (oC k η) κ nL out pc lv (.int v :: .ref (η.1 18) :: rest) S (gL (sI S 29 v) F) := g_put hc (C := RX2) (T := TX2) (N := 8) (ci := 1) 18 3 wu_X2 tyX2_ok nmX2 hm (Or.inl rfl) (by decide) rfl rfl rfl rfl rfl rfl (Nat.le_of_ble_eq_true rfl) (by cases k <;> rfl) hd kk
theorem gf_C_18_crossed (hc : gC (oC k η) κ cc nL own ret rm) {i : Nat} (hm : Cond.fieldLink own i "GameConsole$Core" "crossed" "I" ∈ WT) (hd : decode cc pc = .ok (.getfield i, 3)) (kk : gG (oC k η) κ nL out (pc + 3) lv (.int (S.1 33) :: rest) S X) : gG (oC k η) κ nL out pc lv (.ref (η.1 18) :: rest) S X := g_get hc (C := RX2) (T := TX2) (N := 8) (ci := 1) 18 7 wu_X2 hm (Or.inl rfl) (by decide) rfl rfl rfl hd kk
theorem gf_C_0_sound (hc : gC (oC k η) κ cc nL own ret rm) {i : Nat} (hm : Cond.fieldLink own i "GameConsole" "sound" "LGameConsole$SoundUnit;" ∈ WT) (hd : decode cc pc = .ok (.getfield i, 3)) (kk : gG (oC k η) κ nL out (pc + 3) lv (.ref (η.1 10) :: rest) S X) : gG (oC k η) κ nL out pc lv (.ref (η.1 0) :: rest) S X := g_get hc (C := RX9) (T := TX9) (N := 7) (ci := 7) 0 2 wu_X9 hm (Or.inl rfl) (by decide) rfl rfl rfl hd kk
theorem gf_C_10_irqLine_nest_213 (hc : gC (oC k η) κ cc nL RX9 ret rm) (hd : decode cc pc = .ok (.getfield 213, 3)) (kk : gG (oC k η) κ nL out (pc + 3) lv (.int (bI (S.2.1 5)) :: rest) S X) : gG (oC k η) κ nL out pc lv (.ref (η.1 10) :: rest) S X := g_getN hc (C := RX8) (T := TX8) (N := 7) (ci := 6) 10 5 wu_X8 (zC_n η (w := .fieldLinkNest RX9 213 "GameConsole$SoundUnit" "irqLine" "Z" "GameConsole") (by decide +kernel)) (Or.inl rfl) (by decide) rfl rfl rfl hd kk
theorem gf_C_0_cartridge (hc : gC (oC k η) κ cc nL own ret rm) {i : Nat} (hm : Cond.fieldLink own i "GameConsole" "cartridge" "LGameConsole$Cartridge;" ∈ WT) (hd : decode cc pc = .ok (.getfield i, 3)) (kk : gG (oC k η) κ nL out (pc + 3) lv (.ref (η.1 1) :: rest) S X) : gG (oC k η) κ nL out pc lv (.ref (η.1 0) :: rest) S X := g_get hc (C := RX9) (T := TX9) (N := 7) (ci := 7) 0 0 wu_X9 hm (Or.inl rfl) (by decide) rfl rfl rfl hd kk
theorem gf_C_1_irqLine (hc : gC (oC k η) κ cc nL own ret rm) {i : Nat} (hm : Cond.fieldLink own i "GameConsole$Cartridge" "irqLine" "Z" ∈ WT) (hd : decode cc pc = .ok (.getfield i, 3)) (kk : gG (oC k η) κ nL out (pc + 3) lv (.int (bI (S.2.1 0)) :: rest) S X) : gG (oC k η) κ nL out pc lv (.ref (η.1 1) :: rest) S X := by
  cases k
  · exact g_get hc (C := RX3) (T := TX3) (N := 13) (ci := 2) 1 5 wu_X3 hm (Or.inl rfl) (by decide) rfl rfl rfl hd kk
  · exact g_get hc (C := RX4) (T := TX4) (N := 11) (ci := 3) 1 5 wu_X4 hm (Or.inl rfl) (by decide) rfl rfl rfl hd kk
theorem gf_C_0_elapsed (hc : gC (oC k η) κ cc nL own ret rm) {i : Nat} (hm : Cond.fieldLink own i "GameConsole" "elapsed" "I" ∈ WT) (hd : decode cc pc = .ok (.getfield i, 3)) (kk : gG (oC k η) κ nL out (pc + 3) lv (.int (S.1 0) :: rest) S X) : gG (oC k η) κ nL out pc lv (.ref (η.1 0) :: rest) S X := g_get hc (C := RX9) (T := TX9) (N := 7) (ci := 7) 0 6 wu_X9 hm (Or.inl rfl) (by decide) rfl rfl rfl hd kk
theorem pf_C_0_elapsed {v : Int32} {F : gSt → ρ × gSt} (hc : gC (oC k η) κ cc nL own ret rm) {i : Nat} (hm : Cond.fieldLink own i "GameConsole" "elapsed" "I" ∈ WT) (hd : decode cc pc = .ok (.putfield i, 3)) (kk : ∀ S1 : gSt, S1 = sI S 0 v → gG (oC k η) κ nL out (pc + 3) lv rest S1 (F S1)) : gG (oC k η) κ nL out pc lv (.int v :: .ref (η.1 0) :: rest) S (gL (sI S 0 v) F) := g_put hc (C := RX9) (T := TX9) (N := 7) (ci := 7) 0 6 wu_X9 tyX9_ok nmX9 hm (Or.inl rfl) (by decide) rfl rfl rfl rfl rfl rfl (Nat.le_of_ble_eq_true rfl) (by cases k <;> rfl) hd kk
theorem gf_C_0_picture (hc : gC (oC k η) κ cc nL own ret rm) {i : Nat} (hm : Cond.fieldLink own i "GameConsole" "picture" "LGameConsole$PictureUnit;" ∈ WT) (hd : decode cc pc = .ok (.getfield i, 3)) (kk : gG (oC k η) κ nL out (pc + 3) lv (.ref (η.1 6) :: rest) S X) : gG (oC k η) κ nL out pc lv (.ref (η.1 0) :: rest) S X := g_get hc (C := RX9) (T := TX9) (N := 7) (ci := 7) 0 1 wu_X9 hm (Or.inl rfl) (by decide) rfl rfl rfl hd kk
theorem gf_C_0_bus (hc : gC (oC k η) κ cc nL own ret rm) {i : Nat} (hm : Cond.fieldLink own i "GameConsole" "bus" "LGameConsole$Bus;" ∈ WT) (hd : decode cc pc = .ok (.getfield i, 3)) (kk : gG (oC k η) κ nL out (pc + 3) lv (.ref (η.1 15) :: rest) S X) : gG (oC k η) κ nL out pc lv (.ref (η.1 0) :: rest) S X := g_get hc (C := RX9) (T := TX9) (N := 7) (ci := 7) 0 4 wu_X9 hm (Or.inl rfl) (by decide) rfl rfl rfl hd kk
theorem gf_C_0_core (hc : gC (oC k η) κ cc nL own ret rm) {i : Nat} (hm : Cond.fieldLink own i "GameConsole" "core" "LGameConsole$Core;" ∈ WT) (hd : decode cc pc = .ok (.getfield i, 3)) (kk : gG (oC k η) κ nL out (pc + 3) lv (.ref (η.1 18) :: rest) S X) : gG (oC k η) κ nL out pc lv (.ref (η.1 0) :: rest) S X := g_get hc (C := RX9) (T := TX9) (N := 7) (ci := 7) 0 5 wu_X9 hm (Or.inl rfl) (by decide) rfl rfl rfl hd kk
end RC
theorem gu_X1_setRomBanks {q : String} : g_calleeU "GameConsole$Cartridge" ⟨q, "setRomBanks", "(IIII)V"⟩ yX1_setRomBanks cX1_setRomBanks 5 none 4 := ⟨by refine ⟨by decide +kernel, by decide +kernel, ?_⟩; exact (by decide +kernel : (parseMethodDescriptor "(IIII)V").map (fun d => d.parameters.length) = some 4), wtC_13, wtC_14, wtC_15⟩
theorem gu_X1_setFourChrBanks {q : String} : g_calleeU "GameConsole$Cartridge" ⟨q, "setFourChrBanks", "(IIIII)V"⟩ yX1_setFourChrBanks cX1_setFourChrBanks 6 none 5 := ⟨by refine ⟨by decide +kernel, by decide +kernel, ?_⟩; exact (by decide +kernel : (parseMethodDescriptor "(IIIII)V").map (fun d => d.parameters.length) = some 5), wtC_19, wtC_14, wtC_20⟩
theorem ge_X3_setRegister : g_callee RX3 yX3_setRegister cX3_setRegister 3 none 2 := ⟨by decide +kernel, wtC_24, wtC_25, wtC_26, wtC_27⟩
theorem ge_X3_forgetShifted : g_callee RX3 yX3_forgetShifted cX3_forgetShifted 1 none 0 := ⟨by decide +kernel, wtC_29, wtC_30, wtC_26, wtC_31⟩
theorem ge_X3_mapRom : g_callee RX3 yX3_mapRom cX3_mapRom 3 none 0 := ⟨by decide +kernel, wtC_33, wtC_34, wtC_26, wtC_35⟩
theorem ge_X3_mapChr : g_callee RX3 yX3_mapChr cX3_mapChr 3 none 0 := ⟨by decide +kernel, wtC_37, wtC_38, wtC_26, wtC_39⟩
theorem ge_X4_mapRom : g_callee RX4 yX4_mapRom cX4_mapRom 1 none 0 := ⟨by decide +kernel, wtC_54, wtC_55, wtC_56, wtC_57⟩
theorem ge_X4_mapChr : g_callee RX4 yX4_mapChr cX4_mapChr 4 none 0 := ⟨by decide +kernel, wtC_59, wtC_60, wtC_56, wtC_61⟩
theorem gu_X1_romByte {q : String} : g_calleeU "GameConsole$Cartridge" ⟨q, "romByte", "(I)I"⟩ yX1_romByte cX1_romByte 2 (some .int) 1 := ⟨by refine ⟨by decide +kernel, by decide +kernel, ?_⟩; exact (by decide +kernel : (parseMethodDescriptor "(I)I").map (fun d => d.parameters.length) = some 1), wtC_65, wtC_14, wtC_66⟩
theorem gu_X1_chrByte {q : String} : g_calleeU "GameConsole$Cartridge" ⟨q, "chrByte", "(I)I"⟩ yX1_chrByte cX1_chrByte 2 (some .int) 1 := ⟨by refine ⟨by decide +kernel, by decide +kernel, ?_⟩; exact (by decide +kernel : (parseMethodDescriptor "(I)I").map (fun d => d.parameters.length) = some 1), wtC_70, wtC_14, wtC_71⟩
theorem gu_X3_storeRegister {q : String} : g_calleeU "GameConsole$Cartridge" ⟨q, "storeRegister", "(II)V"⟩ yX3_storeRegister cX3_storeRegister 3 none 2 := ⟨by refine ⟨by decide +kernel, by decide +kernel, ?_⟩; exact (by decide +kernel : (parseMethodDescriptor "(II)V").map (fun d => d.parameters.length) = some 2), wtC_75, wtC_26, wtC_76⟩
theorem gu_X4_storeRegister {q : String} : g_calleeU "GameConsole$Cartridge" ⟨q, "storeRegister", "(II)V"⟩ yX4_storeRegister cX4_storeRegister 3 none 2 := ⟨by refine ⟨by decide +kernel, by decide +kernel, ?_⟩; exact (by decide +kernel : (parseMethodDescriptor "(II)V").map (fun d => d.parameters.length) = some 2), wtC_79, wtC_56, wtC_80⟩
theorem gu_X3_noteLine {q : String} : g_calleeU "GameConsole$Cartridge" ⟨q, "noteLine", "()V"⟩ yX3_noteLine cX3_noteLine 1 none 0 := ⟨by refine ⟨by decide +kernel, by decide +kernel, ?_⟩; exact (by decide +kernel : (parseMethodDescriptor "()V").map (fun d => d.parameters.length) = some 0), wtC_82, wtC_26, wtC_83⟩
theorem gu_X4_noteLine {q : String} : g_calleeU "GameConsole$Cartridge" ⟨q, "noteLine", "()V"⟩ yX4_noteLine cX4_noteLine 1 none 0 := ⟨by refine ⟨by decide +kernel, by decide +kernel, ?_⟩; exact (by decide +kernel : (parseMethodDescriptor "()V").map (fun d => d.parameters.length) = some 0), wtC_86, wtC_56, wtC_87⟩
theorem gu_X3_forgetShifted {q : String} : g_calleeU "GameConsole$Cartridge" ⟨q, "forgetShifted", "()V"⟩ yX3_forgetShifted cX3_forgetShifted 1 none 0 := ⟨by refine ⟨by decide +kernel, by decide +kernel, ?_⟩; exact (by decide +kernel : (parseMethodDescriptor "()V").map (fun d => d.parameters.length) = some 0), wtC_29, wtC_26, wtC_31⟩
theorem gu_X4_forgetShifted {q : String} : g_calleeU "GameConsole$Cartridge" ⟨q, "forgetShifted", "()V"⟩ yX4_forgetShifted cX4_forgetShifted 1 none 0 := ⟨by refine ⟨by decide +kernel, by decide +kernel, ?_⟩; exact (by decide +kernel : (parseMethodDescriptor "()V").map (fun d => d.parameters.length) = some 0), wtC_91, wtC_56, wtC_92⟩
theorem gu_X3_lineCounter {q : String} : g_calleeU "GameConsole$Cartridge" ⟨q, "lineCounter", "()I"⟩ yX3_lineCounter cX3_lineCounter 1 (some .int) 0 := ⟨by refine ⟨by decide +kernel, by decide +kernel, ?_⟩; exact (by decide +kernel : (parseMethodDescriptor "()I").map (fun d => d.parameters.length) = some 0), wtC_94, wtC_26, wtC_95⟩
theorem gu_X4_lineCounter {q : String} : g_calleeU "GameConsole$Cartridge" ⟨q, "lineCounter", "()I"⟩ yX4_lineCounter cX4_lineCounter 1 (some .int) 0 := ⟨by refine ⟨by decide +kernel, by decide +kernel, ?_⟩; exact (by decide +kernel : (parseMethodDescriptor "()I").map (fun d => d.parameters.length) = some 0), wtC_98, wtC_56, wtC_99⟩
theorem ge_X8_enable : g_callee RX8 yX8_enable cX8_enable 3 none 1 := ⟨by decide +kernel, wtC_107, wtC_108, wtC_109, wtC_110⟩
theorem ge_X8_countLengths : g_callee RX8 yX8_countLengths cX8_countLengths 2 none 0 := ⟨by decide +kernel, wtC_116, wtC_117, wtC_109, wtC_118⟩
theorem ge_X8_restartFrame : g_callee RX8 yX8_restartFrame cX8_restartFrame 2 none 1 := ⟨by decide +kernel, wtC_121, wtC_122, wtC_109, wtC_123⟩
theorem ge_X8_storeChannel : g_callee RX8 yX8_storeChannel cX8_storeChannel 6 none 3 := ⟨by decide +kernel, wtC_125, wtC_126, wtC_109, wtC_127⟩
theorem ge_X8_frameEnd : g_callee RX8 yX8_frameEnd cX8_frameEnd 1 (some .int) 0 := ⟨by decide +kernel, wtC_130, wtC_131, wtC_109, wtC_132⟩
theorem ge_X8_nextMark : g_callee RX8 yX8_nextMark cX8_nextMark 1 (some .int) 0 := ⟨by decide +kernel, wtC_134, wtC_135, wtC_109, wtC_136⟩
theorem ge_X8_comeToMark : g_callee RX8 yX8_comeToMark cX8_comeToMark 1 none 0 := ⟨by decide +kernel, wtC_142, wtC_143, wtC_109, wtC_144⟩
theorem ge_X7_palettePlace : g_calleeS RX7 yX7_palettePlace cX7_palettePlace 2 (some .int) 1 := ⟨by decide +kernel, wtC_157, wtC_158, wtC_159⟩
theorem ge_X7_nameTablePlace : g_callee RX7 yX7_nameTablePlace cX7_nameTablePlace 3 (some .int) 1 := ⟨by decide +kernel, wtC_162, wtC_163, wtC_158, wtC_164⟩
theorem ge_X7_byteAt : g_callee RX7 yX7_byteAt cX7_byteAt 2 (some .int) 1 := ⟨by decide +kernel, wtC_169, wtC_170, wtC_158, wtC_171⟩
theorem ge_X7_growV : g_callee RX7 yX7_growV cX7_growV 1 none 0 := ⟨by decide +kernel, wtC_174, wtC_175, wtC_158, wtC_176⟩
theorem ge_X7_storeControl : g_callee RX7 yX7_storeControl cX7_storeControl 3 none 1 := ⟨by decide +kernel, wtC_178, wtC_179, wtC_158, wtC_180⟩
theorem ge_X7_storeScroll : g_callee RX7 yX7_storeScroll cX7_storeScroll 2 none 1 := ⟨by decide +kernel, wtC_182, wtC_183, wtC_158, wtC_184⟩
theorem ge_X7_storeAddress : g_callee RX7 yX7_storeAddress cX7_storeAddress 2 none 1 := ⟨by decide +kernel, wtC_186, wtC_187, wtC_158, wtC_188⟩
theorem ge_X7_storeByte : g_callee RX7 yX7_storeByte cX7_storeByte 3 none 2 := ⟨by decide +kernel, wtC_190, wtC_191, wtC_158, wtC_192⟩
theorem ge_X7_tellLine : g_callee RX7 yX7_tellLine cX7_tellLine 2 none 0 := ⟨by decide +kernel, wtC_198, wtC_199, wtC_158, wtC_200⟩
theorem ge_X7_comeToDotOne : g_callee RX7 yX7_comeToDotOne cX7_comeToDotOne 1 none 0 := ⟨by decide +kernel, wtC_202, wtC_203, wtC_158, wtC_204⟩
theorem ge_X8_loadStatus : g_callee RX8 yX8_loadStatus cX8_loadStatus 3 (some .int) 0 := ⟨by decide +kernel, wtC_207, wtC_208, wtC_109, wtC_209⟩
theorem ge_X6_nextBit : g_callee RX6 yX6_nextBit cX6_nextBit 4 (some .int) 1 := ⟨by decide +kernel, wtC_212, wtC_213, wtC_214, wtC_215⟩
theorem ge_X0_loadInput : g_callee RX0 yX0_loadInput cX0_loadInput 2 (some .int) 1 := ⟨by decide +kernel, wtC_221, wtC_222, wtC_223, wtC_224⟩
theorem ge_X7_load : g_callee RX7 yX7_load cX7_load 6 (some .int) 1 := ⟨by decide +kernel, wtC_227, wtC_228, wtC_158, wtC_229⟩
theorem ge_X6_setStrobe : g_callee RX6 yX6_setStrobe cX6_setStrobe 2 none 1 := ⟨by decide +kernel, wtC_233, wtC_234, wtC_214, wtC_235⟩
theorem ge_X8_store : g_callee RX8 yX8_store cX8_store 3 none 2 := ⟨by decide +kernel, wtC_238, wtC_239, wtC_109, wtC_240⟩
theorem ge_X7_store : g_callee RX7 yX7_store cX7_store 3 none 2 := ⟨by decide +kernel, wtC_242, wtC_243, wtC_158, wtC_244⟩
theorem ge_X0_load : g_callee RX0 yX0_load cX0_load 2 (some .int) 1 := ⟨by decide +kernel, wtC_246, wtC_247, wtC_223, wtC_248⟩
theorem ge_X2_setFlag : g_callee RX2 yX2_setFlag cX2_setFlag 3 none 2 := ⟨by decide +kernel, wtC_251, wtC_252, wtC_253, wtC_254⟩
theorem ge_X0_storeStack : g_callee RX0 yX0_storeStack cX0_storeStack 3 none 2 := ⟨by decide +kernel, wtC_258, wtC_259, wtC_223, wtC_260⟩
theorem ge_X2_push : g_callee RX2 yX2_push cX2_push 2 none 1 := ⟨by decide +kernel, wtC_262, wtC_263, wtC_253, wtC_264⟩
theorem ge_X0_loadStack : g_callee RX0 yX0_loadStack cX0_loadStack 2 (some .int) 1 := ⟨by decide +kernel, wtC_266, wtC_267, wtC_223, wtC_268⟩
theorem ge_X2_pull : g_callee RX2 yX2_pull cX2_pull 1 (some .int) 0 := ⟨by decide +kernel, wtC_270, wtC_271, wtC_253, wtC_272⟩
theorem ge_X2_pushWord : g_callee RX2 yX2_pushWord cX2_pushWord 2 none 1 := ⟨by decide +kernel, wtC_274, wtC_275, wtC_253, wtC_276⟩
theorem ge_X0_vector : g_callee RX0 yX0_vector cX0_vector 2 (some .int) 1 := ⟨by decide +kernel, wtC_278, wtC_279, wtC_223, wtC_280⟩
theorem ge_X2_fetch : g_callee RX2 yX2_fetch cX2_fetch 2 (some .int) 0 := ⟨by decide +kernel, wtC_286, wtC_287, wtC_253, wtC_288⟩
theorem ge_X2_otherPage : g_calleeS RX2 yX2_otherPage cX2_otherPage 2 (some .int) 2 := ⟨by decide +kernel, wtC_291, wtC_253, wtC_292⟩
theorem ge_X2_wordWithinPage : g_callee RX2 yX2_wordWithinPage cX2_wordWithinPage 3 (some .int) 1 := ⟨by decide +kernel, wtC_297, wtC_298, wtC_253, wtC_299⟩
theorem ge_X2_indexed : g_callee RX2 yX2_indexed cX2_indexed 4 (some .int) 2 := ⟨by decide +kernel, wtC_301, wtC_302, wtC_253, wtC_303⟩
theorem ge_X2_judged : g_callee RX2 yX2_judged cX2_judged 3 (some .int) 1 := ⟨by decide +kernel, wtC_306, wtC_307, wtC_253, wtC_308⟩
theorem ge_X2_add : g_callee RX2 yX2_add cX2_add 3 none 1 := ⟨by decide +kernel, wtC_310, wtC_311, wtC_253, wtC_312⟩
theorem ge_X2_compare : g_callee RX2 yX2_compare cX2_compare 3 none 2 := ⟨by decide +kernel, wtC_314, wtC_315, wtC_253, wtC_316⟩
theorem ge_X2_testBits : g_callee RX2 yX2_testBits cX2_testBits 2 none 1 := ⟨by decide +kernel, wtC_318, wtC_319, wtC_253, wtC_320⟩
theorem ge_X2_shiftedUp : g_callee RX2 yX2_shiftedUp cX2_shiftedUp 3 (some .int) 2 := ⟨by decide +kernel, wtC_322, wtC_323, wtC_253, wtC_324⟩
theorem ge_X2_shiftedDown : g_callee RX2 yX2_shiftedDown cX2_shiftedDown 3 (some .int) 2 := ⟨by decide +kernel, wtC_326, wtC_327, wtC_253, wtC_328⟩
theorem ge_X2_changed : g_callee RX2 yX2_changed cX2_changed 3 (some .int) 2 := ⟨by decide +kernel, wtC_330, wtC_331, wtC_253, wtC_332⟩
theorem ge_X0_store : g_callee RX0 yX0_store cX0_store 3 none 2 := ⟨by decide +kernel, wtC_334, wtC_335, wtC_223, wtC_336⟩
theorem ge_X2_branchTaken : g_callee RX2 yX2_branchTaken cX2_branchTaken 2 (some .boolean) 1 := ⟨by decide +kernel, wtC_338, wtC_339, wtC_253, wtC_340⟩
theorem ge_X2_pullFlags : g_callee RX2 yX2_pullFlags cX2_pullFlags 1 none 0 := ⟨by decide +kernel, wtC_342, wtC_343, wtC_253, wtC_344⟩
theorem ge_X2_pullWord : g_callee RX2 yX2_pullWord cX2_pullWord 2 (some .int) 0 := ⟨by decide +kernel, wtC_346, wtC_347, wtC_253, wtC_348⟩
theorem ge_X2_enter : g_callee RX2 yX2_enter cX2_enter 4 none 3 := ⟨by decide +kernel, wtC_351, wtC_352, wtC_253, wtC_353⟩
theorem ge_X2_jump : g_callee RX2 yX2_jump cX2_jump 3 none 2 := ⟨by decide +kernel, wtC_355, wtC_356, wtC_253, wtC_357⟩
theorem ge_X2_useStack : g_callee RX2 yX2_useStack cX2_useStack 2 none 1 := ⟨by decide +kernel, wtC_359, wtC_360, wtC_253, wtC_361⟩
theorem ge_X2_changeFlag : g_callee RX2 yX2_changeFlag cX2_changeFlag 2 none 1 := ⟨by decide +kernel, wtC_363, wtC_364, wtC_253, wtC_365⟩
theorem ge_X2_changeRegister : g_callee RX2 yX2_changeRegister cX2_changeRegister 2 none 1 := ⟨by decide +kernel, wtC_367, wtC_368, wtC_253, wtC_369⟩
theorem ge_X2_branch : g_callee RX2 yX2_branch cX2_branch 4 (some .int) 2 := ⟨by decide +kernel, wtC_371, wtC_372, wtC_253, wtC_373⟩
theorem ge_X2_change : g_callee RX2 yX2_change cX2_change 4 none 3 := ⟨by decide +kernel, wtC_375, wtC_376, wtC_253, wtC_377⟩
theorem ge_X2_stored : g_callee RX2 yX2_stored cX2_stored 2 (some .int) 1 := ⟨by decide +kernel, wtC_379, wtC_380, wtC_253, wtC_381⟩
theorem ge_X2_combine : g_callee RX2 yX2_combine cX2_combine 3 none 2 := ⟨by decide +kernel, wtC_383, wtC_384, wtC_253, wtC_385⟩
theorem ge_X2_fetchOperand : g_callee RX2 yX2_fetchOperand cX2_fetchOperand 3 (some .int) 1 := ⟨by decide +kernel, wtC_390, wtC_391, wtC_253, wtC_392⟩
theorem ge_X2_addressOf : g_callee RX2 yX2_addressOf cX2_addressOf 3 (some .int) 2 := ⟨by decide +kernel, wtC_394, wtC_395, wtC_253, wtC_396⟩
theorem ge_X2_perform : g_callee RX2 yX2_perform cX2_perform 5 (some .int) 3 := ⟨by decide +kernel, wtC_398, wtC_399, wtC_253, wtC_400⟩
theorem ge_X7_advance : g_callee RX7 yX7_advance cX7_advance 6 none 1 := ⟨by decide +kernel, wtC_409, wtC_410, wtC_158, wtC_411⟩
theorem ge_X8_advance : g_callee RX8 yX8_advance cX8_advance 6 none 1 := ⟨by decide +kernel, wtC_413, wtC_414, wtC_109, wtC_415⟩
theorem ge_X0_copyPageAsked : g_callee RX0 yX0_copyPageAsked cX0_copyPageAsked 4 (some .int) 1 := ⟨by decide +kernel, wtC_418, wtC_419, wtC_223, wtC_420⟩
theorem ge_X9_letTimePass : g_callee RX9 yX9_letTimePass cX9_letTimePass 2 none 1 := ⟨by decide +kernel, wtC_422, wtC_423, wtC_424, wtC_425⟩
theorem ge_X7_restart : g_callee RX7 yX7_restart cX7_restart 1 none 0 := ⟨by decide +kernel, wtC_428, wtC_429, wtC_158, wtC_430⟩
theorem ge_X8_restart : g_callee RX8 yX8_restart cX8_restart 1 none 0 := ⟨by decide +kernel, wtC_432, wtC_433, wtC_109, wtC_434⟩
theorem ge_X2_restart : g_callee RX2 yX2_restart cX2_restart 1 none 0 := ⟨by decide +kernel, wtC_437, wtC_438, wtC_253, wtC_439⟩
theorem ge_X7_takeNmi : g_callee RX7 yX7_takeNmi cX7_takeNmi 2 (some .boolean) 0 := ⟨by decide +kernel, wtC_441, wtC_442, wtC_158, wtC_443⟩
theorem ge_X9_irqLines : g_callee RX9 yX9_irqLines cX9_irqLines 1 (some .int) 0 := ⟨by decide +kernel, wtC_445, wtC_446, wtC_424, wtC_447⟩
theorem ge_X2_takeStep : g_callee RX2 yX2_takeStep cX2_takeStep 8 (some .int) 2 := ⟨by decide +kernel, wtC_449, wtC_450, wtC_253, wtC_451⟩
theorem ge_X9_settle : g_callee RX9 yX9_settle cX9_settle 3 (some .int) 1 := ⟨by decide +kernel, wtC_453, wtC_454, wtC_424, wtC_455⟩
theorem vi_and4 (x : Int32) : ∃ j : Nat, j < 8 ∧ x &&& 4 = nI j &&& 4 := by
  obtain ⟨j, hj, e⟩ := pk_andE x (m := 7) 3 (by decide)
  exact ⟨j, hj, by rw [← e, Int32.and_assoc]; rfl⟩
theorem vi_rom (x y : Int32) : vp_in (((x &&& 7) <<< ((6 : Int32) &&& (31 : Int32))) ||| (y &&& 63)) 512 := by
  obtain ⟨i, hi, e1⟩ := pk_andE x (m := 7) 3 (by decide)
  obtain ⟨j, hj, e2⟩ := pk_andE y (m := 63) 6 (by decide)
  rw [e1, e2]
  exact vp_in_iff.mpr ((by decide +kernel : ∀ i, i < 2 ^ 3 → ∀ j, j < 2 ^ 6 → (0 ≤ (((nI i) <<< ((6 : Int32) &&& 31)) ||| nI j).toInt ∧ (((nI i) <<< ((6 : Int32) &&& 31)) ||| nI j).toInt < 512)) i hi j hj)
theorem vi_chr (x y : Int32) : vp_in (((x &&& 7) <<< ((4 : Int32) &&& (31 : Int32))) ||| (y &&& 15)) 128 := by
  obtain ⟨i, hi, e1⟩ := pk_andE x (m := 7) 3 (by decide)
  obtain ⟨j, hj, e2⟩ := pk_andE y (m := 15) 4 (by decide)
  rw [e1, e2]
  exact vp_in_iff.mpr ((by decide +kernel : ∀ i, i < 2 ^ 3 → ∀ j, j < 2 ^ 4 → (0 ≤ (((nI i) <<< ((4 : Int32) &&& 31)) ||| nI j).toInt ∧ (((nI i) <<< ((4 : Int32) &&& 31)) ||| nI j).toInt < 128)) i hi j hj)
theorem vi_four (x : Int32) : vp_in (x &&& 4) 8 ∧ vp_in ((x &&& 4) ||| 1) 8 ∧ vp_in ((x &&& 4) ||| 2) 8 ∧ vp_in ((x &&& 4) ||| 3) 8 := by
  obtain ⟨j, hj, e⟩ := vi_and4 x
  rw [e]
  have h := (by decide +kernel : ∀ j, j < 8 → (0 ≤ (nI j &&& 4).toInt ∧ (nI j &&& 4).toInt < 8) ∧ (0 ≤ ((nI j &&& 4) ||| 1).toInt ∧ ((nI j &&& 4) ||| 1).toInt < 8) ∧ (0 ≤ ((nI j &&& 4) ||| 2).toInt ∧ ((nI j &&& 4) ||| 2).toInt < 8) ∧ (0 ≤ ((nI j &&& 4) ||| 3).toInt ∧ ((nI j &&& 4) ||| 3).toInt < 8)) j hj
  exact ⟨vp_in_iff.mpr h.1, vp_in_iff.mpr h.2.1, vp_in_iff.mpr h.2.2.1, vp_in_iff.mpr h.2.2.2⟩
theorem vi_stack (x : Int32) : vp_in (256 ||| (x &&& 255)) 2048 := by
  obtain ⟨j, hj, e⟩ := pk_andE x (m := 255) 8 (by decide)
  rw [e]
  exact vp_in_iff.mpr ((by decide +kernel : ∀ j, j < 2 ^ 8 → (0 ≤ (256 ||| nI j).toInt ∧ (256 ||| nI j).toInt < 2048)) j hj)
end
section
abbrev rm_X1_romByte : Room := { frames := 0, cells := 0, slots := 0, locals := 0 }
def sp_X1_romByte (k : Bool) (a0 : Int32) (S : gSt) : Int32 × gSt := ((aG S 2 ((((aG S 4 ((a0 >>> ((13 : Int32) &&& (31 : Int32))) &&& 3)) &&& 7) <<< ((6 : Int32) &&& (31 : Int32))) ||| (a0 &&& 63))), S)
set_option maxRecDepth 100000 in
set_option maxHeartbeats 4000000 in
theorem c_X1_romByte (l : Launch) (k : Bool) (η : gE) (a0 : Int32) (S : gSt) : gMet l yX1_romByte cX1_romByte 2 (some .int) rm_X1_romByte (oC k η) [.ref (η.1 1), .int a0] S (oI (sp_X1_romByte k a0 S).1) (sp_X1_romByte k a0 S).2 := by
  refine gMet_of (X := sp_X1_romByte k a0 S) (lv := [(0, .ref (η.1 1)), (1, .int a0)]) oI (zC_ok η) (by decide +kernel) (Nat.le_of_ble_eq_true rfl) rfl (fun κ hc => ?_)
  have hc : gC (oC k η) κ cX1_romByte 2 RX1 (some .int) rm_X1_romByte := hc
  unfold sp_X1_romByte
  refine g_aload_n (i := 0) hc 0 dX1_romByte_0 rfl rfl ?_
  refine gf_C_1_rom hc wtC_0 dX1_romByte_1 ?_
  refine g_aload_n (i := 0) hc 0 dX1_romByte_4 rfl rfl ?_
  refine gf_C_1_romBanks hc wtC_1 dX1_romByte_5 ?_
  refine g_iload_n (i := 1) hc 1 dX1_romByte_8 rfl rfl ?_
  refine g_bipush (v := 13) hc dX1_romByte_9 (by decide) ?_
  refine g_ishr hc dX1_romByte_11 ?_
  refine g_iconst (v := 3) hc dX1_romByte_12 (by decide) ?_
  refine g_iand hc dX1_romByte_13 ?_
  refine al_C_4 hc (pk_andIn _ 2 (by decide) (by decide)) dX1_romByte_14 ?_
  refine g_bipush (v := 7) hc dX1_romByte_15 (by decide) ?_
  refine g_iand hc dX1_romByte_17 ?_
  refine g_bipush (v := 6) hc dX1_romByte_18 (by decide) ?_
  refine g_ishl hc dX1_romByte_20 ?_
  refine g_iload_n (i := 1) hc 1 dX1_romByte_21 rfl rfl ?_
  refine g_bipush (v := 63) hc dX1_romByte_22 (by decide) ?_
  refine g_iand hc dX1_romByte_24 ?_
  refine g_ior hc dX1_romByte_25 ?_
  refine al_C_2 hc (vi_rom _ _) dX1_romByte_26 ?_
  exact g_iret hc dX1_romByte_27

abbrev rm_X1_chrByte : Room := { frames := 0, cells := 0, slots := 0, locals := 0 }
def sp_X1_chrByte (k : Bool) (a0 : Int32) (S : gSt) : Int32 × gSt := ((aG S 3 ((((aG S 5 ((a0 >>> ((10 : Int32) &&& (31 : Int32))) &&& 7)) &&& 7) <<< ((4 : Int32) &&& (31 : Int32))) ||| (a0 &&& 15))), S)
set_option maxRecDepth 100000 in
set_option maxHeartbeats 4000000 in
theorem c_X1_chrByte (l : Launch) (k : Bool) (η : gE) (a0 : Int32) (S : gSt) : gMet l yX1_chrByte cX1_chrByte 2 (some .int) rm_X1_chrByte (oC k η) [.ref (η.1 1), .int a0] S (oI (sp_X1_chrByte k a0 S).1) (sp_X1_chrByte k a0 S).2 := by
  refine gMet_of (X := sp_X1_chrByte k a0 S) (lv := [(0, .ref (η.1 1)), (1, .int a0)]) oI (zC_ok η) (by decide +kernel) (Nat.le_of_ble_eq_true rfl) rfl (fun κ hc => ?_)
  have hc : gC (oC k η) κ cX1_chrByte 2 RX1 (some .int) rm_X1_chrByte := hc
  unfold sp_X1_chrByte
  refine g_aload_n (i := 0) hc 0 dX1_chrByte_0 rfl rfl ?_
  refine gf_C_1_chr hc wtC_2 dX1_chrByte_1 ?_
  refine g_aload_n (i := 0) hc 0 dX1_chrByte_4 rfl rfl ?_
  refine gf_C_1_chrBanks hc wtC_3 dX1_chrByte_5 ?_
  refine g_iload_n (i := 1) hc 1 dX1_chrByte_8 rfl rfl ?_
  refine g_bipush (v := 10) hc dX1_chrByte_9 (by decide) ?_
  refine g_ishr hc dX1_chrByte_11 ?_
  refine g_bipush (v := 7) hc dX1_chrByte_12 (by decide) ?_
  refine g_iand hc dX1_chrByte_14 ?_
  refine al_C_5 hc (pk_andIn _ 3 (by decide) (by decide)) dX1_chrByte_15 ?_
  refine g_bipush (v := 7) hc dX1_chrByte_16 (by decide) ?_
  refine g_iand hc dX1_chrByte_18 ?_
  refine g_iconst (v := 4) hc dX1_chrByte_19 (by decide) ?_
  refine g_ishl hc dX1_chrByte_20 ?_
  refine g_iload_n (i := 1) hc 1 dX1_chrByte_21 rfl rfl ?_
  refine g_bipush (v := 15) hc dX1_chrByte_22 (by decide) ?_
  refine g_iand hc dX1_chrByte_24 ?_
  refine g_ior hc dX1_chrByte_25 ?_
  refine al_C_3 hc (vi_chr _ _) dX1_chrByte_26 ?_
  exact g_iret hc dX1_chrByte_27

abbrev rm_X1_setRomBanks : Room := { frames := 0, cells := 0, slots := 0, locals := 0 }
def sp_X1_setRomBanks (k : Bool) (a0 : Int32) (a1 : Int32) (a2 : Int32) (a3 : Int32) (S : gSt) : Unit × gSt := gL (aP S 4 0 (a0 &&& 7)) (fun S1 => gL (aP S1 4 1 (a1 &&& 7)) (fun S2 => gL (aP S2 4 2 (a2 &&& 7)) (fun S3 => gL (aP S3 4 3 (a3 &&& 7)) (fun S4 => ((), S4)))))
set_option maxRecDepth 100000 in
set_option maxHeartbeats 4000000 in
theorem c_X1_setRomBanks (l : Launch) (k : Bool) (η : gE) (a0 : Int32) (a1 : Int32) (a2 : Int32) (a3 : Int32) (S : gSt) : gMet l yX1_setRomBanks cX1_setRomBanks 5 none rm_X1_setRomBanks (oC k η) [.ref (η.1 1), .int a0, .int a1, .int a2, .int a3] S (oV (sp_X1_setRomBanks k a0 a1 a2 a3 S).1) (sp_X1_setRomBanks k a0 a1 a2 a3 S).2 := by
  refine gMet_of (X := sp_X1_setRomBanks k a0 a1 a2 a3 S) (lv := [(0, .ref (η.1 1)), (1, .int a0), (2, .int a1), (3, .int a2), (4, .int a3)]) oV (zC_ok η) (by decide +kernel) (Nat.le_of_ble_eq_true rfl) rfl (fun κ hc => ?_)
  have hc : gC (oC k η) κ cX1_setRomBanks 5 RX1 none rm_X1_setRomBanks := hc
  unfold sp_X1_setRomBanks
  refine g_aload_n (i := 0) hc 0 dX1_setRomBanks_0 rfl rfl ?_
  refine gf_C_1_romBanks hc wtC_1 dX1_setRomBanks_1 ?_
  refine g_iconst (v := 0) hc dX1_setRomBanks_4 (by decide) ?_
  refine g_iload_n (i := 1) hc 1 dX1_setRomBanks_5 rfl rfl ?_
  refine g_bipush (v := 7) hc dX1_setRomBanks_6 (by decide) ?_
  refine g_iand hc dX1_setRomBanks_8 ?_
  refine as_C_4 hc (vp_in_iff.mpr (by decide)) dX1_setRomBanks_9 (fun S1 f1 => ?_)
  refine g_aload_n (i := 0) hc 0 dX1_setRomBanks_10 rfl rfl ?_
  refine gf_C_1_romBanks hc wtC_1 dX1_setRomBanks_11 ?_
  refine g_iconst (v := 1) hc dX1_setRomBanks_14 (by decide) ?_
  refine g_iload_n (i := 2) hc 2 dX1_setRomBanks_15 rfl rfl ?_
  refine g_bipush (v := 7) hc dX1_setRomBanks_16 (by decide) ?_
  refine g_iand hc dX1_setRomBanks_18 ?_
  refine as_C_4 hc (vp_in_iff.mpr (by decide)) dX1_setRomBanks_19 (fun S2 f2 => ?_)
  refine g_aload_n (i := 0) hc 0 dX1_setRomBanks_20 rfl rfl ?_
  refine gf_C_1_romBanks hc wtC_1 dX1_setRomBanks_21 ?_
  refine g_iconst (v := 2) hc dX1_setRomBanks_24 (by decide) ?_
  refine g_iload_n (i := 3) hc 3 dX1_setRomBanks_25 rfl rfl ?_
  refine g_bipush (v := 7) hc dX1_setRomBanks_26 (by decide) ?_
  refine g_iand hc dX1_setRomBanks_28 ?_
  refine as_C_4 hc (vp_in_iff.mpr (by decide)) dX1_setRomBanks_29 (fun S3 f3 => ?_)
  refine g_aload_n (i := 0) hc 0 dX1_setRomBanks_30 rfl rfl ?_
  refine gf_C_1_romBanks hc wtC_1 dX1_setRomBanks_31 ?_
  refine g_iconst (v := 3) hc dX1_setRomBanks_34 (by decide) ?_
  refine g_iload (i := 4) hc 4 dX1_setRomBanks_35 rfl ?_
  refine g_bipush (v := 7) hc dX1_setRomBanks_37 (by decide) ?_
  refine g_iand hc dX1_setRomBanks_39 ?_
  refine as_C_4 hc (vp_in_iff.mpr (by decide)) dX1_setRomBanks_40 (fun S4 f4 => ?_)
  exact g_vret hc dX1_setRomBanks_41

abbrev rm_X1_setFourChrBanks : Room := { frames := 0, cells := 0, slots := 0, locals := 0 }
def sp_X1_setFourChrBanks (k : Bool) (a0 : Int32) (a1 : Int32) (a2 : Int32) (a3 : Int32) (a4 : Int32) (S : gSt) : Unit × gSt := gL (aP S 5 (a0 &&& 4) (a1 &&& 7)) (fun S1 => gL (aP S1 5 ((a0 &&& 4) ||| 1) (a2 &&& 7)) (fun S2 => gL (aP S2 5 ((a0 &&& 4) ||| 2) (a3 &&& 7)) (fun S3 => gL (aP S3 5 ((a0 &&& 4) ||| 3) (a4 &&& 7)) (fun S4 => ((), S4)))))
set_option maxRecDepth 100000 in
set_option maxHeartbeats 4000000 in
theorem c_X1_setFourChrBanks (l : Launch) (k : Bool) (η : gE) (a0 : Int32) (a1 : Int32) (a2 : Int32) (a3 : Int32) (a4 : Int32) (S : gSt) : gMet l yX1_setFourChrBanks cX1_setFourChrBanks 6 none rm_X1_setFourChrBanks (oC k η) [.ref (η.1 1), .int a0, .int a1, .int a2, .int a3, .int a4] S (oV (sp_X1_setFourChrBanks k a0 a1 a2 a3 a4 S).1) (sp_X1_setFourChrBanks k a0 a1 a2 a3 a4 S).2 := by
  refine gMet_of (X := sp_X1_setFourChrBanks k a0 a1 a2 a3 a4 S) (lv := [(0, .ref (η.1 1)), (1, .int a0), (2, .int a1), (3, .int a2), (4, .int a3), (5, .int a4)]) oV (zC_ok η) (by decide +kernel) (Nat.le_of_ble_eq_true rfl) rfl (fun κ hc => ?_)
  have hc : gC (oC k η) κ cX1_setFourChrBanks 6 RX1 none rm_X1_setFourChrBanks := hc
  unfold sp_X1_setFourChrBanks
  refine g_aload_n (i := 0) hc 0 dX1_setFourChrBanks_0 rfl rfl ?_
  refine gf_C_1_chrBanks hc wtC_3 dX1_setFourChrBanks_1 ?_
  refine g_iload_n (i := 1) hc 1 dX1_setFourChrBanks_4 rfl rfl ?_
  refine g_iconst (v := 4) hc dX1_setFourChrBanks_5 (by decide) ?_
  refine g_iand hc dX1_setFourChrBanks_6 ?_
  refine g_iload_n (i := 2) hc 2 dX1_setFourChrBanks_7 rfl rfl ?_
  refine g_bipush (v := 7) hc dX1_setFourChrBanks_8 (by decide) ?_
  refine g_iand hc dX1_setFourChrBanks_10 ?_
  refine as_C_5 hc (vi_four _).1 dX1_setFourChrBanks_11 (fun S1 f1 => ?_)
  refine g_aload_n (i := 0) hc 0 dX1_setFourChrBanks_12 rfl rfl ?_
  refine gf_C_1_chrBanks hc wtC_3 dX1_setFourChrBanks_13 ?_
  refine g_iload_n (i := 1) hc 1 dX1_setFourChrBanks_16 rfl rfl ?_
  refine g_iconst (v := 4) hc dX1_setFourChrBanks_17 (by decide) ?_
  refine g_iand hc dX1_setFourChrBanks_18 ?_
  refine g_iconst (v := 1) hc dX1_setFourChrBanks_19 (by decide) ?_
  refine g_ior hc dX1_setFourChrBanks_20 ?_
  refine g_iload_n (i := 3) hc 3 dX1_setFourChrBanks_21 rfl rfl ?_
  refine g_bipush (v := 7) hc dX1_setFourChrBanks_22 (by decide) ?_
  refine g_iand hc dX1_setFourChrBanks_24 ?_
  refine as_C_5 hc (vi_four _).2.1 dX1_setFourChrBanks_25 (fun S2 f2 => ?_)
  refine g_aload_n (i := 0) hc 0 dX1_setFourChrBanks_26 rfl rfl ?_
  refine gf_C_1_chrBanks hc wtC_3 dX1_setFourChrBanks_27 ?_
  refine g_iload_n (i := 1) hc 1 dX1_setFourChrBanks_30 rfl rfl ?_
  refine g_iconst (v := 4) hc dX1_setFourChrBanks_31 (by decide) ?_
  refine g_iand hc dX1_setFourChrBanks_32 ?_
  refine g_iconst (v := 2) hc dX1_setFourChrBanks_33 (by decide) ?_
  refine g_ior hc dX1_setFourChrBanks_34 ?_
  refine g_iload (i := 4) hc 4 dX1_setFourChrBanks_35 rfl ?_
  refine g_bipush (v := 7) hc dX1_setFourChrBanks_37 (by decide) ?_
  refine g_iand hc dX1_setFourChrBanks_39 ?_
  refine as_C_5 hc (vi_four _).2.2.1 dX1_setFourChrBanks_40 (fun S3 f3 => ?_)
  refine g_aload_n (i := 0) hc 0 dX1_setFourChrBanks_41 rfl rfl ?_
  refine gf_C_1_chrBanks hc wtC_3 dX1_setFourChrBanks_42 ?_
  refine g_iload_n (i := 1) hc 1 dX1_setFourChrBanks_45 rfl rfl ?_
  refine g_iconst (v := 4) hc dX1_setFourChrBanks_46 (by decide) ?_
  refine g_iand hc dX1_setFourChrBanks_47 ?_
  refine g_iconst (v := 3) hc dX1_setFourChrBanks_48 (by decide) ?_
  refine g_ior hc dX1_setFourChrBanks_49 ?_
  refine g_iload (i := 5) hc 5 dX1_setFourChrBanks_50 rfl ?_
  refine g_bipush (v := 7) hc dX1_setFourChrBanks_52 (by decide) ?_
  refine g_iand hc dX1_setFourChrBanks_54 ?_
  refine as_C_5 hc (vi_four _).2.2.2 dX1_setFourChrBanks_55 (fun S4 f4 => ?_)
  exact g_vret hc dX1_setFourChrBanks_56

abbrev rm_X3_forgetShifted : Room := { frames := 0, cells := 0, slots := 0, locals := 0 }
def sp_X3_forgetShifted  (S : gSt) : Unit × gSt := gL (sI S 2 0) (fun S1 => gL (sI S1 3 0) (fun S2 => ((), S2)))
set_option maxRecDepth 100000 in
set_option maxHeartbeats 4000000 in
theorem c_X3_forgetShifted (l : Launch) (η : gE)  (S : gSt) : gMet l yX3_forgetShifted cX3_forgetShifted 1 none rm_X3_forgetShifted (oC false η) [.ref (η.1 1)] S (oV (sp_X3_forgetShifted S).1) (sp_X3_forgetShifted S).2 := by
  refine gMet_of (X := sp_X3_forgetShifted S) (lv := [(0, .ref (η.1 1))]) oV (zC_ok η) (by decide +kernel) (Nat.le_of_ble_eq_true rfl) rfl (fun κ hc => ?_)
  have hc : gC (oC false η) κ cX3_forgetShifted 1 RX3 none rm_X3_forgetShifted := hc
  unfold sp_X3_forgetShifted
  refine g_aload_n (i := 0) hc 0 dX3_forgetShifted_0 rfl rfl ?_
  refine g_iconst (v := 0) hc dX3_forgetShifted_1 (by decide) ?_
  refine pf_C_1_shifted_false (v := 0) hc wtC_4 dX3_forgetShifted_2 (fun S1 f1 => ?_)
  refine g_aload_n (i := 0) hc 0 dX3_forgetShifted_5 rfl rfl ?_
  refine g_iconst (v := 0) hc dX3_forgetShifted_6 (by decide) ?_
  refine pf_C_1_count_false (v := 0) hc wtC_5 dX3_forgetShifted_7 (fun S2 f2 => ?_)
  exact g_vret hc dX3_forgetShifted_10

abbrev rm_X3_noteLine : Room := { frames := 0, cells := 0, slots := 0, locals := 0 }
def sp_X3_noteLine  (S : gSt) : Unit × gSt := ((), S)
set_option maxRecDepth 100000 in
set_option maxHeartbeats 4000000 in
theorem c_X3_noteLine (l : Launch) (η : gE)  (S : gSt) : gMet l yX3_noteLine cX3_noteLine 1 none rm_X3_noteLine (oC false η) [.ref (η.1 1)] S (oV (sp_X3_noteLine S).1) (sp_X3_noteLine S).2 := by
  refine gMet_of (X := sp_X3_noteLine S) (lv := [(0, .ref (η.1 1))]) oV (zC_ok η) (by decide +kernel) (Nat.le_of_ble_eq_true rfl) rfl (fun κ hc => ?_)
  have hc : gC (oC false η) κ cX3_noteLine 1 RX3 none rm_X3_noteLine := hc
  unfold sp_X3_noteLine
  exact g_vret hc dX3_noteLine_0

abbrev rm_X3_lineCounter : Room := { frames := 0, cells := 0, slots := 0, locals := 0 }
def sp_X3_lineCounter  (S : gSt) : Int32 × gSt := (0, S)
set_option maxRecDepth 100000 in
set_option maxHeartbeats 4000000 in
theorem c_X3_lineCounter (l : Launch) (η : gE)  (S : gSt) : gMet l yX3_lineCounter cX3_lineCounter 1 (some .int) rm_X3_lineCounter (oC false η) [.ref (η.1 1)] S (oI (sp_X3_lineCounter S).1) (sp_X3_lineCounter S).2 := by
  refine gMet_of (X := sp_X3_lineCounter S) (lv := [(0, .ref (η.1 1))]) oI (zC_ok η) (by decide +kernel) (Nat.le_of_ble_eq_true rfl) rfl (fun κ hc => ?_)
  have hc : gC (oC false η) κ cX3_lineCounter 1 RX3 (some .int) rm_X3_lineCounter := hc
  unfold sp_X3_lineCounter
  refine g_iconst (v := 0) hc dX3_lineCounter_0 (by decide) ?_
  exact g_iret hc dX3_lineCounter_1

abbrev rm_X3_setRegister : Room := { frames := 0, cells := 0, slots := 0, locals := 0 }
def sp_X3_setRegister (a0 : Int32) (a1 : Int32) (S : gSt) : Unit × gSt := (if a0 = 0 then gL (sI S 1 (a1 &&& 3)) (fun S1 => gL (sI S1 4 ((a1 >>> ((2 : Int32) &&& (31 : Int32))) &&& 3)) (fun S2 => gL (sI S2 6 ((a1 >>> ((4 : Int32) &&& (31 : Int32))) &&& 1)) (fun S3 => ((), S3)))) else (if a0 = 1 then gL (sI S 7 a1) (fun S4 => ((), S4)) else (if a0 = 2 then gL (sI S 8 a1) (fun S5 => ((), S5)) else gL (sI S 5 a1) (fun S6 => ((), S6)))))
set_option maxRecDepth 100000 in
set_option maxHeartbeats 4000000 in
theorem c_X3_setRegister (l : Launch) (η : gE) (a0 : Int32) (a1 : Int32) (S : gSt) : gMet l yX3_setRegister cX3_setRegister 3 none rm_X3_setRegister (oC false η) [.ref (η.1 1), .int a0, .int a1] S (oV (sp_X3_setRegister a0 a1 S).1) (sp_X3_setRegister a0 a1 S).2 := by
  refine gMet_of (X := sp_X3_setRegister a0 a1 S) (lv := [(0, .ref (η.1 1)), (1, .int a0), (2, .int a1)]) oV (zC_ok η) (by decide +kernel) (Nat.le_of_ble_eq_true rfl) rfl (fun κ hc => ?_)
  have hc : gC (oC false η) κ cX3_setRegister 3 RX3 none rm_X3_setRegister := hc
  unfold sp_X3_setRegister
  refine g_iload_n (i := 1) hc 1 dX3_setRegister_0 rfl rfl ?_
  refine g_tsw (tgt := 28) hc 0 dX3_setRegister_1 ⟨by decide, by decide, rfl⟩ rfl (fun c_1_0 => ?_) (fun c_1_0 => ?_)
  · refine g_aload_n (i := 0) hc 0 dX3_setRegister_28 rfl rfl ?_
    refine g_iload_n (i := 2) hc 2 dX3_setRegister_29 rfl rfl ?_
    refine g_iconst (v := 3) hc dX3_setRegister_30 (by decide) ?_
    refine g_iand hc dX3_setRegister_31 ?_
    refine pf_C_1_mirroring_false_same (v := (a1 &&& 3)) hc wtC_6 wtC_7 dX3_setRegister_32 (fun S1 f1 => ?_)
    refine g_aload_n (i := 0) hc 0 dX3_setRegister_35 rfl rfl ?_
    refine g_iload_n (i := 2) hc 2 dX3_setRegister_36 rfl rfl ?_
    refine g_iconst (v := 2) hc dX3_setRegister_37 (by decide) ?_
    refine g_ishr hc dX3_setRegister_38 ?_
    refine g_iconst (v := 3) hc dX3_setRegister_39 (by decide) ?_
    refine g_iand hc dX3_setRegister_40 ?_
    refine pf_C_1_prgMode_false (v := ((a1 >>> ((2 : Int32) &&& (31 : Int32))) &&& 3)) hc wtC_8 dX3_setRegister_41 (fun S2 f2 => ?_)
    refine g_aload_n (i := 0) hc 0 dX3_setRegister_44 rfl rfl ?_
    refine g_iload_n (i := 2) hc 2 dX3_setRegister_45 rfl rfl ?_
    refine g_iconst (v := 4) hc dX3_setRegister_46 (by decide) ?_
    refine g_ishr hc dX3_setRegister_47 ?_
    refine g_iconst (v := 1) hc dX3_setRegister_48 (by decide) ?_
    refine g_iand hc dX3_setRegister_49 ?_
    refine pf_C_1_chrMode_false (v := ((a1 >>> ((4 : Int32) &&& (31 : Int32))) &&& 1)) hc wtC_9 dX3_setRegister_50 (fun S3 f3 => ?_)
    refine g_goto (tgt := 77) hc dX3_setRegister_53 rfl ?_
    exact g_vret hc dX3_setRegister_77
  refine g_tsw (tgt := 56) hc 1 dX3_setRegister_1 ⟨by decide, by decide, rfl⟩ rfl (fun c_1_1 => ?_) (fun c_1_1 => ?_)
  · refine g_aload_n (i := 0) hc 0 dX3_setRegister_56 rfl rfl ?_
    refine g_iload_n (i := 2) hc 2 dX3_setRegister_57 rfl rfl ?_
    refine pf_C_1_firstChr_false (v := a1) hc wtC_10 dX3_setRegister_58 (fun S4 f4 => ?_)
    refine g_goto (tgt := 77) hc dX3_setRegister_61 rfl ?_
    exact g_vret hc dX3_setRegister_77
  refine g_tsw (tgt := 64) hc 2 dX3_setRegister_1 ⟨by decide, by decide, rfl⟩ rfl (fun c_1_2 => ?_) (fun c_1_2 => ?_)
  · refine g_aload_n (i := 0) hc 0 dX3_setRegister_64 rfl rfl ?_
    refine g_iload_n (i := 2) hc 2 dX3_setRegister_65 rfl rfl ?_
    refine pf_C_1_secondChr_false (v := a1) hc wtC_11 dX3_setRegister_66 (fun S5 f5 => ?_)
    refine g_goto (tgt := 77) hc dX3_setRegister_69 rfl ?_
    exact g_vret hc dX3_setRegister_77
  refine g_tswd (tgt := 72) hc dX3_setRegister_1 (by have := lv_neT c_1_0 (a := 0) (by decide); have := lv_neT c_1_1 (a := 1) (by decide); have := lv_neT c_1_2 (a := 2) (by decide); omega) rfl ?_
  refine g_aload_n (i := 0) hc 0 dX3_setRegister_72 rfl rfl ?_
  refine g_iload_n (i := 2) hc 2 dX3_setRegister_73 rfl rfl ?_
  refine pf_C_1_prgBank_false (v := a1) hc wtC_12 dX3_setRegister_74 (fun S6 f6 => ?_)
  exact g_vret hc dX3_setRegister_77

abbrev rm_X3_mapRom : Room := { frames := 1, cells := 0, slots := 0, locals := 24 }
def sp_X3_mapRom  (S : gSt) : Unit × gSt := (if (S.1 4) = 2 then gB (sp_X1_setRomBanks false 0 1 (2 * ((S.1 5) &&& 3)) ((2 * ((S.1 5) &&& 3)) + 1) S) (fun (_ : Unit) S1 => ((), S1)) else (if (S.1 4) = 3 then gB (sp_X1_setRomBanks false (2 * ((S.1 5) &&& 3)) ((2 * ((S.1 5) &&& 3)) + 1) 6 7 S) (fun (_ : Unit) S2 => ((), S2)) else gB (sp_X1_setRomBanks false (4 * (((S.1 5) >>> ((1 : Int32) &&& (31 : Int32))) &&& 1)) ((4 * (((S.1 5) >>> ((1 : Int32) &&& (31 : Int32))) &&& 1)) + 1) ((4 * (((S.1 5) >>> ((1 : Int32) &&& (31 : Int32))) &&& 1)) + 2) ((4 * (((S.1 5) >>> ((1 : Int32) &&& (31 : Int32))) &&& 1)) + 3) S) (fun (_ : Unit) S3 => ((), S3))))
set_option maxRecDepth 100000 in
set_option maxHeartbeats 4000000 in
theorem c_X3_mapRom (l : Launch) (η : gE)  (S : gSt) : gMet l yX3_mapRom cX3_mapRom 3 none rm_X3_mapRom (oC false η) [.ref (η.1 1)] S (oV (sp_X3_mapRom S).1) (sp_X3_mapRom S).2 := by
  refine gMet_of (X := sp_X3_mapRom S) (lv := [(0, .ref (η.1 1))]) oV (zC_ok η) (by decide +kernel) (Nat.le_of_ble_eq_true rfl) rfl (fun κ hc => ?_)
  have hc : gC (oC false η) κ cX3_mapRom 3 RX3 none rm_X3_mapRom := hc
  unfold sp_X3_mapRom
  refine g_iconst (v := 2) hc dX3_mapRom_0 (by decide) ?_
  refine g_aload_n (i := 0) hc 0 dX3_mapRom_1 rfl rfl ?_
  refine gf_C_1_prgBank_false hc wtC_12 dX3_mapRom_2 ?_
  refine g_iconst (v := 3) hc dX3_mapRom_5 (by decide) ?_
  refine g_iand hc dX3_mapRom_6 ?_
  refine g_imul hc dX3_mapRom_7 ?_
  refine g_istore_n (i := 1) (lv' := [(1, .int (2 * ((S.1 5) &&& 3))), (0, .ref (η.1 1))]) hc dX3_mapRom_8 rfl (by decide) rfl ?_
  refine g_aload_n (i := 0) hc 1 dX3_mapRom_9 rfl rfl ?_
  refine gf_C_1_prgMode_false hc wtC_8 dX3_mapRom_10 ?_
  refine g_iconst (v := 2) hc dX3_mapRom_13 (by decide) ?_
  refine g_icmpne (tgt := 30) hc dX3_mapRom_14 rfl (fun c_14 => ?_) (fun c_14 => ?_)
  · refine g_aload_n (i := 0) hc 1 dX3_mapRom_17 rfl rfl ?_
    refine g_iconst (v := 0) hc dX3_mapRom_18 (by decide) ?_
    refine g_iconst (v := 1) hc dX3_mapRom_19 (by decide) ?_
    refine g_iload_n (i := 1) hc 0 dX3_mapRom_20 rfl rfl ?_
    refine g_iload_n (i := 1) hc 0 dX3_mapRom_21 rfl rfl ?_
    refine g_iconst (v := 1) hc dX3_mapRom_22 (by decide) ?_
    refine g_iadd hc dX3_mapRom_23 ?_
    refine g_callWV (C := RX3) (x := ⟨"GameConsole$Mmc1", "setRomBanks", "(IIII)V"⟩) (owner := "GameConsole$Cartridge") hc 1 [.int 0, .int 1, .int (2 * ((S.1 5) &&& 3)), .int ((2 * ((S.1 5) &&& 3)) + 1)] (fun l => c_X1_setRomBanks l false η 0 1 (2 * ((S.1 5) &&& 3)) ((2 * ((S.1 5) &&& 3)) + 1) S) wtC_16 wtC_17 wtC_18 gu_X1_setRomBanks rfl ⟨rfl, rfl⟩ rfl ⟨Nat.le_of_ble_eq_true rfl, Nat.le_of_ble_eq_true rfl⟩ rfl rfl rfl (Nat.le_of_ble_eq_true rfl) dX3_mapRom_24 (fun r1 S1 e1 f1 => ?_)
    refine g_goto (tgt := 78) hc dX3_mapRom_27 rfl ?_
    exact g_vret hc dX3_mapRom_78
  · refine g_aload_n (i := 0) hc 1 dX3_mapRom_30 rfl rfl ?_
    refine gf_C_1_prgMode_false hc wtC_8 dX3_mapRom_31 ?_
    refine g_iconst (v := 3) hc dX3_mapRom_34 (by decide) ?_
    refine g_icmpne (tgt := 53) hc dX3_mapRom_35 rfl (fun c_35 => ?_) (fun c_35 => ?_)
    · refine g_aload_n (i := 0) hc 1 dX3_mapRom_38 rfl rfl ?_
      refine g_iload_n (i := 1) hc 0 dX3_mapRom_39 rfl rfl ?_
      refine g_iload_n (i := 1) hc 0 dX3_mapRom_40 rfl rfl ?_
      refine g_iconst (v := 1) hc dX3_mapRom_41 (by decide) ?_
      refine g_iadd hc dX3_mapRom_42 ?_
      refine g_bipush (v := 6) hc dX3_mapRom_43 (by decide) ?_
      refine g_bipush (v := 7) hc dX3_mapRom_45 (by decide) ?_
      refine g_callWV (C := RX3) (x := ⟨"GameConsole$Mmc1", "setRomBanks", "(IIII)V"⟩) (owner := "GameConsole$Cartridge") hc 1 [.int (2 * ((S.1 5) &&& 3)), .int ((2 * ((S.1 5) &&& 3)) + 1), .int 6, .int 7] (fun l => c_X1_setRomBanks l false η (2 * ((S.1 5) &&& 3)) ((2 * ((S.1 5) &&& 3)) + 1) 6 7 S) wtC_16 wtC_17 wtC_18 gu_X1_setRomBanks rfl ⟨rfl, rfl⟩ rfl ⟨Nat.le_of_ble_eq_true rfl, Nat.le_of_ble_eq_true rfl⟩ rfl rfl rfl (Nat.le_of_ble_eq_true rfl) dX3_mapRom_47 (fun r2 S2 e2 f2 => ?_)
      refine g_goto (tgt := 78) hc dX3_mapRom_50 rfl ?_
      exact g_vret hc dX3_mapRom_78
    · refine g_iconst (v := 4) hc dX3_mapRom_53 (by decide) ?_
      refine g_aload_n (i := 0) hc 1 dX3_mapRom_54 rfl rfl ?_
      refine gf_C_1_prgBank_false hc wtC_12 dX3_mapRom_55 ?_
      refine g_iconst (v := 1) hc dX3_mapRom_58 (by decide) ?_
      refine g_ishr hc dX3_mapRom_59 ?_
      refine g_iconst (v := 1) hc dX3_mapRom_60 (by decide) ?_
      refine g_iand hc dX3_mapRom_61 ?_
      refine g_imul hc dX3_mapRom_62 ?_
      refine g_istore_n (i := 2) (lv' := [(2, .int (4 * (((S.1 5) >>> ((1 : Int32) &&& (31 : Int32))) &&& 1))), (1, .int (2 * ((S.1 5) &&& 3))), (0, .ref (η.1 1))]) hc dX3_mapRom_63 rfl (by decide) rfl ?_
      refine g_aload_n (i := 0) hc 2 dX3_mapRom_64 rfl rfl ?_
      refine g_iload_n (i := 2) hc 0 dX3_mapRom_65 rfl rfl ?_
      refine g_iload_n (i := 2) hc 0 dX3_mapRom_66 rfl rfl ?_
      refine g_iconst (v := 1) hc dX3_mapRom_67 (by decide) ?_
      refine g_iadd hc dX3_mapRom_68 ?_
      refine g_iload_n (i := 2) hc 0 dX3_mapRom_69 rfl rfl ?_
      refine g_iconst (v := 2) hc dX3_mapRom_70 (by decide) ?_
      refine g_iadd hc dX3_mapRom_71 ?_
      refine g_iload_n (i := 2) hc 0 dX3_mapRom_72 rfl rfl ?_
      refine g_iconst (v := 3) hc dX3_mapRom_73 (by decide) ?_
      refine g_iadd hc dX3_mapRom_74 ?_
      refine g_callWV (C := RX3) (x := ⟨"GameConsole$Mmc1", "setRomBanks", "(IIII)V"⟩) (owner := "GameConsole$Cartridge") hc 1 [.int (4 * (((S.1 5) >>> ((1 : Int32) &&& (31 : Int32))) &&& 1)), .int ((4 * (((S.1 5) >>> ((1 : Int32) &&& (31 : Int32))) &&& 1)) + 1), .int ((4 * (((S.1 5) >>> ((1 : Int32) &&& (31 : Int32))) &&& 1)) + 2), .int ((4 * (((S.1 5) >>> ((1 : Int32) &&& (31 : Int32))) &&& 1)) + 3)] (fun l => c_X1_setRomBanks l false η (4 * (((S.1 5) >>> ((1 : Int32) &&& (31 : Int32))) &&& 1)) ((4 * (((S.1 5) >>> ((1 : Int32) &&& (31 : Int32))) &&& 1)) + 1) ((4 * (((S.1 5) >>> ((1 : Int32) &&& (31 : Int32))) &&& 1)) + 2) ((4 * (((S.1 5) >>> ((1 : Int32) &&& (31 : Int32))) &&& 1)) + 3) S) wtC_16 wtC_17 wtC_18 gu_X1_setRomBanks rfl ⟨rfl, rfl⟩ rfl ⟨Nat.le_of_ble_eq_true rfl, Nat.le_of_ble_eq_true rfl⟩ rfl rfl rfl (Nat.le_of_ble_eq_true rfl) dX3_mapRom_75 (fun r3 S3 e3 f3 => ?_)
      exact g_vret hc dX3_mapRom_78

abbrev rm_X3_mapChr : Room := { frames := 1, cells := 0, slots := 0, locals := 25 }
def sp_X3_mapChr  (S : gSt) : Unit × gSt := (if (S.1 6) = 0 then (if (S.1 6) = 0 then gB (sp_X1_setFourChrBanks false 0 0 (0 + 1) (0 + 2) (0 + 3) S) (fun (_ : Unit) S1 => gB (sp_X1_setFourChrBanks false 4 4 (4 + 1) (4 + 2) (4 + 3) S1) (fun (_ : Unit) S2 => ((), S2))) else gB (sp_X1_setFourChrBanks false 0 0 (0 + 1) (0 + 2) (0 + 3) S) (fun (_ : Unit) S3 => gB (sp_X1_setFourChrBanks false 4 (4 * ((S.1 8) &&& 1)) ((4 * ((S.1 8) &&& 1)) + 1) ((4 * ((S.1 8) &&& 1)) + 2) ((4 * ((S.1 8) &&& 1)) + 3) S3) (fun (_ : Unit) S4 => ((), S4)))) else (if (S.1 6) = 0 then gB (sp_X1_setFourChrBanks false 0 (4 * ((S.1 7) &&& 1)) ((4 * ((S.1 7) &&& 1)) + 1) ((4 * ((S.1 7) &&& 1)) + 2) ((4 * ((S.1 7) &&& 1)) + 3) S) (fun (_ : Unit) S5 => gB (sp_X1_setFourChrBanks false 4 4 (4 + 1) (4 + 2) (4 + 3) S5) (fun (_ : Unit) S6 => ((), S6))) else gB (sp_X1_setFourChrBanks false 0 (4 * ((S.1 7) &&& 1)) ((4 * ((S.1 7) &&& 1)) + 1) ((4 * ((S.1 7) &&& 1)) + 2) ((4 * ((S.1 7) &&& 1)) + 3) S) (fun (_ : Unit) S7 => gB (sp_X1_setFourChrBanks false 4 (4 * ((S.1 8) &&& 1)) ((4 * ((S.1 8) &&& 1)) + 1) ((4 * ((S.1 8) &&& 1)) + 2) ((4 * ((S.1 8) &&& 1)) + 3) S7) (fun (_ : Unit) S8 => ((), S8)))))
set_option maxRecDepth 100000 in
set_option maxHeartbeats 4000000 in
theorem c_X3_mapChr (l : Launch) (η : gE)  (S : gSt) : gMet l yX3_mapChr cX3_mapChr 3 none rm_X3_mapChr (oC false η) [.ref (η.1 1)] S (oV (sp_X3_mapChr S).1) (sp_X3_mapChr S).2 := by
  refine gMet_of (X := sp_X3_mapChr S) (lv := [(0, .ref (η.1 1))]) oV (zC_ok η) (by decide +kernel) (Nat.le_of_ble_eq_true rfl) rfl (fun κ hc => ?_)
  have hc : gC (oC false η) κ cX3_mapChr 3 RX3 none rm_X3_mapChr := hc
  unfold sp_X3_mapChr
  refine g_aload_n (i := 0) hc 0 dX3_mapChr_0 rfl rfl ?_
  refine gf_C_1_chrMode_false hc wtC_9 dX3_mapChr_1 ?_
  refine g_ifne (tgt := 11) hc dX3_mapChr_4 rfl (fun c_4 => ?_) (fun c_4 => ?_)
  · refine g_iconst (v := 0) hc dX3_mapChr_7 (by decide) ?_
    refine g_goto (tgt := 19) hc dX3_mapChr_8 rfl ?_
    refine g_istore_n (i := 1) (lv' := [(1, .int 0), (0, .ref (η.1 1))]) hc dX3_mapChr_19 rfl (by decide) rfl ?_
    refine g_aload_n (i := 0) hc 1 dX3_mapChr_20 rfl rfl ?_
    refine gf_C_1_chrMode_false hc wtC_9 dX3_mapChr_21 ?_
    refine g_ifne (tgt := 31) hc dX3_mapChr_24 rfl (fun c_24 => ?_) (fun c_24 => ?_)
    · refine g_iconst (v := 4) hc dX3_mapChr_27 (by decide) ?_
      refine g_goto (tgt := 39) hc dX3_mapChr_28 rfl ?_
      refine g_istore_n (i := 2) (lv' := [(2, .int 4), (1, .int 0), (0, .ref (η.1 1))]) hc dX3_mapChr_39 rfl (by decide) rfl ?_
      refine g_aload_n (i := 0) hc 2 dX3_mapChr_40 rfl rfl ?_
      refine g_iconst (v := 0) hc dX3_mapChr_41 (by decide) ?_
      refine g_iload_n (i := 1) hc 1 dX3_mapChr_42 rfl rfl ?_
      refine g_iload_n (i := 1) hc 1 dX3_mapChr_43 rfl rfl ?_
      refine g_iconst (v := 1) hc dX3_mapChr_44 (by decide) ?_
      refine g_iadd hc dX3_mapChr_45 ?_
      refine g_iload_n (i := 1) hc 1 dX3_mapChr_46 rfl rfl ?_
      refine g_iconst (v := 2) hc dX3_mapChr_47 (by decide) ?_
      refine g_iadd hc dX3_mapChr_48 ?_
      refine g_iload_n (i := 1) hc 1 dX3_mapChr_49 rfl rfl ?_
      refine g_iconst (v := 3) hc dX3_mapChr_50 (by decide) ?_
      refine g_iadd hc dX3_mapChr_51 ?_
      refine g_callWV (C := RX3) (x := ⟨"GameConsole$Mmc1", "setFourChrBanks", "(IIIII)V"⟩) (owner := "GameConsole$Cartridge") hc 1 [.int 0, .int 0, .int (0 + 1), .int (0 + 2), .int (0 + 3)] (fun l => c_X1_setFourChrBanks l false η 0 0 (0 + 1) (0 + 2) (0 + 3) S) wtC_21 wtC_22 wtC_23 gu_X1_setFourChrBanks rfl ⟨rfl, rfl⟩ rfl ⟨Nat.le_of_ble_eq_true rfl, Nat.le_of_ble_eq_true rfl⟩ rfl rfl rfl (Nat.le_of_ble_eq_true rfl) dX3_mapChr_52 (fun r1 S1 e1 f1 => ?_)
      refine g_aload_n (i := 0) hc 2 dX3_mapChr_55 rfl rfl ?_
      refine g_iconst (v := 4) hc dX3_mapChr_56 (by decide) ?_
      refine g_iload_n (i := 2) hc 0 dX3_mapChr_57 rfl rfl ?_
      refine g_iload_n (i := 2) hc 0 dX3_mapChr_58 rfl rfl ?_
      refine g_iconst (v := 1) hc dX3_mapChr_59 (by decide) ?_
      refine g_iadd hc dX3_mapChr_60 ?_
      refine g_iload_n (i := 2) hc 0 dX3_mapChr_61 rfl rfl ?_
      refine g_iconst (v := 2) hc dX3_mapChr_62 (by decide) ?_
      refine g_iadd hc dX3_mapChr_63 ?_
      refine g_iload_n (i := 2) hc 0 dX3_mapChr_64 rfl rfl ?_
      refine g_iconst (v := 3) hc dX3_mapChr_65 (by decide) ?_
      refine g_iadd hc dX3_mapChr_66 ?_
      refine g_callWV (C := RX3) (x := ⟨"GameConsole$Mmc1", "setFourChrBanks", "(IIIII)V"⟩) (owner := "GameConsole$Cartridge") hc 1 [.int 4, .int 4, .int (4 + 1), .int (4 + 2), .int (4 + 3)] (fun l => c_X1_setFourChrBanks l false η 4 4 (4 + 1) (4 + 2) (4 + 3) S1) wtC_21 wtC_22 wtC_23 gu_X1_setFourChrBanks rfl ⟨rfl, rfl⟩ rfl ⟨Nat.le_of_ble_eq_true rfl, Nat.le_of_ble_eq_true rfl⟩ rfl rfl rfl (Nat.le_of_ble_eq_true rfl) dX3_mapChr_67 (fun r2 S2 e2 f2 => ?_)
      exact g_vret hc dX3_mapChr_70
    · refine g_iconst (v := 4) hc dX3_mapChr_31 (by decide) ?_
      refine g_aload_n (i := 0) hc 1 dX3_mapChr_32 rfl rfl ?_
      refine gf_C_1_secondChr_false hc wtC_11 dX3_mapChr_33 ?_
      refine g_iconst (v := 1) hc dX3_mapChr_36 (by decide) ?_
      refine g_iand hc dX3_mapChr_37 ?_
      refine g_imul hc dX3_mapChr_38 ?_
      refine g_istore_n (i := 2) (lv' := [(2, .int (4 * ((S.1 8) &&& 1))), (1, .int 0), (0, .ref (η.1 1))]) hc dX3_mapChr_39 rfl (by decide) rfl ?_
      refine g_aload_n (i := 0) hc 2 dX3_mapChr_40 rfl rfl ?_
      refine g_iconst (v := 0) hc dX3_mapChr_41 (by decide) ?_
      refine g_iload_n (i := 1) hc 1 dX3_mapChr_42 rfl rfl ?_
      refine g_iload_n (i := 1) hc 1 dX3_mapChr_43 rfl rfl ?_
      refine g_iconst (v := 1) hc dX3_mapChr_44 (by decide) ?_
      refine g_iadd hc dX3_mapChr_45 ?_
      refine g_iload_n (i := 1) hc 1 dX3_mapChr_46 rfl rfl ?_
      refine g_iconst (v := 2) hc dX3_mapChr_47 (by decide) ?_
      refine g_iadd hc dX3_mapChr_48 ?_
      refine g_iload_n (i := 1) hc 1 dX3_mapChr_49 rfl rfl ?_
      refine g_iconst (v := 3) hc dX3_mapChr_50 (by decide) ?_
      refine g_iadd hc dX3_mapChr_51 ?_
      refine g_callWV (C := RX3) (x := ⟨"GameConsole$Mmc1", "setFourChrBanks", "(IIIII)V"⟩) (owner := "GameConsole$Cartridge") hc 1 [.int 0, .int 0, .int (0 + 1), .int (0 + 2), .int (0 + 3)] (fun l => c_X1_setFourChrBanks l false η 0 0 (0 + 1) (0 + 2) (0 + 3) S) wtC_21 wtC_22 wtC_23 gu_X1_setFourChrBanks rfl ⟨rfl, rfl⟩ rfl ⟨Nat.le_of_ble_eq_true rfl, Nat.le_of_ble_eq_true rfl⟩ rfl rfl rfl (Nat.le_of_ble_eq_true rfl) dX3_mapChr_52 (fun r3 S3 e3 f3 => ?_)
      refine g_aload_n (i := 0) hc 2 dX3_mapChr_55 rfl rfl ?_
      refine g_iconst (v := 4) hc dX3_mapChr_56 (by decide) ?_
      refine g_iload_n (i := 2) hc 0 dX3_mapChr_57 rfl rfl ?_
      refine g_iload_n (i := 2) hc 0 dX3_mapChr_58 rfl rfl ?_
      refine g_iconst (v := 1) hc dX3_mapChr_59 (by decide) ?_
      refine g_iadd hc dX3_mapChr_60 ?_
      refine g_iload_n (i := 2) hc 0 dX3_mapChr_61 rfl rfl ?_
      refine g_iconst (v := 2) hc dX3_mapChr_62 (by decide) ?_
      refine g_iadd hc dX3_mapChr_63 ?_
      refine g_iload_n (i := 2) hc 0 dX3_mapChr_64 rfl rfl ?_
      refine g_iconst (v := 3) hc dX3_mapChr_65 (by decide) ?_
      refine g_iadd hc dX3_mapChr_66 ?_
      refine g_callWV (C := RX3) (x := ⟨"GameConsole$Mmc1", "setFourChrBanks", "(IIIII)V"⟩) (owner := "GameConsole$Cartridge") hc 1 [.int 4, .int (4 * ((S.1 8) &&& 1)), .int ((4 * ((S.1 8) &&& 1)) + 1), .int ((4 * ((S.1 8) &&& 1)) + 2), .int ((4 * ((S.1 8) &&& 1)) + 3)] (fun l => c_X1_setFourChrBanks l false η 4 (4 * ((S.1 8) &&& 1)) ((4 * ((S.1 8) &&& 1)) + 1) ((4 * ((S.1 8) &&& 1)) + 2) ((4 * ((S.1 8) &&& 1)) + 3) S3) wtC_21 wtC_22 wtC_23 gu_X1_setFourChrBanks rfl ⟨rfl, rfl⟩ rfl ⟨Nat.le_of_ble_eq_true rfl, Nat.le_of_ble_eq_true rfl⟩ rfl rfl rfl (Nat.le_of_ble_eq_true rfl) dX3_mapChr_67 (fun r4 S4 e4 f4 => ?_)
      exact g_vret hc dX3_mapChr_70
  · refine g_iconst (v := 4) hc dX3_mapChr_11 (by decide) ?_
    refine g_aload_n (i := 0) hc 0 dX3_mapChr_12 rfl rfl ?_
    refine gf_C_1_firstChr_false hc wtC_10 dX3_mapChr_13 ?_
    refine g_iconst (v := 1) hc dX3_mapChr_16 (by decide) ?_
    refine g_iand hc dX3_mapChr_17 ?_
    refine g_imul hc dX3_mapChr_18 ?_
    refine g_istore_n (i := 1) (lv' := [(1, .int (4 * ((S.1 7) &&& 1))), (0, .ref (η.1 1))]) hc dX3_mapChr_19 rfl (by decide) rfl ?_
    refine g_aload_n (i := 0) hc 1 dX3_mapChr_20 rfl rfl ?_
    refine gf_C_1_chrMode_false hc wtC_9 dX3_mapChr_21 ?_
    refine g_ifne (tgt := 31) hc dX3_mapChr_24 rfl (fun c_24 => ?_) (fun c_24 => ?_)
    · refine g_iconst (v := 4) hc dX3_mapChr_27 (by decide) ?_
      refine g_goto (tgt := 39) hc dX3_mapChr_28 rfl ?_
      refine g_istore_n (i := 2) (lv' := [(2, .int 4), (1, .int (4 * ((S.1 7) &&& 1))), (0, .ref (η.1 1))]) hc dX3_mapChr_39 rfl (by decide) rfl ?_
      refine g_aload_n (i := 0) hc 2 dX3_mapChr_40 rfl rfl ?_
      refine g_iconst (v := 0) hc dX3_mapChr_41 (by decide) ?_
      refine g_iload_n (i := 1) hc 1 dX3_mapChr_42 rfl rfl ?_
      refine g_iload_n (i := 1) hc 1 dX3_mapChr_43 rfl rfl ?_
      refine g_iconst (v := 1) hc dX3_mapChr_44 (by decide) ?_
      refine g_iadd hc dX3_mapChr_45 ?_
      refine g_iload_n (i := 1) hc 1 dX3_mapChr_46 rfl rfl ?_
      refine g_iconst (v := 2) hc dX3_mapChr_47 (by decide) ?_
      refine g_iadd hc dX3_mapChr_48 ?_
      refine g_iload_n (i := 1) hc 1 dX3_mapChr_49 rfl rfl ?_
      refine g_iconst (v := 3) hc dX3_mapChr_50 (by decide) ?_
      refine g_iadd hc dX3_mapChr_51 ?_
      refine g_callWV (C := RX3) (x := ⟨"GameConsole$Mmc1", "setFourChrBanks", "(IIIII)V"⟩) (owner := "GameConsole$Cartridge") hc 1 [.int 0, .int (4 * ((S.1 7) &&& 1)), .int ((4 * ((S.1 7) &&& 1)) + 1), .int ((4 * ((S.1 7) &&& 1)) + 2), .int ((4 * ((S.1 7) &&& 1)) + 3)] (fun l => c_X1_setFourChrBanks l false η 0 (4 * ((S.1 7) &&& 1)) ((4 * ((S.1 7) &&& 1)) + 1) ((4 * ((S.1 7) &&& 1)) + 2) ((4 * ((S.1 7) &&& 1)) + 3) S) wtC_21 wtC_22 wtC_23 gu_X1_setFourChrBanks rfl ⟨rfl, rfl⟩ rfl ⟨Nat.le_of_ble_eq_true rfl, Nat.le_of_ble_eq_true rfl⟩ rfl rfl rfl (Nat.le_of_ble_eq_true rfl) dX3_mapChr_52 (fun r5 S5 e5 f5 => ?_)
      refine g_aload_n (i := 0) hc 2 dX3_mapChr_55 rfl rfl ?_
      refine g_iconst (v := 4) hc dX3_mapChr_56 (by decide) ?_
      refine g_iload_n (i := 2) hc 0 dX3_mapChr_57 rfl rfl ?_
      refine g_iload_n (i := 2) hc 0 dX3_mapChr_58 rfl rfl ?_
      refine g_iconst (v := 1) hc dX3_mapChr_59 (by decide) ?_
      refine g_iadd hc dX3_mapChr_60 ?_
      refine g_iload_n (i := 2) hc 0 dX3_mapChr_61 rfl rfl ?_
      refine g_iconst (v := 2) hc dX3_mapChr_62 (by decide) ?_
      refine g_iadd hc dX3_mapChr_63 ?_
      refine g_iload_n (i := 2) hc 0 dX3_mapChr_64 rfl rfl ?_
      refine g_iconst (v := 3) hc dX3_mapChr_65 (by decide) ?_
      refine g_iadd hc dX3_mapChr_66 ?_
      refine g_callWV (C := RX3) (x := ⟨"GameConsole$Mmc1", "setFourChrBanks", "(IIIII)V"⟩) (owner := "GameConsole$Cartridge") hc 1 [.int 4, .int 4, .int (4 + 1), .int (4 + 2), .int (4 + 3)] (fun l => c_X1_setFourChrBanks l false η 4 4 (4 + 1) (4 + 2) (4 + 3) S5) wtC_21 wtC_22 wtC_23 gu_X1_setFourChrBanks rfl ⟨rfl, rfl⟩ rfl ⟨Nat.le_of_ble_eq_true rfl, Nat.le_of_ble_eq_true rfl⟩ rfl rfl rfl (Nat.le_of_ble_eq_true rfl) dX3_mapChr_67 (fun r6 S6 e6 f6 => ?_)
      exact g_vret hc dX3_mapChr_70
    · refine g_iconst (v := 4) hc dX3_mapChr_31 (by decide) ?_
      refine g_aload_n (i := 0) hc 1 dX3_mapChr_32 rfl rfl ?_
      refine gf_C_1_secondChr_false hc wtC_11 dX3_mapChr_33 ?_
      refine g_iconst (v := 1) hc dX3_mapChr_36 (by decide) ?_
      refine g_iand hc dX3_mapChr_37 ?_
      refine g_imul hc dX3_mapChr_38 ?_
      refine g_istore_n (i := 2) (lv' := [(2, .int (4 * ((S.1 8) &&& 1))), (1, .int (4 * ((S.1 7) &&& 1))), (0, .ref (η.1 1))]) hc dX3_mapChr_39 rfl (by decide) rfl ?_
      refine g_aload_n (i := 0) hc 2 dX3_mapChr_40 rfl rfl ?_
      refine g_iconst (v := 0) hc dX3_mapChr_41 (by decide) ?_
      refine g_iload_n (i := 1) hc 1 dX3_mapChr_42 rfl rfl ?_
      refine g_iload_n (i := 1) hc 1 dX3_mapChr_43 rfl rfl ?_
      refine g_iconst (v := 1) hc dX3_mapChr_44 (by decide) ?_
      refine g_iadd hc dX3_mapChr_45 ?_
      refine g_iload_n (i := 1) hc 1 dX3_mapChr_46 rfl rfl ?_
      refine g_iconst (v := 2) hc dX3_mapChr_47 (by decide) ?_
      refine g_iadd hc dX3_mapChr_48 ?_
      refine g_iload_n (i := 1) hc 1 dX3_mapChr_49 rfl rfl ?_
      refine g_iconst (v := 3) hc dX3_mapChr_50 (by decide) ?_
      refine g_iadd hc dX3_mapChr_51 ?_
      refine g_callWV (C := RX3) (x := ⟨"GameConsole$Mmc1", "setFourChrBanks", "(IIIII)V"⟩) (owner := "GameConsole$Cartridge") hc 1 [.int 0, .int (4 * ((S.1 7) &&& 1)), .int ((4 * ((S.1 7) &&& 1)) + 1), .int ((4 * ((S.1 7) &&& 1)) + 2), .int ((4 * ((S.1 7) &&& 1)) + 3)] (fun l => c_X1_setFourChrBanks l false η 0 (4 * ((S.1 7) &&& 1)) ((4 * ((S.1 7) &&& 1)) + 1) ((4 * ((S.1 7) &&& 1)) + 2) ((4 * ((S.1 7) &&& 1)) + 3) S) wtC_21 wtC_22 wtC_23 gu_X1_setFourChrBanks rfl ⟨rfl, rfl⟩ rfl ⟨Nat.le_of_ble_eq_true rfl, Nat.le_of_ble_eq_true rfl⟩ rfl rfl rfl (Nat.le_of_ble_eq_true rfl) dX3_mapChr_52 (fun r7 S7 e7 f7 => ?_)
      refine g_aload_n (i := 0) hc 2 dX3_mapChr_55 rfl rfl ?_
      refine g_iconst (v := 4) hc dX3_mapChr_56 (by decide) ?_
      refine g_iload_n (i := 2) hc 0 dX3_mapChr_57 rfl rfl ?_
      refine g_iload_n (i := 2) hc 0 dX3_mapChr_58 rfl rfl ?_
      refine g_iconst (v := 1) hc dX3_mapChr_59 (by decide) ?_
      refine g_iadd hc dX3_mapChr_60 ?_
      refine g_iload_n (i := 2) hc 0 dX3_mapChr_61 rfl rfl ?_
      refine g_iconst (v := 2) hc dX3_mapChr_62 (by decide) ?_
      refine g_iadd hc dX3_mapChr_63 ?_
      refine g_iload_n (i := 2) hc 0 dX3_mapChr_64 rfl rfl ?_
      refine g_iconst (v := 3) hc dX3_mapChr_65 (by decide) ?_
      refine g_iadd hc dX3_mapChr_66 ?_
      refine g_callWV (C := RX3) (x := ⟨"GameConsole$Mmc1", "setFourChrBanks", "(IIIII)V"⟩) (owner := "GameConsole$Cartridge") hc 1 [.int 4, .int (4 * ((S.1 8) &&& 1)), .int ((4 * ((S.1 8) &&& 1)) + 1), .int ((4 * ((S.1 8) &&& 1)) + 2), .int ((4 * ((S.1 8) &&& 1)) + 3)] (fun l => c_X1_setFourChrBanks l false η 4 (4 * ((S.1 8) &&& 1)) ((4 * ((S.1 8) &&& 1)) + 1) ((4 * ((S.1 8) &&& 1)) + 2) ((4 * ((S.1 8) &&& 1)) + 3) S7) wtC_21 wtC_22 wtC_23 gu_X1_setFourChrBanks rfl ⟨rfl, rfl⟩ rfl ⟨Nat.le_of_ble_eq_true rfl, Nat.le_of_ble_eq_true rfl⟩ rfl rfl rfl (Nat.le_of_ble_eq_true rfl) dX3_mapChr_67 (fun r8 S8 e8 f8 => ?_)
      exact g_vret hc dX3_mapChr_70

abbrev rm_X3_storeRegister : Room := { frames := 2, cells := 0, slots := 0, locals := 47 }
def sp_X3_storeRegister (a0 : Int32) (a1 : Int32) (S : gSt) : Unit × gSt := (if (a1 &&& 128) = 0 then gL (sI S 2 ((S.1 2) ||| ((a1 &&& 1) <<< ((S.1 3) &&& (31 : Int32))))) (fun S1 => gL (sI S1 3 ((S1.1 3) + 1)) (fun S2 => (if (S2.1 3) = 5 then gB (sp_X3_setRegister ((a0 >>> ((13 : Int32) &&& (31 : Int32))) &&& 3) (S2.1 2) S2) (fun (_ : Unit) S3 => gB (sp_X3_forgetShifted S3) (fun (_ : Unit) S4 => gB (sp_X3_mapRom S4) (fun (_ : Unit) S5 => gB (sp_X3_mapChr S5) (fun (_ : Unit) S6 => ((), S6))))) else gB (sp_X3_mapRom S2) (fun (_ : Unit) S7 => gB (sp_X3_mapChr S7) (fun (_ : Unit) S8 => ((), S8)))))) else gB (sp_X3_forgetShifted S) (fun (_ : Unit) S9 => gL (sI S9 4 3) (fun S10 => gB (sp_X3_mapRom S10) (fun (_ : Unit) S11 => gB (sp_X3_mapChr S11) (fun (_ : Unit) S12 => ((), S12))))))
set_option maxRecDepth 100000 in
set_option maxHeartbeats 4000000 in
theorem c_X3_storeRegister (l : Launch) (η : gE) (a0 : Int32) (a1 : Int32) (S : gSt) : gMet l yX3_storeRegister cX3_storeRegister 3 none rm_X3_storeRegister (oC false η) [.ref (η.1 1), .int a0, .int a1] S (oV (sp_X3_storeRegister a0 a1 S).1) (sp_X3_storeRegister a0 a1 S).2 := by
  refine gMet_of (X := sp_X3_storeRegister a0 a1 S) (lv := [(0, .ref (η.1 1)), (1, .int a0), (2, .int a1)]) oV (zC_ok η) (by decide +kernel) (Nat.le_of_ble_eq_true rfl) rfl (fun κ hc => ?_)
  have hc : gC (oC false η) κ cX3_storeRegister 3 RX3 none rm_X3_storeRegister := hc
  unfold sp_X3_storeRegister
  refine g_iload_n (i := 2) hc 2 dX3_storeRegister_0 rfl rfl ?_
  refine g_sipush (v := 128) hc dX3_storeRegister_1 (by decide) ?_
  refine g_iand hc dX3_storeRegister_4 ?_
  refine g_ifeq (tgt := 20) hc dX3_storeRegister_5 rfl (fun c_5 => ?_) (fun c_5 => ?_)
  · refine g_aload_n (i := 0) hc 0 dX3_storeRegister_20 rfl rfl ?_
    refine g_dup hc dX3_storeRegister_21 rfl ?_
    refine gf_C_1_shifted_false hc wtC_4 dX3_storeRegister_22 ?_
    refine g_iload_n (i := 2) hc 2 dX3_storeRegister_25 rfl rfl ?_
    refine g_iconst (v := 1) hc dX3_storeRegister_26 (by decide) ?_
    refine g_iand hc dX3_storeRegister_27 ?_
    refine g_aload_n (i := 0) hc 0 dX3_storeRegister_28 rfl rfl ?_
    refine gf_C_1_count_false hc wtC_5 dX3_storeRegister_29 ?_
    refine g_ishl hc dX3_storeRegister_32 ?_
    refine g_ior hc dX3_storeRegister_33 ?_
    refine pf_C_1_shifted_false (v := ((S.1 2) ||| ((a1 &&& 1) <<< ((S.1 3) &&& (31 : Int32))))) hc wtC_4 dX3_storeRegister_34 (fun S1 f1 => ?_)
    refine g_aload_n (i := 0) hc 0 dX3_storeRegister_37 rfl rfl ?_
    refine g_dup hc dX3_storeRegister_38 rfl ?_
    refine gf_C_1_count_false hc wtC_5 dX3_storeRegister_39 ?_
    refine g_iconst (v := 1) hc dX3_storeRegister_42 (by decide) ?_
    refine g_iadd hc dX3_storeRegister_43 ?_
    refine pf_C_1_count_false (v := ((S1.1 3) + 1)) hc wtC_5 dX3_storeRegister_44 (fun S2 f2 => ?_)
    refine g_aload_n (i := 0) hc 0 dX3_storeRegister_47 rfl rfl ?_
    refine gf_C_1_count_false hc wtC_5 dX3_storeRegister_48 ?_
    refine g_iconst (v := 5) hc dX3_storeRegister_51 (by decide) ?_
    refine g_icmpne (tgt := 73) hc dX3_storeRegister_52 rfl (fun c_52 => ?_) (fun c_52 => ?_)
    · refine g_aload_n (i := 0) hc 0 dX3_storeRegister_55 rfl rfl ?_
      refine g_iload_n (i := 1) hc 1 dX3_storeRegister_56 rfl rfl ?_
      refine g_bipush (v := 13) hc dX3_storeRegister_57 (by decide) ?_
      refine g_ishr hc dX3_storeRegister_59 ?_
      refine g_iconst (v := 3) hc dX3_storeRegister_60 (by decide) ?_
      refine g_iand hc dX3_storeRegister_61 ?_
      refine g_aload_n (i := 0) hc 0 dX3_storeRegister_62 rfl rfl ?_
      refine gf_C_1_shifted_false hc wtC_4 dX3_storeRegister_63 ?_
      refine g_callVV hc 1 [.int ((a0 >>> ((13 : Int32) &&& (31 : Int32))) &&& 3), .int (S2.1 2)] (fun l => c_X3_setRegister l η ((a0 >>> ((13 : Int32) &&& (31 : Int32))) &&& 3) (S2.1 2) S2) wtC_28 ge_X3_setRegister rfl ⟨rfl, rfl⟩ ⟨Nat.le_of_ble_eq_true rfl, Nat.le_of_ble_eq_true rfl⟩ rfl rfl rfl (Nat.le_of_ble_eq_true rfl) dX3_storeRegister_66 (fun r3 S3 e3 f3 => ?_)
      refine g_aload_n (i := 0) hc 0 dX3_storeRegister_69 rfl rfl ?_
      refine g_callVV hc 1 [] (fun l => c_X3_forgetShifted l η S3) wtC_32 ge_X3_forgetShifted rfl ⟨rfl, rfl⟩ ⟨Nat.le_of_ble_eq_true rfl, Nat.le_of_ble_eq_true rfl⟩ rfl rfl rfl (Nat.le_of_ble_eq_true rfl) dX3_storeRegister_70 (fun r4 S4 e4 f4 => ?_)
      refine g_aload_n (i := 0) hc 0 dX3_storeRegister_73 rfl rfl ?_
      refine g_callVV hc 1 [] (fun l => c_X3_mapRom l η S4) wtC_36 ge_X3_mapRom rfl ⟨rfl, rfl⟩ ⟨Nat.le_of_ble_eq_true rfl, Nat.le_of_ble_eq_true rfl⟩ rfl rfl rfl (Nat.le_of_ble_eq_true rfl) dX3_storeRegister_74 (fun r5 S5 e5 f5 => ?_)
      refine g_aload_n (i := 0) hc 0 dX3_storeRegister_77 rfl rfl ?_
      refine g_callVV hc 1 [] (fun l => c_X3_mapChr l η S5) wtC_40 ge_X3_mapChr rfl ⟨rfl, rfl⟩ ⟨Nat.le_of_ble_eq_true rfl, Nat.le_of_ble_eq_true rfl⟩ rfl rfl rfl (Nat.le_of_ble_eq_true rfl) dX3_storeRegister_78 (fun r6 S6 e6 f6 => ?_)
      exact g_vret hc dX3_storeRegister_81
    · refine g_aload_n (i := 0) hc 0 dX3_storeRegister_73 rfl rfl ?_
      refine g_callVV hc 1 [] (fun l => c_X3_mapRom l η S2) wtC_36 ge_X3_mapRom rfl ⟨rfl, rfl⟩ ⟨Nat.le_of_ble_eq_true rfl, Nat.le_of_ble_eq_true rfl⟩ rfl rfl rfl (Nat.le_of_ble_eq_true rfl) dX3_storeRegister_74 (fun r7 S7 e7 f7 => ?_)
      refine g_aload_n (i := 0) hc 0 dX3_storeRegister_77 rfl rfl ?_
      refine g_callVV hc 1 [] (fun l => c_X3_mapChr l η S7) wtC_40 ge_X3_mapChr rfl ⟨rfl, rfl⟩ ⟨Nat.le_of_ble_eq_true rfl, Nat.le_of_ble_eq_true rfl⟩ rfl rfl rfl (Nat.le_of_ble_eq_true rfl) dX3_storeRegister_78 (fun r8 S8 e8 f8 => ?_)
      exact g_vret hc dX3_storeRegister_81
  · refine g_aload_n (i := 0) hc 0 dX3_storeRegister_8 rfl rfl ?_
    refine g_callVV hc 1 [] (fun l => c_X3_forgetShifted l η S) wtC_32 ge_X3_forgetShifted rfl ⟨rfl, rfl⟩ ⟨Nat.le_of_ble_eq_true rfl, Nat.le_of_ble_eq_true rfl⟩ rfl rfl rfl (Nat.le_of_ble_eq_true rfl) dX3_storeRegister_9 (fun r9 S9 e9 f9 => ?_)
    refine g_aload_n (i := 0) hc 0 dX3_storeRegister_12 rfl rfl ?_
    refine g_iconst (v := 3) hc dX3_storeRegister_13 (by decide) ?_
    refine pf_C_1_prgMode_false (v := 3) hc wtC_8 dX3_storeRegister_14 (fun S10 f10 => ?_)
    refine g_goto (tgt := 73) hc dX3_storeRegister_17 rfl ?_
    refine g_aload_n (i := 0) hc 0 dX3_storeRegister_73 rfl rfl ?_
    refine g_callVV hc 1 [] (fun l => c_X3_mapRom l η S10) wtC_36 ge_X3_mapRom rfl ⟨rfl, rfl⟩ ⟨Nat.le_of_ble_eq_true rfl, Nat.le_of_ble_eq_true rfl⟩ rfl rfl rfl (Nat.le_of_ble_eq_true rfl) dX3_storeRegister_74 (fun r11 S11 e11 f11 => ?_)
    refine g_aload_n (i := 0) hc 0 dX3_storeRegister_77 rfl rfl ?_
    refine g_callVV hc 1 [] (fun l => c_X3_mapChr l η S11) wtC_40 ge_X3_mapChr rfl ⟨rfl, rfl⟩ ⟨Nat.le_of_ble_eq_true rfl, Nat.le_of_ble_eq_true rfl⟩ rfl rfl rfl (Nat.le_of_ble_eq_true rfl) dX3_storeRegister_78 (fun r12 S12 e12 f12 => ?_)
    exact g_vret hc dX3_storeRegister_81

abbrev rm_X4_forgetShifted : Room := { frames := 0, cells := 0, slots := 0, locals := 0 }
def sp_X4_forgetShifted  (S : gSt) : Unit × gSt := ((), S)
set_option maxRecDepth 100000 in
set_option maxHeartbeats 4000000 in
theorem c_X4_forgetShifted (l : Launch) (η : gE)  (S : gSt) : gMet l yX4_forgetShifted cX4_forgetShifted 1 none rm_X4_forgetShifted (oC true η) [.ref (η.1 1)] S (oV (sp_X4_forgetShifted S).1) (sp_X4_forgetShifted S).2 := by
  refine gMet_of (X := sp_X4_forgetShifted S) (lv := [(0, .ref (η.1 1))]) oV (zC_ok η) (by decide +kernel) (Nat.le_of_ble_eq_true rfl) rfl (fun κ hc => ?_)
  have hc : gC (oC true η) κ cX4_forgetShifted 1 RX4 none rm_X4_forgetShifted := hc
  unfold sp_X4_forgetShifted
  exact g_vret hc dX4_forgetShifted_0

abbrev rm_X4_noteLine : Room := { frames := 0, cells := 0, slots := 0, locals := 0 }
def sp_X4_noteLine  (S : gSt) : Unit × gSt := (if (S.1 11) = 0 then gL (sI S 11 (S.1 10)) (fun S1 => (if (S1.1 11) = 0 then (if (bI (S1.2.1 1)) = 0 then ((), S1) else gL (sZ S1 0 true) (fun S2 => ((), S2))) else ((), S1))) else gL (sI S 11 ((S.1 11) - 1)) (fun S3 => (if (S3.1 11) = 0 then (if (bI (S3.2.1 1)) = 0 then ((), S3) else gL (sZ S3 0 true) (fun S4 => ((), S4))) else ((), S3))))
set_option maxRecDepth 100000 in
set_option maxHeartbeats 4000000 in
theorem c_X4_noteLine (l : Launch) (η : gE)  (S : gSt) : gMet l yX4_noteLine cX4_noteLine 1 none rm_X4_noteLine (oC true η) [.ref (η.1 1)] S (oV (sp_X4_noteLine S).1) (sp_X4_noteLine S).2 := by
  refine gMet_of (X := sp_X4_noteLine S) (lv := [(0, .ref (η.1 1))]) oV (zC_ok η) (by decide +kernel) (Nat.le_of_ble_eq_true rfl) rfl (fun κ hc => ?_)
  have hc : gC (oC true η) κ cX4_noteLine 1 RX4 none rm_X4_noteLine := hc
  unfold sp_X4_noteLine
  refine g_aload_n (i := 0) hc 0 dX4_noteLine_0 rfl rfl ?_
  refine g_aload_n (i := 0) hc 0 dX4_noteLine_1 rfl rfl ?_
  refine gf_C_1_counter_true hc wtC_41 dX4_noteLine_2 ?_
  refine g_ifne (tgt := 15) hc dX4_noteLine_5 rfl (fun c_5 => ?_) (fun c_5 => ?_)
  · refine g_aload_n (i := 0) hc 0 dX4_noteLine_8 rfl rfl ?_
    refine gf_C_1_latch_true hc wtC_42 dX4_noteLine_9 ?_
    refine g_goto (tgt := 21) hc dX4_noteLine_12 rfl ?_
    refine pf_C_1_counter_true (v := (S.1 10)) hc wtC_41 dX4_noteLine_21 (fun S1 f1 => ?_)
    refine g_aload_n (i := 0) hc 0 dX4_noteLine_24 rfl rfl ?_
    refine gf_C_1_counter_true hc wtC_41 dX4_noteLine_25 ?_
    refine g_ifne (tgt := 43) hc dX4_noteLine_28 rfl (fun c_28 => ?_) (fun c_28 => ?_)
    · refine g_aload_n (i := 0) hc 0 dX4_noteLine_31 rfl rfl ?_
      refine gf_C_1_interruptsOn_true hc wtC_43 dX4_noteLine_32 ?_
      refine g_ifeq (tgt := 43) hc dX4_noteLine_35 rfl (fun c_35 => ?_) (fun c_35 => ?_)
      · exact g_vret hc dX4_noteLine_43
      · refine g_aload_n (i := 0) hc 0 dX4_noteLine_38 rfl rfl ?_
        refine g_iconst (v := 1) hc dX4_noteLine_39 (by decide) ?_
        refine pf_C_1_irqLine_true_same (v := true) hc wtC_44 wtC_45 dX4_noteLine_40 (fun S2 f2 => ?_)
        exact g_vret hc dX4_noteLine_43
    · exact g_vret hc dX4_noteLine_43
  · refine g_aload_n (i := 0) hc 0 dX4_noteLine_15 rfl rfl ?_
    refine gf_C_1_counter_true hc wtC_41 dX4_noteLine_16 ?_
    refine g_iconst (v := 1) hc dX4_noteLine_19 (by decide) ?_
    refine g_isub hc dX4_noteLine_20 ?_
    refine pf_C_1_counter_true (v := ((S.1 11) - 1)) hc wtC_41 dX4_noteLine_21 (fun S3 f3 => ?_)
    refine g_aload_n (i := 0) hc 0 dX4_noteLine_24 rfl rfl ?_
    refine gf_C_1_counter_true hc wtC_41 dX4_noteLine_25 ?_
    refine g_ifne (tgt := 43) hc dX4_noteLine_28 rfl (fun c_28 => ?_) (fun c_28 => ?_)
    · refine g_aload_n (i := 0) hc 0 dX4_noteLine_31 rfl rfl ?_
      refine gf_C_1_interruptsOn_true hc wtC_43 dX4_noteLine_32 ?_
      refine g_ifeq (tgt := 43) hc dX4_noteLine_35 rfl (fun c_35 => ?_) (fun c_35 => ?_)
      · exact g_vret hc dX4_noteLine_43
      · refine g_aload_n (i := 0) hc 0 dX4_noteLine_38 rfl rfl ?_
        refine g_iconst (v := 1) hc dX4_noteLine_39 (by decide) ?_
        refine pf_C_1_irqLine_true_same (v := true) hc wtC_44 wtC_45 dX4_noteLine_40 (fun S4 f4 => ?_)
        exact g_vret hc dX4_noteLine_43
    · exact g_vret hc dX4_noteLine_43

abbrev rm_X4_lineCounter : Room := { frames := 0, cells := 0, slots := 0, locals := 0 }
def sp_X4_lineCounter  (S : gSt) : Int32 × gSt := ((S.1 11), S)
set_option maxRecDepth 100000 in
set_option maxHeartbeats 4000000 in
theorem c_X4_lineCounter (l : Launch) (η : gE)  (S : gSt) : gMet l yX4_lineCounter cX4_lineCounter 1 (some .int) rm_X4_lineCounter (oC true η) [.ref (η.1 1)] S (oI (sp_X4_lineCounter S).1) (sp_X4_lineCounter S).2 := by
  refine gMet_of (X := sp_X4_lineCounter S) (lv := [(0, .ref (η.1 1))]) oI (zC_ok η) (by decide +kernel) (Nat.le_of_ble_eq_true rfl) rfl (fun κ hc => ?_)
  have hc : gC (oC true η) κ cX4_lineCounter 1 RX4 (some .int) rm_X4_lineCounter := hc
  unfold sp_X4_lineCounter
  refine g_aload_n (i := 0) hc 0 dX4_lineCounter_0 rfl rfl ?_
  refine gf_C_1_counter_true hc wtC_41 dX4_lineCounter_1 ?_
  exact g_iret hc dX4_lineCounter_4

abbrev rm_X4_mapRom : Room := { frames := 1, cells := 0, slots := 0, locals := 24 }
def sp_X4_mapRom  (S : gSt) : Unit × gSt := (if ((S.1 9) &&& 64) = 0 then gB (sp_X1_setRomBanks true (aG S 19 6) (aG S 19 7) 6 7 S) (fun (_ : Unit) S1 => ((), S1)) else gB (sp_X1_setRomBanks true 6 (aG S 19 7) (aG S 19 6) 7 S) (fun (_ : Unit) S2 => ((), S2)))
set_option maxRecDepth 100000 in
set_option maxHeartbeats 4000000 in
theorem c_X4_mapRom (l : Launch) (η : gE)  (S : gSt) : gMet l yX4_mapRom cX4_mapRom 1 none rm_X4_mapRom (oC true η) [.ref (η.1 1)] S (oV (sp_X4_mapRom S).1) (sp_X4_mapRom S).2 := by
  refine gMet_of (X := sp_X4_mapRom S) (lv := [(0, .ref (η.1 1))]) oV (zC_ok η) (by decide +kernel) (Nat.le_of_ble_eq_true rfl) rfl (fun κ hc => ?_)
  have hc : gC (oC true η) κ cX4_mapRom 1 RX4 none rm_X4_mapRom := hc
  unfold sp_X4_mapRom
  refine g_aload_n (i := 0) hc 0 dX4_mapRom_0 rfl rfl ?_
  refine gf_C_1_select_true hc wtC_46 dX4_mapRom_1 ?_
  refine g_bipush (v := 64) hc dX4_mapRom_4 (by decide) ?_
  refine g_iand hc dX4_mapRom_6 ?_
  refine g_ifne (tgt := 35) hc dX4_mapRom_7 rfl (fun c_7 => ?_) (fun c_7 => ?_)
  · refine g_aload_n (i := 0) hc 0 dX4_mapRom_10 rfl rfl ?_
    refine g_aload_n (i := 0) hc 0 dX4_mapRom_11 rfl rfl ?_
    refine gf_C_1_registers_true hc wtC_47 dX4_mapRom_12 ?_
    refine g_bipush (v := 6) hc dX4_mapRom_15 (by decide) ?_
    refine al_C_19 hc (vp_in_iff.mpr (by decide)) dX4_mapRom_17 ?_
    refine g_aload_n (i := 0) hc 0 dX4_mapRom_18 rfl rfl ?_
    refine gf_C_1_registers_true hc wtC_47 dX4_mapRom_19 ?_
    refine g_bipush (v := 7) hc dX4_mapRom_22 (by decide) ?_
    refine al_C_19 hc (vp_in_iff.mpr (by decide)) dX4_mapRom_24 ?_
    refine g_bipush (v := 6) hc dX4_mapRom_25 (by decide) ?_
    refine g_bipush (v := 7) hc dX4_mapRom_27 (by decide) ?_
    refine g_callWV (C := RX4) (x := ⟨"GameConsole$Mmc3", "setRomBanks", "(IIII)V"⟩) (owner := "GameConsole$Cartridge") hc 1 [.int (aG S 19 6), .int (aG S 19 7), .int 6, .int 7] (fun l => c_X1_setRomBanks l true η (aG S 19 6) (aG S 19 7) 6 7 S) wtC_48 wtC_49 wtC_50 gu_X1_setRomBanks rfl ⟨rfl, rfl⟩ rfl ⟨Nat.le_of_ble_eq_true rfl, Nat.le_of_ble_eq_true rfl⟩ rfl rfl rfl (Nat.le_of_ble_eq_true rfl) dX4_mapRom_29 (fun r1 S1 e1 f1 => ?_)
    refine g_goto (tgt := 57) hc dX4_mapRom_32 rfl ?_
    exact g_vret hc dX4_mapRom_57
  · refine g_aload_n (i := 0) hc 0 dX4_mapRom_35 rfl rfl ?_
    refine g_bipush (v := 6) hc dX4_mapRom_36 (by decide) ?_
    refine g_aload_n (i := 0) hc 0 dX4_mapRom_38 rfl rfl ?_
    refine gf_C_1_registers_true hc wtC_47 dX4_mapRom_39 ?_
    refine g_bipush (v := 7) hc dX4_mapRom_42 (by decide) ?_
    refine al_C_19 hc (vp_in_iff.mpr (by decide)) dX4_mapRom_44 ?_
    refine g_aload_n (i := 0) hc 0 dX4_mapRom_45 rfl rfl ?_
    refine gf_C_1_registers_true hc wtC_47 dX4_mapRom_46 ?_
    refine g_bipush (v := 6) hc dX4_mapRom_49 (by decide) ?_
    refine al_C_19 hc (vp_in_iff.mpr (by decide)) dX4_mapRom_51 ?_
    refine g_bipush (v := 7) hc dX4_mapRom_52 (by decide) ?_
    refine g_callWV (C := RX4) (x := ⟨"GameConsole$Mmc3", "setRomBanks", "(IIII)V"⟩) (owner := "GameConsole$Cartridge") hc 1 [.int 6, .int (aG S 19 7), .int (aG S 19 6), .int 7] (fun l => c_X1_setRomBanks l true η 6 (aG S 19 7) (aG S 19 6) 7 S) wtC_48 wtC_49 wtC_50 gu_X1_setRomBanks rfl ⟨rfl, rfl⟩ rfl ⟨Nat.le_of_ble_eq_true rfl, Nat.le_of_ble_eq_true rfl⟩ rfl rfl rfl (Nat.le_of_ble_eq_true rfl) dX4_mapRom_54 (fun r2 S2 e2 f2 => ?_)
    exact g_vret hc dX4_mapRom_57

abbrev rm_X4_mapChr : Room := { frames := 1, cells := 0, slots := 0, locals := 25 }
def sp_X4_mapChr  (S : gSt) : Unit × gSt := (if ((S.1 9) &&& 128) = 0 then gB (sp_X1_setFourChrBanks true 0 ((aG S 19 0) &&& (-2)) ((aG S 19 0) ||| 1) ((aG S 19 1) &&& (-2)) ((aG S 19 1) ||| 1) S) (fun (_ : Unit) S1 => gB (sp_X1_setFourChrBanks true (4 - 0) (aG S1 19 2) (aG S1 19 3) (aG S1 19 4) (aG S1 19 5) S1) (fun (_ : Unit) S2 => ((), S2))) else gB (sp_X1_setFourChrBanks true 4 ((aG S 19 0) &&& (-2)) ((aG S 19 0) ||| 1) ((aG S 19 1) &&& (-2)) ((aG S 19 1) ||| 1) S) (fun (_ : Unit) S3 => gB (sp_X1_setFourChrBanks true (4 - 4) (aG S3 19 2) (aG S3 19 3) (aG S3 19 4) (aG S3 19 5) S3) (fun (_ : Unit) S4 => ((), S4))))
set_option maxRecDepth 100000 in
set_option maxHeartbeats 4000000 in
theorem c_X4_mapChr (l : Launch) (η : gE)  (S : gSt) : gMet l yX4_mapChr cX4_mapChr 4 none rm_X4_mapChr (oC true η) [.ref (η.1 1)] S (oV (sp_X4_mapChr S).1) (sp_X4_mapChr S).2 := by
  refine gMet_of (X := sp_X4_mapChr S) (lv := [(0, .ref (η.1 1))]) oV (zC_ok η) (by decide +kernel) (Nat.le_of_ble_eq_true rfl) rfl (fun κ hc => ?_)
  have hc : gC (oC true η) κ cX4_mapChr 4 RX4 none rm_X4_mapChr := hc
  unfold sp_X4_mapChr
  refine g_aload_n (i := 0) hc 0 dX4_mapChr_0 rfl rfl ?_
  refine gf_C_1_select_true hc wtC_46 dX4_mapChr_1 ?_
  refine g_sipush (v := 128) hc dX4_mapChr_4 (by decide) ?_
  refine g_iand hc dX4_mapChr_7 ?_
  refine g_ifne (tgt := 15) hc dX4_mapChr_8 rfl (fun c_8 => ?_) (fun c_8 => ?_)
  · refine g_iconst (v := 0) hc dX4_mapChr_11 (by decide) ?_
    refine g_goto (tgt := 16) hc dX4_mapChr_12 rfl ?_
    refine g_istore_n (i := 1) (lv' := [(1, .int 0), (0, .ref (η.1 1))]) hc dX4_mapChr_16 rfl (by decide) rfl ?_
    refine g_aload_n (i := 0) hc 1 dX4_mapChr_17 rfl rfl ?_
    refine gf_C_1_registers_true hc wtC_47 dX4_mapChr_18 ?_
    refine g_iconst (v := 0) hc dX4_mapChr_21 (by decide) ?_
    refine al_C_19 hc (vp_in_iff.mpr (by decide)) dX4_mapChr_22 ?_
    refine g_istore_n (i := 2) (lv' := [(2, .int (aG S 19 0)), (1, .int 0), (0, .ref (η.1 1))]) hc dX4_mapChr_23 rfl (by decide) rfl ?_
    refine g_aload_n (i := 0) hc 2 dX4_mapChr_24 rfl rfl ?_
    refine gf_C_1_registers_true hc wtC_47 dX4_mapChr_25 ?_
    refine g_iconst (v := 1) hc dX4_mapChr_28 (by decide) ?_
    refine al_C_19 hc (vp_in_iff.mpr (by decide)) dX4_mapChr_29 ?_
    refine g_istore_n (i := 3) (lv' := [(3, .int (aG S 19 1)), (2, .int (aG S 19 0)), (1, .int 0), (0, .ref (η.1 1))]) hc dX4_mapChr_30 rfl (by decide) rfl ?_
    refine g_aload_n (i := 0) hc 3 dX4_mapChr_31 rfl rfl ?_
    refine g_iload_n (i := 1) hc 2 dX4_mapChr_32 rfl rfl ?_
    refine g_iload_n (i := 2) hc 1 dX4_mapChr_33 rfl rfl ?_
    refine g_bipush (v := (-2)) hc dX4_mapChr_34 (by decide) ?_
    refine g_iand hc dX4_mapChr_36 ?_
    refine g_iload_n (i := 2) hc 1 dX4_mapChr_37 rfl rfl ?_
    refine g_iconst (v := 1) hc dX4_mapChr_38 (by decide) ?_
    refine g_ior hc dX4_mapChr_39 ?_
    refine g_iload_n (i := 3) hc 0 dX4_mapChr_40 rfl rfl ?_
    refine g_bipush (v := (-2)) hc dX4_mapChr_41 (by decide) ?_
    refine g_iand hc dX4_mapChr_43 ?_
    refine g_iload_n (i := 3) hc 0 dX4_mapChr_44 rfl rfl ?_
    refine g_iconst (v := 1) hc dX4_mapChr_45 (by decide) ?_
    refine g_ior hc dX4_mapChr_46 ?_
    refine g_callWV (C := RX4) (x := ⟨"GameConsole$Mmc3", "setFourChrBanks", "(IIIII)V"⟩) (owner := "GameConsole$Cartridge") hc 1 [.int 0, .int ((aG S 19 0) &&& (-2)), .int ((aG S 19 0) ||| 1), .int ((aG S 19 1) &&& (-2)), .int ((aG S 19 1) ||| 1)] (fun l => c_X1_setFourChrBanks l true η 0 ((aG S 19 0) &&& (-2)) ((aG S 19 0) ||| 1) ((aG S 19 1) &&& (-2)) ((aG S 19 1) ||| 1) S) wtC_51 wtC_52 wtC_53 gu_X1_setFourChrBanks rfl ⟨rfl, rfl⟩ rfl ⟨Nat.le_of_ble_eq_true rfl, Nat.le_of_ble_eq_true rfl⟩ rfl rfl rfl (Nat.le_of_ble_eq_true rfl) dX4_mapChr_47 (fun r1 S1 e1 f1 => ?_)
    refine g_aload_n (i := 0) hc 3 dX4_mapChr_50 rfl rfl ?_
    refine g_iconst (v := 4) hc dX4_mapChr_51 (by decide) ?_
    refine g_iload_n (i := 1) hc 2 dX4_mapChr_52 rfl rfl ?_
    refine g_isub hc dX4_mapChr_53 ?_
    refine g_aload_n (i := 0) hc 3 dX4_mapChr_54 rfl rfl ?_
    refine gf_C_1_registers_true hc wtC_47 dX4_mapChr_55 ?_
    refine g_iconst (v := 2) hc dX4_mapChr_58 (by decide) ?_
    refine al_C_19 hc (vp_in_iff.mpr (by decide)) dX4_mapChr_59 ?_
    refine g_aload_n (i := 0) hc 3 dX4_mapChr_60 rfl rfl ?_
    refine gf_C_1_registers_true hc wtC_47 dX4_mapChr_61 ?_
    refine g_iconst (v := 3) hc dX4_mapChr_64 (by decide) ?_
    refine al_C_19 hc (vp_in_iff.mpr (by decide)) dX4_mapChr_65 ?_
    refine g_aload_n (i := 0) hc 3 dX4_mapChr_66 rfl rfl ?_
    refine gf_C_1_registers_true hc wtC_47 dX4_mapChr_67 ?_
    refine g_iconst (v := 4) hc dX4_mapChr_70 (by decide) ?_
    refine al_C_19 hc (vp_in_iff.mpr (by decide)) dX4_mapChr_71 ?_
    refine g_aload_n (i := 0) hc 3 dX4_mapChr_72 rfl rfl ?_
    refine gf_C_1_registers_true hc wtC_47 dX4_mapChr_73 ?_
    refine g_iconst (v := 5) hc dX4_mapChr_76 (by decide) ?_
    refine al_C_19 hc (vp_in_iff.mpr (by decide)) dX4_mapChr_77 ?_
    refine g_callWV (C := RX4) (x := ⟨"GameConsole$Mmc3", "setFourChrBanks", "(IIIII)V"⟩) (owner := "GameConsole$Cartridge") hc 1 [.int (4 - 0), .int (aG S1 19 2), .int (aG S1 19 3), .int (aG S1 19 4), .int (aG S1 19 5)] (fun l => c_X1_setFourChrBanks l true η (4 - 0) (aG S1 19 2) (aG S1 19 3) (aG S1 19 4) (aG S1 19 5) S1) wtC_51 wtC_52 wtC_53 gu_X1_setFourChrBanks rfl ⟨rfl, rfl⟩ rfl ⟨Nat.le_of_ble_eq_true rfl, Nat.le_of_ble_eq_true rfl⟩ rfl rfl rfl (Nat.le_of_ble_eq_true rfl) dX4_mapChr_78 (fun r2 S2 e2 f2 => ?_)
    exact g_vret hc dX4_mapChr_81
  · refine g_iconst (v := 4) hc dX4_mapChr_15 (by decide) ?_
    refine g_istore_n (i := 1) (lv' := [(1, .int 4), (0, .ref (η.1 1))]) hc dX4_mapChr_16 rfl (by decide) rfl ?_
    refine g_aload_n (i := 0) hc 1 dX4_mapChr_17 rfl rfl ?_
    refine gf_C_1_registers_true hc wtC_47 dX4_mapChr_18 ?_
    refine g_iconst (v := 0) hc dX4_mapChr_21 (by decide) ?_
    refine al_C_19 hc (vp_in_iff.mpr (by decide)) dX4_mapChr_22 ?_
    refine g_istore_n (i := 2) (lv' := [(2, .int (aG S 19 0)), (1, .int 4), (0, .ref (η.1 1))]) hc dX4_mapChr_23 rfl (by decide) rfl ?_
    refine g_aload_n (i := 0) hc 2 dX4_mapChr_24 rfl rfl ?_
    refine gf_C_1_registers_true hc wtC_47 dX4_mapChr_25 ?_
    refine g_iconst (v := 1) hc dX4_mapChr_28 (by decide) ?_
    refine al_C_19 hc (vp_in_iff.mpr (by decide)) dX4_mapChr_29 ?_
    refine g_istore_n (i := 3) (lv' := [(3, .int (aG S 19 1)), (2, .int (aG S 19 0)), (1, .int 4), (0, .ref (η.1 1))]) hc dX4_mapChr_30 rfl (by decide) rfl ?_
    refine g_aload_n (i := 0) hc 3 dX4_mapChr_31 rfl rfl ?_
    refine g_iload_n (i := 1) hc 2 dX4_mapChr_32 rfl rfl ?_
    refine g_iload_n (i := 2) hc 1 dX4_mapChr_33 rfl rfl ?_
    refine g_bipush (v := (-2)) hc dX4_mapChr_34 (by decide) ?_
    refine g_iand hc dX4_mapChr_36 ?_
    refine g_iload_n (i := 2) hc 1 dX4_mapChr_37 rfl rfl ?_
    refine g_iconst (v := 1) hc dX4_mapChr_38 (by decide) ?_
    refine g_ior hc dX4_mapChr_39 ?_
    refine g_iload_n (i := 3) hc 0 dX4_mapChr_40 rfl rfl ?_
    refine g_bipush (v := (-2)) hc dX4_mapChr_41 (by decide) ?_
    refine g_iand hc dX4_mapChr_43 ?_
    refine g_iload_n (i := 3) hc 0 dX4_mapChr_44 rfl rfl ?_
    refine g_iconst (v := 1) hc dX4_mapChr_45 (by decide) ?_
    refine g_ior hc dX4_mapChr_46 ?_
    refine g_callWV (C := RX4) (x := ⟨"GameConsole$Mmc3", "setFourChrBanks", "(IIIII)V"⟩) (owner := "GameConsole$Cartridge") hc 1 [.int 4, .int ((aG S 19 0) &&& (-2)), .int ((aG S 19 0) ||| 1), .int ((aG S 19 1) &&& (-2)), .int ((aG S 19 1) ||| 1)] (fun l => c_X1_setFourChrBanks l true η 4 ((aG S 19 0) &&& (-2)) ((aG S 19 0) ||| 1) ((aG S 19 1) &&& (-2)) ((aG S 19 1) ||| 1) S) wtC_51 wtC_52 wtC_53 gu_X1_setFourChrBanks rfl ⟨rfl, rfl⟩ rfl ⟨Nat.le_of_ble_eq_true rfl, Nat.le_of_ble_eq_true rfl⟩ rfl rfl rfl (Nat.le_of_ble_eq_true rfl) dX4_mapChr_47 (fun r3 S3 e3 f3 => ?_)
    refine g_aload_n (i := 0) hc 3 dX4_mapChr_50 rfl rfl ?_
    refine g_iconst (v := 4) hc dX4_mapChr_51 (by decide) ?_
    refine g_iload_n (i := 1) hc 2 dX4_mapChr_52 rfl rfl ?_
    refine g_isub hc dX4_mapChr_53 ?_
    refine g_aload_n (i := 0) hc 3 dX4_mapChr_54 rfl rfl ?_
    refine gf_C_1_registers_true hc wtC_47 dX4_mapChr_55 ?_
    refine g_iconst (v := 2) hc dX4_mapChr_58 (by decide) ?_
    refine al_C_19 hc (vp_in_iff.mpr (by decide)) dX4_mapChr_59 ?_
    refine g_aload_n (i := 0) hc 3 dX4_mapChr_60 rfl rfl ?_
    refine gf_C_1_registers_true hc wtC_47 dX4_mapChr_61 ?_
    refine g_iconst (v := 3) hc dX4_mapChr_64 (by decide) ?_
    refine al_C_19 hc (vp_in_iff.mpr (by decide)) dX4_mapChr_65 ?_
    refine g_aload_n (i := 0) hc 3 dX4_mapChr_66 rfl rfl ?_
    refine gf_C_1_registers_true hc wtC_47 dX4_mapChr_67 ?_
    refine g_iconst (v := 4) hc dX4_mapChr_70 (by decide) ?_
    refine al_C_19 hc (vp_in_iff.mpr (by decide)) dX4_mapChr_71 ?_
    refine g_aload_n (i := 0) hc 3 dX4_mapChr_72 rfl rfl ?_
    refine gf_C_1_registers_true hc wtC_47 dX4_mapChr_73 ?_
    refine g_iconst (v := 5) hc dX4_mapChr_76 (by decide) ?_
    refine al_C_19 hc (vp_in_iff.mpr (by decide)) dX4_mapChr_77 ?_
    refine g_callWV (C := RX4) (x := ⟨"GameConsole$Mmc3", "setFourChrBanks", "(IIIII)V"⟩) (owner := "GameConsole$Cartridge") hc 1 [.int (4 - 4), .int (aG S3 19 2), .int (aG S3 19 3), .int (aG S3 19 4), .int (aG S3 19 5)] (fun l => c_X1_setFourChrBanks l true η (4 - 4) (aG S3 19 2) (aG S3 19 3) (aG S3 19 4) (aG S3 19 5) S3) wtC_51 wtC_52 wtC_53 gu_X1_setFourChrBanks rfl ⟨rfl, rfl⟩ rfl ⟨Nat.le_of_ble_eq_true rfl, Nat.le_of_ble_eq_true rfl⟩ rfl rfl rfl (Nat.le_of_ble_eq_true rfl) dX4_mapChr_78 (fun r4 S4 e4 f4 => ?_)
    exact g_vret hc dX4_mapChr_81

abbrev rm_X4_storeRegister : Room := { frames := 2, cells := 0, slots := 0, locals := 48 }
def sp_X4_storeRegister (a0 : Int32) (a1 : Int32) (S : gSt) : Unit × gSt := (if (((a0 >>> ((12 : Int32) &&& (31 : Int32))) &&& 6) ||| (a0 &&& 1)) = 0 then gL (sI S 9 a1) (fun S1 => gB (sp_X4_mapRom S1) (fun (_ : Unit) S2 => gB (sp_X4_mapChr S2) (fun (_ : Unit) S3 => ((), S3)))) else (if (((a0 >>> ((12 : Int32) &&& (31 : Int32))) &&& 6) ||| (a0 &&& 1)) = 1 then gL (aP S 19 ((S.1 9) &&& 7) a1) (fun S4 => gB (sp_X4_mapRom S4) (fun (_ : Unit) S5 => gB (sp_X4_mapChr S5) (fun (_ : Unit) S6 => ((), S6)))) else (if (((a0 >>> ((12 : Int32) &&& (31 : Int32))) &&& 6) ||| (a0 &&& 1)) = 2 then gL (sI S 1 (2 ||| (a1 &&& 1))) (fun S7 => gB (sp_X4_mapRom S7) (fun (_ : Unit) S8 => gB (sp_X4_mapChr S8) (fun (_ : Unit) S9 => ((), S9)))) else (if (((a0 >>> ((12 : Int32) &&& (31 : Int32))) &&& 6) ||| (a0 &&& 1)) = 3 then gB (sp_X4_mapRom S) (fun (_ : Unit) S10 => gB (sp_X4_mapChr S10) (fun (_ : Unit) S11 => ((), S11))) else (if (((a0 >>> ((12 : Int32) &&& (31 : Int32))) &&& 6) ||| (a0 &&& 1)) = 4 then gL (sI S 10 a1) (fun S12 => gB (sp_X4_mapRom S12) (fun (_ : Unit) S13 => gB (sp_X4_mapChr S13) (fun (_ : Unit) S14 => ((), S14)))) else (if (((a0 >>> ((12 : Int32) &&& (31 : Int32))) &&& 6) ||| (a0 &&& 1)) = 5 then gL (sI S 11 0) (fun S15 => gB (sp_X4_mapRom S15) (fun (_ : Unit) S16 => gB (sp_X4_mapChr S16) (fun (_ : Unit) S17 => ((), S17)))) else (if (((a0 >>> ((12 : Int32) &&& (31 : Int32))) &&& 6) ||| (a0 &&& 1)) = 6 then gL (sZ S 1 false) (fun S18 => gL (sZ S18 0 false) (fun S19 => gB (sp_X4_mapRom S19) (fun (_ : Unit) S20 => gB (sp_X4_mapChr S20) (fun (_ : Unit) S21 => ((), S21))))) else (if (((a0 >>> ((12 : Int32) &&& (31 : Int32))) &&& 6) ||| (a0 &&& 1)) = 7 then gL (sZ S 1 true) (fun S22 => gB (sp_X4_mapRom S22) (fun (_ : Unit) S23 => gB (sp_X4_mapChr S23) (fun (_ : Unit) S24 => ((), S24)))) else gB (sp_X4_mapRom S) (fun (_ : Unit) S25 => gB (sp_X4_mapChr S25) (fun (_ : Unit) S26 => ((), S26)))))))))))
set_option maxRecDepth 100000 in
set_option maxHeartbeats 4000000 in
theorem c_X4_storeRegister (l : Launch) (η : gE) (a0 : Int32) (a1 : Int32) (S : gSt) : gMet l yX4_storeRegister cX4_storeRegister 3 none rm_X4_storeRegister (oC true η) [.ref (η.1 1), .int a0, .int a1] S (oV (sp_X4_storeRegister a0 a1 S).1) (sp_X4_storeRegister a0 a1 S).2 := by
  refine gMet_of (X := sp_X4_storeRegister a0 a1 S) (lv := [(0, .ref (η.1 1)), (1, .int a0), (2, .int a1)]) oV (zC_ok η) (by decide +kernel) (Nat.le_of_ble_eq_true rfl) rfl (fun κ hc => ?_)
  have hc : gC (oC true η) κ cX4_storeRegister 3 RX4 none rm_X4_storeRegister := hc
  unfold sp_X4_storeRegister
  refine g_iload_n (i := 1) hc 1 dX4_storeRegister_0 rfl rfl ?_
  refine g_bipush (v := 12) hc dX4_storeRegister_1 (by decide) ?_
  refine g_ishr hc dX4_storeRegister_3 ?_
  refine g_bipush (v := 6) hc dX4_storeRegister_4 (by decide) ?_
  refine g_iand hc dX4_storeRegister_6 ?_
  refine g_iload_n (i := 1) hc 1 dX4_storeRegister_7 rfl rfl ?_
  refine g_iconst (v := 1) hc dX4_storeRegister_8 (by decide) ?_
  refine g_iand hc dX4_storeRegister_9 ?_
  refine g_ior hc dX4_storeRegister_10 ?_
  refine g_tsw (tgt := 56) hc 0 dX4_storeRegister_11 ⟨by decide, by decide, rfl⟩ rfl (fun c_11_0 => ?_) (fun c_11_0 => ?_)
  · refine g_aload_n (i := 0) hc 0 dX4_storeRegister_56 rfl rfl ?_
    refine g_iload_n (i := 2) hc 2 dX4_storeRegister_57 rfl rfl ?_
    refine pf_C_1_select_true (v := a1) hc wtC_46 dX4_storeRegister_58 (fun S1 f1 => ?_)
    refine g_goto (tgt := 129) hc dX4_storeRegister_61 rfl ?_
    refine g_aload_n (i := 0) hc 0 dX4_storeRegister_129 rfl rfl ?_
    refine g_callVV hc 1 [] (fun l => c_X4_mapRom l η S1) wtC_58 ge_X4_mapRom rfl ⟨rfl, rfl⟩ ⟨Nat.le_of_ble_eq_true rfl, Nat.le_of_ble_eq_true rfl⟩ rfl rfl rfl (Nat.le_of_ble_eq_true rfl) dX4_storeRegister_130 (fun r2 S2 e2 f2 => ?_)
    refine g_aload_n (i := 0) hc 0 dX4_storeRegister_133 rfl rfl ?_
    refine g_callVV hc 1 [] (fun l => c_X4_mapChr l η S2) wtC_62 ge_X4_mapChr rfl ⟨rfl, rfl⟩ ⟨Nat.le_of_ble_eq_true rfl, Nat.le_of_ble_eq_true rfl⟩ rfl rfl rfl (Nat.le_of_ble_eq_true rfl) dX4_storeRegister_134 (fun r3 S3 e3 f3 => ?_)
    exact g_vret hc dX4_storeRegister_137
  refine g_tsw (tgt := 64) hc 1 dX4_storeRegister_11 ⟨by decide, by decide, rfl⟩ rfl (fun c_11_1 => ?_) (fun c_11_1 => ?_)
  · refine g_aload_n (i := 0) hc 0 dX4_storeRegister_64 rfl rfl ?_
    refine gf_C_1_registers_true hc wtC_47 dX4_storeRegister_65 ?_
    refine g_aload_n (i := 0) hc 0 dX4_storeRegister_68 rfl rfl ?_
    refine gf_C_1_select_true hc wtC_46 dX4_storeRegister_69 ?_
    refine g_bipush (v := 7) hc dX4_storeRegister_72 (by decide) ?_
    refine g_iand hc dX4_storeRegister_74 ?_
    refine g_iload_n (i := 2) hc 2 dX4_storeRegister_75 rfl rfl ?_
    refine as_C_19 hc (pk_andIn _ 3 (by decide) (by decide)) dX4_storeRegister_76 (fun S4 f4 => ?_)
    refine g_goto (tgt := 129) hc dX4_storeRegister_77 rfl ?_
    refine g_aload_n (i := 0) hc 0 dX4_storeRegister_129 rfl rfl ?_
    refine g_callVV hc 1 [] (fun l => c_X4_mapRom l η S4) wtC_58 ge_X4_mapRom rfl ⟨rfl, rfl⟩ ⟨Nat.le_of_ble_eq_true rfl, Nat.le_of_ble_eq_true rfl⟩ rfl rfl rfl (Nat.le_of_ble_eq_true rfl) dX4_storeRegister_130 (fun r5 S5 e5 f5 => ?_)
    refine g_aload_n (i := 0) hc 0 dX4_storeRegister_133 rfl rfl ?_
    refine g_callVV hc 1 [] (fun l => c_X4_mapChr l η S5) wtC_62 ge_X4_mapChr rfl ⟨rfl, rfl⟩ ⟨Nat.le_of_ble_eq_true rfl, Nat.le_of_ble_eq_true rfl⟩ rfl rfl rfl (Nat.le_of_ble_eq_true rfl) dX4_storeRegister_134 (fun r6 S6 e6 f6 => ?_)
    exact g_vret hc dX4_storeRegister_137
  refine g_tsw (tgt := 80) hc 2 dX4_storeRegister_11 ⟨by decide, by decide, rfl⟩ rfl (fun c_11_2 => ?_) (fun c_11_2 => ?_)
  · refine g_aload_n (i := 0) hc 0 dX4_storeRegister_80 rfl rfl ?_
    refine g_iconst (v := 2) hc dX4_storeRegister_81 (by decide) ?_
    refine g_iload_n (i := 2) hc 2 dX4_storeRegister_82 rfl rfl ?_
    refine g_iconst (v := 1) hc dX4_storeRegister_83 (by decide) ?_
    refine g_iand hc dX4_storeRegister_84 ?_
    refine g_ior hc dX4_storeRegister_85 ?_
    refine pf_C_1_mirroring_true_same (v := (2 ||| (a1 &&& 1))) hc wtC_63 wtC_64 dX4_storeRegister_86 (fun S7 f7 => ?_)
    refine g_goto (tgt := 129) hc dX4_storeRegister_89 rfl ?_
    refine g_aload_n (i := 0) hc 0 dX4_storeRegister_129 rfl rfl ?_
    refine g_callVV hc 1 [] (fun l => c_X4_mapRom l η S7) wtC_58 ge_X4_mapRom rfl ⟨rfl, rfl⟩ ⟨Nat.le_of_ble_eq_true rfl, Nat.le_of_ble_eq_true rfl⟩ rfl rfl rfl (Nat.le_of_ble_eq_true rfl) dX4_storeRegister_130 (fun r8 S8 e8 f8 => ?_)
    refine g_aload_n (i := 0) hc 0 dX4_storeRegister_133 rfl rfl ?_
    refine g_callVV hc 1 [] (fun l => c_X4_mapChr l η S8) wtC_62 ge_X4_mapChr rfl ⟨rfl, rfl⟩ ⟨Nat.le_of_ble_eq_true rfl, Nat.le_of_ble_eq_true rfl⟩ rfl rfl rfl (Nat.le_of_ble_eq_true rfl) dX4_storeRegister_134 (fun r9 S9 e9 f9 => ?_)
    exact g_vret hc dX4_storeRegister_137
  refine g_tsw (tgt := 129) hc 3 dX4_storeRegister_11 ⟨by decide, by decide, rfl⟩ rfl (fun c_11_3 => ?_) (fun c_11_3 => ?_)
  · refine g_aload_n (i := 0) hc 0 dX4_storeRegister_129 rfl rfl ?_
    refine g_callVV hc 1 [] (fun l => c_X4_mapRom l η S) wtC_58 ge_X4_mapRom rfl ⟨rfl, rfl⟩ ⟨Nat.le_of_ble_eq_true rfl, Nat.le_of_ble_eq_true rfl⟩ rfl rfl rfl (Nat.le_of_ble_eq_true rfl) dX4_storeRegister_130 (fun r10 S10 e10 f10 => ?_)
    refine g_aload_n (i := 0) hc 0 dX4_storeRegister_133 rfl rfl ?_
    refine g_callVV hc 1 [] (fun l => c_X4_mapChr l η S10) wtC_62 ge_X4_mapChr rfl ⟨rfl, rfl⟩ ⟨Nat.le_of_ble_eq_true rfl, Nat.le_of_ble_eq_true rfl⟩ rfl rfl rfl (Nat.le_of_ble_eq_true rfl) dX4_storeRegister_134 (fun r11 S11 e11 f11 => ?_)
    exact g_vret hc dX4_storeRegister_137
  refine g_tsw (tgt := 92) hc 4 dX4_storeRegister_11 ⟨by decide, by decide, rfl⟩ rfl (fun c_11_4 => ?_) (fun c_11_4 => ?_)
  · refine g_aload_n (i := 0) hc 0 dX4_storeRegister_92 rfl rfl ?_
    refine g_iload_n (i := 2) hc 2 dX4_storeRegister_93 rfl rfl ?_
    refine pf_C_1_latch_true (v := a1) hc wtC_42 dX4_storeRegister_94 (fun S12 f12 => ?_)
    refine g_goto (tgt := 129) hc dX4_storeRegister_97 rfl ?_
    refine g_aload_n (i := 0) hc 0 dX4_storeRegister_129 rfl rfl ?_
    refine g_callVV hc 1 [] (fun l => c_X4_mapRom l η S12) wtC_58 ge_X4_mapRom rfl ⟨rfl, rfl⟩ ⟨Nat.le_of_ble_eq_true rfl, Nat.le_of_ble_eq_true rfl⟩ rfl rfl rfl (Nat.le_of_ble_eq_true rfl) dX4_storeRegister_130 (fun r13 S13 e13 f13 => ?_)
    refine g_aload_n (i := 0) hc 0 dX4_storeRegister_133 rfl rfl ?_
    refine g_callVV hc 1 [] (fun l => c_X4_mapChr l η S13) wtC_62 ge_X4_mapChr rfl ⟨rfl, rfl⟩ ⟨Nat.le_of_ble_eq_true rfl, Nat.le_of_ble_eq_true rfl⟩ rfl rfl rfl (Nat.le_of_ble_eq_true rfl) dX4_storeRegister_134 (fun r14 S14 e14 f14 => ?_)
    exact g_vret hc dX4_storeRegister_137
  refine g_tsw (tgt := 100) hc 5 dX4_storeRegister_11 ⟨by decide, by decide, rfl⟩ rfl (fun c_11_5 => ?_) (fun c_11_5 => ?_)
  · refine g_aload_n (i := 0) hc 0 dX4_storeRegister_100 rfl rfl ?_
    refine g_iconst (v := 0) hc dX4_storeRegister_101 (by decide) ?_
    refine pf_C_1_counter_true (v := 0) hc wtC_41 dX4_storeRegister_102 (fun S15 f15 => ?_)
    refine g_goto (tgt := 129) hc dX4_storeRegister_105 rfl ?_
    refine g_aload_n (i := 0) hc 0 dX4_storeRegister_129 rfl rfl ?_
    refine g_callVV hc 1 [] (fun l => c_X4_mapRom l η S15) wtC_58 ge_X4_mapRom rfl ⟨rfl, rfl⟩ ⟨Nat.le_of_ble_eq_true rfl, Nat.le_of_ble_eq_true rfl⟩ rfl rfl rfl (Nat.le_of_ble_eq_true rfl) dX4_storeRegister_130 (fun r16 S16 e16 f16 => ?_)
    refine g_aload_n (i := 0) hc 0 dX4_storeRegister_133 rfl rfl ?_
    refine g_callVV hc 1 [] (fun l => c_X4_mapChr l η S16) wtC_62 ge_X4_mapChr rfl ⟨rfl, rfl⟩ ⟨Nat.le_of_ble_eq_true rfl, Nat.le_of_ble_eq_true rfl⟩ rfl rfl rfl (Nat.le_of_ble_eq_true rfl) dX4_storeRegister_134 (fun r17 S17 e17 f17 => ?_)
    exact g_vret hc dX4_storeRegister_137
  refine g_tsw (tgt := 108) hc 6 dX4_storeRegister_11 ⟨by decide, by decide, rfl⟩ rfl (fun c_11_6 => ?_) (fun c_11_6 => ?_)
  · refine g_aload_n (i := 0) hc 0 dX4_storeRegister_108 rfl rfl ?_
    refine g_iconst (v := 0) hc dX4_storeRegister_109 (by decide) ?_
    refine pf_C_1_interruptsOn_true (v := false) hc wtC_43 dX4_storeRegister_110 (fun S18 f18 => ?_)
    refine g_aload_n (i := 0) hc 0 dX4_storeRegister_113 rfl rfl ?_
    refine g_iconst (v := 0) hc dX4_storeRegister_114 (by decide) ?_
    refine pf_C_1_irqLine_true_same (v := false) hc wtC_44 wtC_45 dX4_storeRegister_115 (fun S19 f19 => ?_)
    refine g_goto (tgt := 129) hc dX4_storeRegister_118 rfl ?_
    refine g_aload_n (i := 0) hc 0 dX4_storeRegister_129 rfl rfl ?_
    refine g_callVV hc 1 [] (fun l => c_X4_mapRom l η S19) wtC_58 ge_X4_mapRom rfl ⟨rfl, rfl⟩ ⟨Nat.le_of_ble_eq_true rfl, Nat.le_of_ble_eq_true rfl⟩ rfl rfl rfl (Nat.le_of_ble_eq_true rfl) dX4_storeRegister_130 (fun r20 S20 e20 f20 => ?_)
    refine g_aload_n (i := 0) hc 0 dX4_storeRegister_133 rfl rfl ?_
    refine g_callVV hc 1 [] (fun l => c_X4_mapChr l η S20) wtC_62 ge_X4_mapChr rfl ⟨rfl, rfl⟩ ⟨Nat.le_of_ble_eq_true rfl, Nat.le_of_ble_eq_true rfl⟩ rfl rfl rfl (Nat.le_of_ble_eq_true rfl) dX4_storeRegister_134 (fun r21 S21 e21 f21 => ?_)
    exact g_vret hc dX4_storeRegister_137
  refine g_tsw (tgt := 121) hc 7 dX4_storeRegister_11 ⟨by decide, by decide, rfl⟩ rfl (fun c_11_7 => ?_) (fun c_11_7 => ?_)
  · refine g_aload_n (i := 0) hc 0 dX4_storeRegister_121 rfl rfl ?_
    refine g_iconst (v := 1) hc dX4_storeRegister_122 (by decide) ?_
    refine pf_C_1_interruptsOn_true (v := true) hc wtC_43 dX4_storeRegister_123 (fun S22 f22 => ?_)
    refine g_goto (tgt := 129) hc dX4_storeRegister_126 rfl ?_
    refine g_aload_n (i := 0) hc 0 dX4_storeRegister_129 rfl rfl ?_
    refine g_callVV hc 1 [] (fun l => c_X4_mapRom l η S22) wtC_58 ge_X4_mapRom rfl ⟨rfl, rfl⟩ ⟨Nat.le_of_ble_eq_true rfl, Nat.le_of_ble_eq_true rfl⟩ rfl rfl rfl (Nat.le_of_ble_eq_true rfl) dX4_storeRegister_130 (fun r23 S23 e23 f23 => ?_)
    refine g_aload_n (i := 0) hc 0 dX4_storeRegister_133 rfl rfl ?_
    refine g_callVV hc 1 [] (fun l => c_X4_mapChr l η S23) wtC_62 ge_X4_mapChr rfl ⟨rfl, rfl⟩ ⟨Nat.le_of_ble_eq_true rfl, Nat.le_of_ble_eq_true rfl⟩ rfl rfl rfl (Nat.le_of_ble_eq_true rfl) dX4_storeRegister_134 (fun r24 S24 e24 f24 => ?_)
    exact g_vret hc dX4_storeRegister_137
  refine g_tswd (tgt := 129) hc dX4_storeRegister_11 (by have := lv_neT c_11_0 (a := 0) (by decide); have := lv_neT c_11_1 (a := 1) (by decide); have := lv_neT c_11_2 (a := 2) (by decide); have := lv_neT c_11_3 (a := 3) (by decide); have := lv_neT c_11_4 (a := 4) (by decide); have := lv_neT c_11_5 (a := 5) (by decide); have := lv_neT c_11_6 (a := 6) (by decide); have := lv_neT c_11_7 (a := 7) (by decide); omega) rfl ?_
  refine g_aload_n (i := 0) hc 0 dX4_storeRegister_129 rfl rfl ?_
  refine g_callVV hc 1 [] (fun l => c_X4_mapRom l η S) wtC_58 ge_X4_mapRom rfl ⟨rfl, rfl⟩ ⟨Nat.le_of_ble_eq_true rfl, Nat.le_of_ble_eq_true rfl⟩ rfl rfl rfl (Nat.le_of_ble_eq_true rfl) dX4_storeRegister_130 (fun r25 S25 e25 f25 => ?_)
  refine g_aload_n (i := 0) hc 0 dX4_storeRegister_133 rfl rfl ?_
  refine g_callVV hc 1 [] (fun l => c_X4_mapChr l η S25) wtC_62 ge_X4_mapChr rfl ⟨rfl, rfl⟩ ⟨Nat.le_of_ble_eq_true rfl, Nat.le_of_ble_eq_true rfl⟩ rfl rfl rfl (Nat.le_of_ble_eq_true rfl) dX4_storeRegister_134 (fun r26 S26 e26 f26 => ?_)
  exact g_vret hc dX4_storeRegister_137

section KL
variable {ρ : Type} {k : Bool} {η : gE} {κ : gK} {cc : ByteArray} {nL : Nat} {own : String} {ret : Option FieldType} {rm : Room} {out : ρ → Option Value} {pc : Nat} {lv : List (Nat × Value)} {rest : List Value} {S : gSt} {X : ρ × gSt}
theorem gk_romByte {a0 : Int32} {i : Nat} {F : Int32 → gSt → ρ × gSt} (hc : gC (oC k η) κ cc nL own ret rm) (h1 : Cond.methodLink own i ⟨"GameConsole$Cartridge", "romByte", "(I)I"⟩ ∈ WT) (hR : 1 ≤ rm.frames ∧ 21 ≤ rm.locals) (hcat : (rest.map fun v => v.category).sum ≤ 8) (hd : decode cc pc = .ok (.invokevirtual i, 3)) (kk : ∀ (r : Int32) (S1 : gSt), r = (sp_X1_romByte k a0 S).1 → S1 = (sp_X1_romByte k a0 S).2 → gG (oC k η) κ nL out (pc + 3) lv (.int r :: rest) S1 (F r S1)) : gG (oC k η) κ nL out pc lv (.int a0 :: .ref (η.1 1) :: rest) S (gB (sp_X1_romByte k a0 S) F) := by
  cases k
  · exact g_callWI (C := RX3) (x := ⟨"GameConsole$Cartridge", "romByte", "(I)I"⟩) (owner := "GameConsole$Cartridge") (Pr := sp_X1_romByte false a0 S) hc 1 [.int a0] (fun l => c_X1_romByte l false η a0 S) h1 wtC_67 wtC_68 gu_X1_romByte rfl ⟨rfl, rfl⟩ rfl ⟨Nat.le_trans (Nat.le_of_ble_eq_true rfl) hR.1, Nat.le_trans (Nat.le_of_ble_eq_true rfl) hR.2⟩ rfl rfl rfl hcat hd kk
  · exact g_callWI (C := RX4) (x := ⟨"GameConsole$Cartridge", "romByte", "(I)I"⟩) (owner := "GameConsole$Cartridge") (Pr := sp_X1_romByte true a0 S) hc 1 [.int a0] (fun l => c_X1_romByte l true η a0 S) h1 wtC_67 wtC_69 gu_X1_romByte rfl ⟨rfl, rfl⟩ rfl ⟨Nat.le_trans (Nat.le_of_ble_eq_true rfl) hR.1, Nat.le_trans (Nat.le_of_ble_eq_true rfl) hR.2⟩ rfl rfl rfl hcat hd kk
theorem gk_chrByte {a0 : Int32} {i : Nat} {F : Int32 → gSt → ρ × gSt} (hc : gC (oC k η) κ cc nL own ret rm) (h1 : Cond.methodLink own i ⟨"GameConsole$Cartridge", "chrByte", "(I)I"⟩ ∈ WT) (hR : 1 ≤ rm.frames ∧ 21 ≤ rm.locals) (hcat : (rest.map fun v => v.category).sum ≤ 8) (hd : decode cc pc = .ok (.invokevirtual i, 3)) (kk : ∀ (r : Int32) (S1 : gSt), r = (sp_X1_chrByte k a0 S).1 → S1 = (sp_X1_chrByte k a0 S).2 → gG (oC k η) κ nL out (pc + 3) lv (.int r :: rest) S1 (F r S1)) : gG (oC k η) κ nL out pc lv (.int a0 :: .ref (η.1 1) :: rest) S (gB (sp_X1_chrByte k a0 S) F) := by
  cases k
  · exact g_callWI (C := RX3) (x := ⟨"GameConsole$Cartridge", "chrByte", "(I)I"⟩) (owner := "GameConsole$Cartridge") (Pr := sp_X1_chrByte false a0 S) hc 1 [.int a0] (fun l => c_X1_chrByte l false η a0 S) h1 wtC_72 wtC_73 gu_X1_chrByte rfl ⟨rfl, rfl⟩ rfl ⟨Nat.le_trans (Nat.le_of_ble_eq_true rfl) hR.1, Nat.le_trans (Nat.le_of_ble_eq_true rfl) hR.2⟩ rfl rfl rfl hcat hd kk
  · exact g_callWI (C := RX4) (x := ⟨"GameConsole$Cartridge", "chrByte", "(I)I"⟩) (owner := "GameConsole$Cartridge") (Pr := sp_X1_chrByte true a0 S) hc 1 [.int a0] (fun l => c_X1_chrByte l true η a0 S) h1 wtC_72 wtC_74 gu_X1_chrByte rfl ⟨rfl, rfl⟩ rfl ⟨Nat.le_trans (Nat.le_of_ble_eq_true rfl) hR.1, Nat.le_trans (Nat.le_of_ble_eq_true rfl) hR.2⟩ rfl rfl rfl hcat hd kk
def sp_K_storeRegister (k : Bool) (a0 : Int32) (a1 : Int32) (S : gSt) : Unit × gSt := match k with
  | false => sp_X3_storeRegister a0 a1 S
  | true => sp_X4_storeRegister a0 a1 S
theorem gk_storeRegister {a0 a1 : Int32} {i : Nat} {F : Unit → gSt → ρ × gSt} (hc : gC (oC k η) κ cc nL own ret rm) (h1 : Cond.methodLink own i ⟨"GameConsole$Cartridge", "storeRegister", "(II)V"⟩ ∈ WT) (hR : 3 ≤ rm.frames ∧ 70 ≤ rm.locals) (hcat : (rest.map fun v => v.category).sum ≤ 8) (hd : decode cc pc = .ok (.invokevirtual i, 3)) (kk : ∀ (r : Unit) (S1 : gSt), r = (sp_K_storeRegister k a0 a1 S).1 → S1 = (sp_K_storeRegister k a0 a1 S).2 → gG (oC k η) κ nL out (pc + 3) lv (rest) S1 (F r S1)) : gG (oC k η) κ nL out pc lv (.int a1 :: .int a0 :: .ref (η.1 1) :: rest) S (gB (sp_K_storeRegister k a0 a1 S) F) := by
  cases k
  · exact g_callUV (C := RX3) (x := ⟨"GameConsole$Cartridge", "storeRegister", "(II)V"⟩) (owner := "GameConsole$Cartridge") (Pr := sp_X3_storeRegister a0 a1 S) hc 1 [.int a0, .int a1] (fun l => c_X3_storeRegister l η a0 a1 S) h1 wtC_77 wtC_78 gu_X3_storeRegister rfl ⟨rfl, rfl⟩ (zC_n η (w := .declares ⟨"GameConsole$Cartridge", "storeRegister", "(II)V"⟩) (by decide +kernel)) ⟨Nat.le_trans (Nat.le_of_ble_eq_true rfl) hR.1, Nat.le_trans (Nat.le_of_ble_eq_true rfl) hR.2⟩ rfl rfl rfl hcat hd kk
  · exact g_callUV (C := RX4) (x := ⟨"GameConsole$Cartridge", "storeRegister", "(II)V"⟩) (owner := "GameConsole$Cartridge") (Pr := sp_X4_storeRegister a0 a1 S) hc 1 [.int a0, .int a1] (fun l => c_X4_storeRegister l η a0 a1 S) h1 wtC_77 wtC_81 gu_X4_storeRegister rfl ⟨rfl, rfl⟩ (zC_n η (w := .declares ⟨"GameConsole$Cartridge", "storeRegister", "(II)V"⟩) (by decide +kernel)) ⟨Nat.le_trans (Nat.le_of_ble_eq_true rfl) hR.1, Nat.le_trans (Nat.le_of_ble_eq_true rfl) hR.2⟩ rfl rfl rfl hcat hd kk
def sp_K_noteLine (k : Bool)  (S : gSt) : Unit × gSt := match k with
  | false => sp_X3_noteLine S
  | true => sp_X4_noteLine S
theorem gk_noteLine {i : Nat} {F : Unit → gSt → ρ × gSt} (hc : gC (oC k η) κ cc nL own ret rm) (h1 : Cond.methodLink own i ⟨"GameConsole$Cartridge", "noteLine", "()V"⟩ ∈ WT) (hR : 1 ≤ rm.frames ∧ 20 ≤ rm.locals) (hcat : (rest.map fun v => v.category).sum ≤ 8) (hd : decode cc pc = .ok (.invokevirtual i, 3)) (kk : ∀ (r : Unit) (S1 : gSt), r = (sp_K_noteLine k S).1 → S1 = (sp_K_noteLine k S).2 → gG (oC k η) κ nL out (pc + 3) lv (rest) S1 (F r S1)) : gG (oC k η) κ nL out pc lv (.ref (η.1 1) :: rest) S (gB (sp_K_noteLine k S) F) := by
  cases k
  · exact g_callUV (C := RX3) (x := ⟨"GameConsole$Cartridge", "noteLine", "()V"⟩) (owner := "GameConsole$Cartridge") (Pr := sp_X3_noteLine S) hc 1 [] (fun l => c_X3_noteLine l η S) h1 wtC_84 wtC_85 gu_X3_noteLine rfl ⟨rfl, rfl⟩ (zC_n η (w := .declares ⟨"GameConsole$Cartridge", "noteLine", "()V"⟩) (by decide +kernel)) ⟨Nat.le_trans (Nat.le_of_ble_eq_true rfl) hR.1, Nat.le_trans (Nat.le_of_ble_eq_true rfl) hR.2⟩ rfl rfl rfl hcat hd kk
  · exact g_callUV (C := RX4) (x := ⟨"GameConsole$Cartridge", "noteLine", "()V"⟩) (owner := "GameConsole$Cartridge") (Pr := sp_X4_noteLine S) hc 1 [] (fun l => c_X4_noteLine l η S) h1 wtC_84 wtC_88 gu_X4_noteLine rfl ⟨rfl, rfl⟩ (zC_n η (w := .declares ⟨"GameConsole$Cartridge", "noteLine", "()V"⟩) (by decide +kernel)) ⟨Nat.le_trans (Nat.le_of_ble_eq_true rfl) hR.1, Nat.le_trans (Nat.le_of_ble_eq_true rfl) hR.2⟩ rfl rfl rfl hcat hd kk
def sp_K_forgetShifted (k : Bool)  (S : gSt) : Unit × gSt := match k with
  | false => sp_X3_forgetShifted S
  | true => sp_X4_forgetShifted S
theorem gk_forgetShifted {i : Nat} {F : Unit → gSt → ρ × gSt} (hc : gC (oC k η) κ cc nL own ret rm) (h1 : Cond.methodLink own i ⟨"GameConsole$Cartridge", "forgetShifted", "()V"⟩ ∈ WT) (hR : 1 ≤ rm.frames ∧ 20 ≤ rm.locals) (hcat : (rest.map fun v => v.category).sum ≤ 8) (hd : decode cc pc = .ok (.invokevirtual i, 3)) (kk : ∀ (r : Unit) (S1 : gSt), r = (sp_K_forgetShifted k S).1 → S1 = (sp_K_forgetShifted k S).2 → gG (oC k η) κ nL out (pc + 3) lv (rest) S1 (F r S1)) : gG (oC k η) κ nL out pc lv (.ref (η.1 1) :: rest) S (gB (sp_K_forgetShifted k S) F) := by
  cases k
  · exact g_callUV (C := RX3) (x := ⟨"GameConsole$Cartridge", "forgetShifted", "()V"⟩) (owner := "GameConsole$Cartridge") (Pr := sp_X3_forgetShifted S) hc 1 [] (fun l => c_X3_forgetShifted l η S) h1 wtC_89 wtC_90 gu_X3_forgetShifted rfl ⟨rfl, rfl⟩ (zC_n η (w := .declares ⟨"GameConsole$Cartridge", "forgetShifted", "()V"⟩) (by decide +kernel)) ⟨Nat.le_trans (Nat.le_of_ble_eq_true rfl) hR.1, Nat.le_trans (Nat.le_of_ble_eq_true rfl) hR.2⟩ rfl rfl rfl hcat hd kk
  · exact g_callUV (C := RX4) (x := ⟨"GameConsole$Cartridge", "forgetShifted", "()V"⟩) (owner := "GameConsole$Cartridge") (Pr := sp_X4_forgetShifted S) hc 1 [] (fun l => c_X4_forgetShifted l η S) h1 wtC_89 wtC_93 gu_X4_forgetShifted rfl ⟨rfl, rfl⟩ (zC_n η (w := .declares ⟨"GameConsole$Cartridge", "forgetShifted", "()V"⟩) (by decide +kernel)) ⟨Nat.le_trans (Nat.le_of_ble_eq_true rfl) hR.1, Nat.le_trans (Nat.le_of_ble_eq_true rfl) hR.2⟩ rfl rfl rfl hcat hd kk
def sp_K_lineCounter (k : Bool)  (S : gSt) : Int32 × gSt := match k with
  | false => sp_X3_lineCounter S
  | true => sp_X4_lineCounter S
theorem gk_lineCounter {i : Nat} {F : Int32 → gSt → ρ × gSt} (hc : gC (oC k η) κ cc nL own ret rm) (h1 : Cond.methodLink own i ⟨"GameConsole$Cartridge", "lineCounter", "()I"⟩ ∈ WT) (hR : 1 ≤ rm.frames ∧ 20 ≤ rm.locals) (hcat : (rest.map fun v => v.category).sum ≤ 8) (hd : decode cc pc = .ok (.invokevirtual i, 3)) (kk : ∀ (r : Int32) (S1 : gSt), r = (sp_K_lineCounter k S).1 → S1 = (sp_K_lineCounter k S).2 → gG (oC k η) κ nL out (pc + 3) lv (.int r :: rest) S1 (F r S1)) : gG (oC k η) κ nL out pc lv (.ref (η.1 1) :: rest) S (gB (sp_K_lineCounter k S) F) := by
  cases k
  · exact g_callUI (C := RX3) (x := ⟨"GameConsole$Cartridge", "lineCounter", "()I"⟩) (owner := "GameConsole$Cartridge") (Pr := sp_X3_lineCounter S) hc 1 [] (fun l => c_X3_lineCounter l η S) h1 wtC_96 wtC_97 gu_X3_lineCounter rfl ⟨rfl, rfl⟩ (zC_n η (w := .declares ⟨"GameConsole$Cartridge", "lineCounter", "()I"⟩) (by decide +kernel)) ⟨Nat.le_trans (Nat.le_of_ble_eq_true rfl) hR.1, Nat.le_trans (Nat.le_of_ble_eq_true rfl) hR.2⟩ rfl rfl rfl hcat hd kk
  · exact g_callUI (C := RX4) (x := ⟨"GameConsole$Cartridge", "lineCounter", "()I"⟩) (owner := "GameConsole$Cartridge") (Pr := sp_X4_lineCounter S) hc 1 [] (fun l => c_X4_lineCounter l η S) h1 wtC_96 wtC_100 gu_X4_lineCounter rfl ⟨rfl, rfl⟩ (zC_n η (w := .declares ⟨"GameConsole$Cartridge", "lineCounter", "()I"⟩) (by decide +kernel)) ⟨Nat.le_trans (Nat.le_of_ble_eq_true rfl) hR.1, Nat.le_trans (Nat.le_of_ble_eq_true rfl) hR.2⟩ rfl rfl rfl hcat hd kk
end KL
end
