section
-- ===== PART A: goes FIRST, ahead of the names: the tables' words, and 'selects' of the private methods out of them =====
/-- a private method of a class that the tables say can be made, by its rows of tables_1 -/
def lw_okq (q : MethodName × Nat) : Prop := (q.1.cls ≠ "java/lang/invoke/MethodHandle" ∧ q.1.cls ≠ "java/lang/invoke/VarHandle") ∧ Cond.instantiable q.1.cls q.2 ∈ tables_1 ∧ Cond.privateMethod q.1 ∈ tables_1 ∧ Cond.instanceMethod q.1 ∈ tables_1
theorem lw_p0 : lw_okq (⟨"TabTrails", "found", "(I)I"⟩, 9) := ⟨⟨by decide +kernel, by decide +kernel⟩, List.mem_of_getElem? (i := 15) (by decide +kernel), List.mem_of_getElem? (i := 326) (by decide +kernel), List.mem_of_getElem? (i := 327) (by decide +kernel)⟩
theorem lw_p1 : lw_okq (⟨"TabTrails$Reader", "advance", "()V"⟩, 11) := ⟨⟨by decide +kernel, by decide +kernel⟩, List.mem_of_getElem? (i := 25) (by decide +kernel), List.mem_of_getElem? (i := 383) (by decide +kernel), List.mem_of_getElem? (i := 384) (by decide +kernel)⟩
theorem lw_p2 : lw_okq (⟨"TabTrails$Reader", "byteAt", "(I)I"⟩, 11) := ⟨⟨by decide +kernel, by decide +kernel⟩, List.mem_of_getElem? (i := 25) (by decide +kernel), List.mem_of_getElem? (i := 387) (by decide +kernel), List.mem_of_getElem? (i := 388) (by decide +kernel)⟩
theorem lw_p3 : lw_okq (⟨"TabTrails$Reader", "readLaw", "()Z"⟩, 11) := ⟨⟨by decide +kernel, by decide +kernel⟩, List.mem_of_getElem? (i := 25) (by decide +kernel), List.mem_of_getElem? (i := 394) (by decide +kernel), List.mem_of_getElem? (i := 395) (by decide +kernel)⟩
theorem lw_p4 : lw_okq (⟨"TabTrails$Reader", "take", "(I)Z"⟩, 11) := ⟨⟨by decide +kernel, by decide +kernel⟩, List.mem_of_getElem? (i := 25) (by decide +kernel), List.mem_of_getElem? (i := 398) (by decide +kernel), List.mem_of_getElem? (i := 399) (by decide +kernel)⟩
theorem lw_p5 : lw_okq (⟨"TabTrails$Reader", "wrong", "(I)Z"⟩, 11) := ⟨⟨by decide +kernel, by decide +kernel⟩, List.mem_of_getElem? (i := 25) (by decide +kernel), List.mem_of_getElem? (i := 402) (by decide +kernel), List.mem_of_getElem? (i := 403) (by decide +kernel)⟩
theorem lw_p6 : lw_okq (⟨"TabTrails$Reader", "takeNumber", "(II)Z"⟩, 11) := ⟨⟨by decide +kernel, by decide +kernel⟩, List.mem_of_getElem? (i := 25) (by decide +kernel), List.mem_of_getElem? (i := 406) (by decide +kernel), List.mem_of_getElem? (i := 407) (by decide +kernel)⟩
theorem lw_p7 : lw_okq (⟨"TabTrails$Reader", "readPages", "()Z"⟩, 11) := ⟨⟨by decide +kernel, by decide +kernel⟩, List.mem_of_getElem? (i := 25) (by decide +kernel), List.mem_of_getElem? (i := 410) (by decide +kernel), List.mem_of_getElem? (i := 411) (by decide +kernel)⟩
theorem lw_p8 : lw_okq (⟨"TabTrails$Reader", "readLinks", "(I)Z"⟩, 11) := ⟨⟨by decide +kernel, by decide +kernel⟩, List.mem_of_getElem? (i := 25) (by decide +kernel), List.mem_of_getElem? (i := 414) (by decide +kernel), List.mem_of_getElem? (i := 415) (by decide +kernel)⟩
theorem lw_p9 : lw_okq (⟨"TabTrails$Reader", "readTabs", "()Z"⟩, 11) := ⟨⟨by decide +kernel, by decide +kernel⟩, List.mem_of_getElem? (i := 25) (by decide +kernel), List.mem_of_getElem? (i := 426) (by decide +kernel), List.mem_of_getElem? (i := 427) (by decide +kernel)⟩
theorem lw_p10 : lw_okq (⟨"TabTrails$Reader", "readTab", "()Z"⟩, 11) := ⟨⟨by decide +kernel, by decide +kernel⟩, List.mem_of_getElem? (i := 25) (by decide +kernel), List.mem_of_getElem? (i := 430) (by decide +kernel), List.mem_of_getElem? (i := 431) (by decide +kernel)⟩
theorem lw_p11 : lw_okq (⟨"TabTrails$Tab", "goHome", "()V"⟩, 5) := ⟨⟨by decide +kernel, by decide +kernel⟩, List.mem_of_getElem? (i := 58) (by decide +kernel), List.mem_of_getElem? (i := 446) (by decide +kernel), List.mem_of_getElem? (i := 447) (by decide +kernel)⟩
theorem lw_p12 : lw_okq (⟨"TabTrails", "stands", "()Z"⟩, 9) := ⟨⟨by decide +kernel, by decide +kernel⟩, List.mem_of_getElem? (i := 15) (by decide +kernel), List.mem_of_getElem? (i := 478) (by decide +kernel), List.mem_of_getElem? (i := 479) (by decide +kernel)⟩
theorem lw_p13 : lw_okq (⟨"TabTrails$Tab", "forgetFirst", "()V"⟩, 5) := ⟨⟨by decide +kernel, by decide +kernel⟩, List.mem_of_getElem? (i := 58) (by decide +kernel), List.mem_of_getElem? (i := 518) (by decide +kernel), List.mem_of_getElem? (i := 519) (by decide +kernel)⟩
theorem lw_p14 : lw_okq (⟨"TabTrails$Desk", "addTab", "(I)LTabTrails$Tab;"⟩, 6) := ⟨⟨by decide +kernel, by decide +kernel⟩, List.mem_of_getElem? (i := 51) (by decide +kernel), List.mem_of_getElem? (i := 523) (by decide +kernel), List.mem_of_getElem? (i := 524) (by decide +kernel)⟩
theorem lw_p15 : lw_okq (⟨"TabTrails$Desk", "visit", "(I)V"⟩, 6) := ⟨⟨by decide +kernel, by decide +kernel⟩, List.mem_of_getElem? (i := 51) (by decide +kernel), List.mem_of_getElem? (i := 538) (by decide +kernel), List.mem_of_getElem? (i := 539) (by decide +kernel)⟩
def lw_privs_1 : List (MethodName × Nat) := [(⟨"TabTrails", "found", "(I)I"⟩, 9), (⟨"TabTrails$Reader", "advance", "()V"⟩, 11), (⟨"TabTrails$Reader", "byteAt", "(I)I"⟩, 11), (⟨"TabTrails$Reader", "readLaw", "()Z"⟩, 11), (⟨"TabTrails$Reader", "take", "(I)Z"⟩, 11), (⟨"TabTrails$Reader", "wrong", "(I)Z"⟩, 11), (⟨"TabTrails$Reader", "takeNumber", "(II)Z"⟩, 11), (⟨"TabTrails$Reader", "readPages", "()Z"⟩, 11), (⟨"TabTrails$Reader", "readLinks", "(I)Z"⟩, 11), (⟨"TabTrails$Reader", "readTabs", "()Z"⟩, 11), (⟨"TabTrails$Reader", "readTab", "()Z"⟩, 11), (⟨"TabTrails$Tab", "goHome", "()V"⟩, 5), (⟨"TabTrails", "stands", "()Z"⟩, 9), (⟨"TabTrails$Tab", "forgetFirst", "()V"⟩, 5), (⟨"TabTrails$Desk", "addTab", "(I)LTabTrails$Tab;"⟩, 6), (⟨"TabTrails$Desk", "visit", "(I)V"⟩, 6)]
theorem lw_r1 : ∀ q ∈ lw_privs_1, lw_okq q := List.forall_mem_cons.mpr ⟨lw_p0, List.forall_mem_cons.mpr ⟨lw_p1, List.forall_mem_cons.mpr ⟨lw_p2, List.forall_mem_cons.mpr ⟨lw_p3, List.forall_mem_cons.mpr ⟨lw_p4, List.forall_mem_cons.mpr ⟨lw_p5, List.forall_mem_cons.mpr ⟨lw_p6, List.forall_mem_cons.mpr ⟨lw_p7, List.forall_mem_cons.mpr ⟨lw_p8, List.forall_mem_cons.mpr ⟨lw_p9, List.forall_mem_cons.mpr ⟨lw_p10, List.forall_mem_cons.mpr ⟨lw_p11, List.forall_mem_cons.mpr ⟨lw_p12, List.forall_mem_cons.mpr ⟨lw_p13, List.forall_mem_cons.mpr ⟨lw_p14, List.forall_mem_cons.mpr ⟨lw_p15, fun _ h => absurd h List.not_mem_nil⟩⟩⟩⟩⟩⟩⟩⟩⟩⟩⟩⟩⟩⟩⟩⟩
theorem lw_p16 : lw_okq (⟨"TabTrails", "actDone", "(Z)Z"⟩, 9) := ⟨⟨by decide +kernel, by decide +kernel⟩, List.mem_of_getElem? (i := 15) (by decide +kernel), List.mem_of_getElem? (i := 542) (by decide +kernel), List.mem_of_getElem? (i := 543) (by decide +kernel)⟩
theorem lw_p17 : lw_okq (⟨"TabTrails$Desk", "keepClosed", "(LTabTrails$Tab;)V"⟩, 6) := ⟨⟨by decide +kernel, by decide +kernel⟩, List.mem_of_getElem? (i := 51) (by decide +kernel), List.mem_of_getElem? (i := 608) (by decide +kernel), List.mem_of_getElem? (i := 609) (by decide +kernel)⟩
theorem lw_p18 : lw_okq (⟨"TabTrails$Web", "withNeighbours", "(I)I"⟩, 3) := ⟨⟨by decide +kernel, by decide +kernel⟩, List.mem_of_getElem? (i := 31) (by decide +kernel), List.mem_of_getElem? (i := 662) (by decide +kernel), List.mem_of_getElem? (i := 663) (by decide +kernel)⟩
theorem lw_p19 : lw_okq (⟨"TabTrails$Foretelling", "pressedTo", "(LTabTrails$Web;IZII)Z"⟩, 9) := ⟨⟨by decide +kernel, by decide +kernel⟩, List.mem_of_getElem? (i := 184) (by decide +kernel), List.mem_of_getElem? (i := 687) (by decide +kernel), List.mem_of_getElem? (i := 688) (by decide +kernel)⟩
theorem lw_p20 : lw_okq (⟨"TabTrails$Foretelling", "beginAmounts", "(I)V"⟩, 9) := ⟨⟨by decide +kernel, by decide +kernel⟩, List.mem_of_getElem? (i := 184) (by decide +kernel), List.mem_of_getElem? (i := 710) (by decide +kernel), List.mem_of_getElem? (i := 711) (by decide +kernel)⟩
theorem lw_p21 : lw_okq (⟨"TabTrails$Foretelling", "spreadAmounts", "(LTabTrails$Web;Z)V"⟩, 9) := ⟨⟨by decide +kernel, by decide +kernel⟩, List.mem_of_getElem? (i := 184) (by decide +kernel), List.mem_of_getElem? (i := 714) (by decide +kernel), List.mem_of_getElem? (i := 715) (by decide +kernel)⟩
theorem lw_p22 : lw_okq (⟨"TabTrails$Foretelling", "guessNow", "(LTabTrails$Desk;)V"⟩, 9) := ⟨⟨by decide +kernel, by decide +kernel⟩, List.mem_of_getElem? (i := 184) (by decide +kernel), List.mem_of_getElem? (i := 748) (by decide +kernel), List.mem_of_getElem? (i := 749) (by decide +kernel)⟩
theorem lw_p23 : lw_okq (⟨"TabTrails$Foretelling", "bitIfFits", "(LTabTrails$Web;LTabTrails$Desk;I)I"⟩, 9) := ⟨⟨by decide +kernel, by decide +kernel⟩, List.mem_of_getElem? (i := 184) (by decide +kernel), List.mem_of_getElem? (i := 752) (by decide +kernel), List.mem_of_getElem? (i := 753) (by decide +kernel)⟩
theorem lw_p24 : lw_okq (⟨"TabTrails$Foretelling", "drawnAct", "(LTabTrails$Web;I)Z"⟩, 9) := ⟨⟨by decide +kernel, by decide +kernel⟩, List.mem_of_getElem? (i := 184) (by decide +kernel), List.mem_of_getElem? (i := 800) (by decide +kernel), List.mem_of_getElem? (i := 801) (by decide +kernel)⟩
theorem lw_p25 : lw_okq (⟨"TabTrails$Asking", "body", "(ILTabTrails$Tab;I)I"⟩, 3) := ⟨⟨by decide +kernel, by decide +kernel⟩, List.mem_of_getElem? (i := 227) (by decide +kernel), List.mem_of_getElem? (i := 850) (by decide +kernel), List.mem_of_getElem? (i := 851) (by decide +kernel)⟩
theorem lw_p26 : lw_okq (⟨"TabTrails$Asking", "leave", "(I)V"⟩, 3) := ⟨⟨by decide +kernel, by decide +kernel⟩, List.mem_of_getElem? (i := 227) (by decide +kernel), List.mem_of_getElem? (i := 854) (by decide +kernel), List.mem_of_getElem? (i := 855) (by decide +kernel)⟩
theorem lw_p27 : lw_okq (⟨"TabTrails", "rowsThere", "()I"⟩, 9) := ⟨⟨by decide +kernel, by decide +kernel⟩, List.mem_of_getElem? (i := 15) (by decide +kernel), List.mem_of_getElem? (i := 867) (by decide +kernel), List.mem_of_getElem? (i := 868) (by decide +kernel)⟩
theorem lw_p28 : lw_okq (⟨"TabTrailsModel", "found", "(I)I"⟩, 25) := ⟨⟨by decide +kernel, by decide +kernel⟩, List.mem_of_getElem? (i := 876) (by decide +kernel), List.mem_of_getElem? (i := 971) (by decide +kernel), List.mem_of_getElem? (i := 972) (by decide +kernel)⟩
theorem lw_p29 : lw_okq (⟨"TabTrailsModel", "well", "(I)I"⟩, 25) := ⟨⟨by decide +kernel, by decide +kernel⟩, List.mem_of_getElem? (i := 876) (by decide +kernel), List.mem_of_getElem? (i := 976) (by decide +kernel), List.mem_of_getElem? (i := 977) (by decide +kernel)⟩
theorem lw_p30 : lw_okq (⟨"TabTrailsModel", "isMissing", "(I)Z"⟩, 25) := ⟨⟨by decide +kernel, by decide +kernel⟩, List.mem_of_getElem? (i := 876) (by decide +kernel), List.mem_of_getElem? (i := 984) (by decide +kernel), List.mem_of_getElem? (i := 985) (by decide +kernel)⟩
theorem lw_p31 : lw_okq (⟨"TabTrailsModel", "isPart", "(III)Z"⟩, 25) := ⟨⟨by decide +kernel, by decide +kernel⟩, List.mem_of_getElem? (i := 876) (by decide +kernel), List.mem_of_getElem? (i := 995) (by decide +kernel), List.mem_of_getElem? (i := 996) (by decide +kernel)⟩
def lw_privs_2 : List (MethodName × Nat) := [(⟨"TabTrails", "actDone", "(Z)Z"⟩, 9), (⟨"TabTrails$Desk", "keepClosed", "(LTabTrails$Tab;)V"⟩, 6), (⟨"TabTrails$Web", "withNeighbours", "(I)I"⟩, 3), (⟨"TabTrails$Foretelling", "pressedTo", "(LTabTrails$Web;IZII)Z"⟩, 9), (⟨"TabTrails$Foretelling", "beginAmounts", "(I)V"⟩, 9), (⟨"TabTrails$Foretelling", "spreadAmounts", "(LTabTrails$Web;Z)V"⟩, 9), (⟨"TabTrails$Foretelling", "guessNow", "(LTabTrails$Desk;)V"⟩, 9), (⟨"TabTrails$Foretelling", "bitIfFits", "(LTabTrails$Web;LTabTrails$Desk;I)I"⟩, 9), (⟨"TabTrails$Foretelling", "drawnAct", "(LTabTrails$Web;I)Z"⟩, 9), (⟨"TabTrails$Asking", "body", "(ILTabTrails$Tab;I)I"⟩, 3), (⟨"TabTrails$Asking", "leave", "(I)V"⟩, 3), (⟨"TabTrails", "rowsThere", "()I"⟩, 9), (⟨"TabTrailsModel", "found", "(I)I"⟩, 25), (⟨"TabTrailsModel", "well", "(I)I"⟩, 25), (⟨"TabTrailsModel", "isMissing", "(I)Z"⟩, 25), (⟨"TabTrailsModel", "isPart", "(III)Z"⟩, 25)]
theorem lw_r2 : ∀ q ∈ lw_privs_2, lw_okq q := List.forall_mem_cons.mpr ⟨lw_p16, List.forall_mem_cons.mpr ⟨lw_p17, List.forall_mem_cons.mpr ⟨lw_p18, List.forall_mem_cons.mpr ⟨lw_p19, List.forall_mem_cons.mpr ⟨lw_p20, List.forall_mem_cons.mpr ⟨lw_p21, List.forall_mem_cons.mpr ⟨lw_p22, List.forall_mem_cons.mpr ⟨lw_p23, List.forall_mem_cons.mpr ⟨lw_p24, List.forall_mem_cons.mpr ⟨lw_p25, List.forall_mem_cons.mpr ⟨lw_p26, List.forall_mem_cons.mpr ⟨lw_p27, List.forall_mem_cons.mpr ⟨lw_p28, List.forall_mem_cons.mpr ⟨lw_p29, List.forall_mem_cons.mpr ⟨lw_p30, List.forall_mem_cons.mpr ⟨lw_p31, fun _ h => absurd h List.not_mem_nil⟩⟩⟩⟩⟩⟩⟩⟩⟩⟩⟩⟩⟩⟩⟩⟩
theorem lw_p32 : lw_okq (⟨"TabTrailsModel", "advances", "()V"⟩, 25) := ⟨⟨by decide +kernel, by decide +kernel⟩, List.mem_of_getElem? (i := 876) (by decide +kernel), List.mem_of_getElem? (i := 1012) (by decide +kernel), List.mem_of_getElem? (i := 1013) (by decide +kernel)⟩
theorem lw_p33 : lw_okq (⟨"TabTrailsModel", "byteAt", "(I)I"⟩, 25) := ⟨⟨by decide +kernel, by decide +kernel⟩, List.mem_of_getElem? (i := 876) (by decide +kernel), List.mem_of_getElem? (i := 1016) (by decide +kernel), List.mem_of_getElem? (i := 1017) (by decide +kernel)⟩
theorem lw_p34 : lw_okq (⟨"TabTrailsModel", "takes", "(ZI)I"⟩, 25) := ⟨⟨by decide +kernel, by decide +kernel⟩, List.mem_of_getElem? (i := 876) (by decide +kernel), List.mem_of_getElem? (i := 1020) (by decide +kernel), List.mem_of_getElem? (i := 1021) (by decide +kernel)⟩
theorem lw_p35 : lw_okq (⟨"TabTrailsModel", "isWell", "()Z"⟩, 25) := ⟨⟨by decide +kernel, by decide +kernel⟩, List.mem_of_getElem? (i := 876) (by decide +kernel), List.mem_of_getElem? (i := 1024) (by decide +kernel), List.mem_of_getElem? (i := 1025) (by decide +kernel)⟩
theorem lw_p36 : lw_okq (⟨"TabTrailsModel", "figure", "(II)I"⟩, 25) := ⟨⟨by decide +kernel, by decide +kernel⟩, List.mem_of_getElem? (i := 876) (by decide +kernel), List.mem_of_getElem? (i := 1028) (by decide +kernel), List.mem_of_getElem? (i := 1029) (by decide +kernel)⟩
theorem lw_p37 : lw_okq (⟨"TabTrailsModel", "readsPage", "(I)V"⟩, 25) := ⟨⟨by decide +kernel, by decide +kernel⟩, List.mem_of_getElem? (i := 876) (by decide +kernel), List.mem_of_getElem? (i := 1032) (by decide +kernel), List.mem_of_getElem? (i := 1033) (by decide +kernel)⟩
theorem lw_p38 : lw_okq (⟨"TabTrailsModel", "readsTab", "()V"⟩, 25) := ⟨⟨by decide +kernel, by decide +kernel⟩, List.mem_of_getElem? (i := 876) (by decide +kernel), List.mem_of_getElem? (i := 1039) (by decide +kernel), List.mem_of_getElem? (i := 1040) (by decide +kernel)⟩
theorem lw_p39 : lw_okq (⟨"TabTrailsModel", "must", "(Z)V"⟩, 25) := ⟨⟨by decide +kernel, by decide +kernel⟩, List.mem_of_getElem? (i := 876) (by decide +kernel), List.mem_of_getElem? (i := 1046) (by decide +kernel), List.mem_of_getElem? (i := 1047) (by decide +kernel)⟩
theorem lw_p40 : lw_okq (⟨"TabTrailsModel", "isWeb", "()Z"⟩, 25) := ⟨⟨by decide +kernel, by decide +kernel⟩, List.mem_of_getElem? (i := 876) (by decide +kernel), List.mem_of_getElem? (i := 1062) (by decide +kernel), List.mem_of_getElem? (i := 1063) (by decide +kernel)⟩
theorem lw_p41 : lw_okq (⟨"TabTrailsModel", "notes", "()V"⟩, 25) := ⟨⟨by decide +kernel, by decide +kernel⟩, List.mem_of_getElem? (i := 876) (by decide +kernel), List.mem_of_getElem? (i := 1079) (by decide +kernel), List.mem_of_getElem? (i := 1080) (by decide +kernel)⟩
theorem lw_p42 : lw_okq (⟨"TabTrailsModel", "turned", "(I)I"⟩, 25) := ⟨⟨by decide +kernel, by decide +kernel⟩, List.mem_of_getElem? (i := 876) (by decide +kernel), List.mem_of_getElem? (i := 1102) (by decide +kernel), List.mem_of_getElem? (i := 1103) (by decide +kernel)⟩
theorem lw_p43 : lw_okq (⟨"TabTrailsModel", "isTab", "(I)Z"⟩, 25) := ⟨⟨by decide +kernel, by decide +kernel⟩, List.mem_of_getElem? (i := 876) (by decide +kernel), List.mem_of_getElem? (i := 1120) (by decide +kernel), List.mem_of_getElem? (i := 1121) (by decide +kernel)⟩
theorem lw_p44 : lw_okq (⟨"TabTrailsModel", "isPage", "(I)Z"⟩, 25) := ⟨⟨by decide +kernel, by decide +kernel⟩, List.mem_of_getElem? (i := 876) (by decide +kernel), List.mem_of_getElem? (i := 1128) (by decide +kernel), List.mem_of_getElem? (i := 1129) (by decide +kernel)⟩
theorem lw_p45 : lw_okq (⟨"TabTrailsModel", "measures", "(I)V"⟩, 25) := ⟨⟨by decide +kernel, by decide +kernel⟩, List.mem_of_getElem? (i := 876) (by decide +kernel), List.mem_of_getElem? (i := 1170) (by decide +kernel), List.mem_of_getElem? (i := 1171) (by decide +kernel)⟩
theorem lw_p46 : lw_okq (⟨"TabTrailsModel", "isShown", "(III)Z"⟩, 25) := ⟨⟨by decide +kernel, by decide +kernel⟩, List.mem_of_getElem? (i := 876) (by decide +kernel), List.mem_of_getElem? (i := 1182) (by decide +kernel), List.mem_of_getElem? (i := 1183) (by decide +kernel)⟩
theorem lw_p47 : lw_okq (⟨"TabTrailsModel", "weighs", "(IZ)V"⟩, 25) := ⟨⟨by decide +kernel, by decide +kernel⟩, List.mem_of_getElem? (i := 876) (by decide +kernel), List.mem_of_getElem? (i := 1190) (by decide +kernel), List.mem_of_getElem? (i := 1191) (by decide +kernel)⟩
def lw_privs_3 : List (MethodName × Nat) := [(⟨"TabTrailsModel", "advances", "()V"⟩, 25), (⟨"TabTrailsModel", "byteAt", "(I)I"⟩, 25), (⟨"TabTrailsModel", "takes", "(ZI)I"⟩, 25), (⟨"TabTrailsModel", "isWell", "()Z"⟩, 25), (⟨"TabTrailsModel", "figure", "(II)I"⟩, 25), (⟨"TabTrailsModel", "readsPage", "(I)V"⟩, 25), (⟨"TabTrailsModel", "readsTab", "()V"⟩, 25), (⟨"TabTrailsModel", "must", "(Z)V"⟩, 25), (⟨"TabTrailsModel", "isWeb", "()Z"⟩, 25), (⟨"TabTrailsModel", "notes", "()V"⟩, 25), (⟨"TabTrailsModel", "turned", "(I)I"⟩, 25), (⟨"TabTrailsModel", "isTab", "(I)Z"⟩, 25), (⟨"TabTrailsModel", "isPage", "(I)Z"⟩, 25), (⟨"TabTrailsModel", "measures", "(I)V"⟩, 25), (⟨"TabTrailsModel", "isShown", "(III)Z"⟩, 25), (⟨"TabTrailsModel", "weighs", "(IZ)V"⟩, 25)]
theorem lw_r3 : ∀ q ∈ lw_privs_3, lw_okq q := List.forall_mem_cons.mpr ⟨lw_p32, List.forall_mem_cons.mpr ⟨lw_p33, List.forall_mem_cons.mpr ⟨lw_p34, List.forall_mem_cons.mpr ⟨lw_p35, List.forall_mem_cons.mpr ⟨lw_p36, List.forall_mem_cons.mpr ⟨lw_p37, List.forall_mem_cons.mpr ⟨lw_p38, List.forall_mem_cons.mpr ⟨lw_p39, List.forall_mem_cons.mpr ⟨lw_p40, List.forall_mem_cons.mpr ⟨lw_p41, List.forall_mem_cons.mpr ⟨lw_p42, List.forall_mem_cons.mpr ⟨lw_p43, List.forall_mem_cons.mpr ⟨lw_p44, List.forall_mem_cons.mpr ⟨lw_p45, List.forall_mem_cons.mpr ⟨lw_p46, List.forall_mem_cons.mpr ⟨lw_p47, fun _ h => absurd h List.not_mem_nil⟩⟩⟩⟩⟩⟩⟩⟩⟩⟩⟩⟩⟩⟩⟩⟩
theorem lw_p48 : lw_okq (⟨"TabTrailsModel", "isSeen", "(IIII)Z"⟩, 25) := ⟨⟨by decide +kernel, by decide +kernel⟩, List.mem_of_getElem? (i := 876) (by decide +kernel), List.mem_of_getElem? (i := 1205) (by decide +kernel), List.mem_of_getElem? (i := 1206) (by decide +kernel)⟩
theorem lw_p49 : lw_okq (⟨"TabTrailsModel", "steps", "(J)Z"⟩, 25) := ⟨⟨by decide +kernel, by decide +kernel⟩, List.mem_of_getElem? (i := 876) (by decide +kernel), List.mem_of_getElem? (i := 1220) (by decide +kernel), List.mem_of_getElem? (i := 1221) (by decide +kernel)⟩
theorem lw_p50 : lw_okq (⟨"TabTrailsModel", "kindIn", "(I)I"⟩, 25) := ⟨⟨by decide +kernel, by decide +kernel⟩, List.mem_of_getElem? (i := 876) (by decide +kernel), List.mem_of_getElem? (i := 1237) (by decide +kernel), List.mem_of_getElem? (i := 1238) (by decide +kernel)⟩
theorem lw_p51 : lw_okq (⟨"TabTrailsModel", "guestSize", "(I)I"⟩, 25) := ⟨⟨by decide +kernel, by decide +kernel⟩, List.mem_of_getElem? (i := 876) (by decide +kernel), List.mem_of_getElem? (i := 1249) (by decide +kernel), List.mem_of_getElem? (i := 1250) (by decide +kernel)⟩
theorem lw_p52 : lw_okq (⟨"TabTrailsModel", "begins", "(I)V"⟩, 25) := ⟨⟨by decide +kernel, by decide +kernel⟩, List.mem_of_getElem? (i := 876) (by decide +kernel), List.mem_of_getElem? (i := 1253) (by decide +kernel), List.mem_of_getElem? (i := 1254) (by decide +kernel)⟩
theorem lw_p53 : lw_okq (⟨"TabTrailsModel", "plainSize", "(I)I"⟩, 25) := ⟨⟨by decide +kernel, by decide +kernel⟩, List.mem_of_getElem? (i := 876) (by decide +kernel), List.mem_of_getElem? (i := 1257) (by decide +kernel), List.mem_of_getElem? (i := 1258) (by decide +kernel)⟩
theorem lw_p54 : lw_okq (⟨"TabTrailsModel", "plainMark", "(I)I"⟩, 25) := ⟨⟨by decide +kernel, by decide +kernel⟩, List.mem_of_getElem? (i := 876) (by decide +kernel), List.mem_of_getElem? (i := 1261) (by decide +kernel), List.mem_of_getElem? (i := 1262) (by decide +kernel)⟩
theorem lw_p55 : lw_okq (⟨"TabTrailsModel", "guestMark", "(I)I"⟩, 25) := ⟨⟨by decide +kernel, by decide +kernel⟩, List.mem_of_getElem? (i := 876) (by decide +kernel), List.mem_of_getElem? (i := 1265) (by decide +kernel), List.mem_of_getElem? (i := 1266) (by decide +kernel)⟩
def lw_privs_4 : List (MethodName × Nat) := [(⟨"TabTrailsModel", "isSeen", "(IIII)Z"⟩, 25), (⟨"TabTrailsModel", "steps", "(J)Z"⟩, 25), (⟨"TabTrailsModel", "kindIn", "(I)I"⟩, 25), (⟨"TabTrailsModel", "guestSize", "(I)I"⟩, 25), (⟨"TabTrailsModel", "begins", "(I)V"⟩, 25), (⟨"TabTrailsModel", "plainSize", "(I)I"⟩, 25), (⟨"TabTrailsModel", "plainMark", "(I)I"⟩, 25), (⟨"TabTrailsModel", "guestMark", "(I)I"⟩, 25)]
theorem lw_r4 : ∀ q ∈ lw_privs_4, lw_okq q := List.forall_mem_cons.mpr ⟨lw_p48, List.forall_mem_cons.mpr ⟨lw_p49, List.forall_mem_cons.mpr ⟨lw_p50, List.forall_mem_cons.mpr ⟨lw_p51, List.forall_mem_cons.mpr ⟨lw_p52, List.forall_mem_cons.mpr ⟨lw_p53, List.forall_mem_cons.mpr ⟨lw_p54, List.forall_mem_cons.mpr ⟨lw_p55, fun _ h => absurd h List.not_mem_nil⟩⟩⟩⟩⟩⟩⟩⟩
def lw_privs : List (MethodName × Nat) := lw_privs_1 ++ (lw_privs_2 ++ (lw_privs_3 ++ (lw_privs_4)))
def lw_tbl : List Cond := k2_sels lw_privs ++ tables_1
theorem lw_privs_ok : ∀ q ∈ lw_privs, lw_okq q := by
  show ∀ q ∈ lw_privs_1 ++ (lw_privs_2 ++ (lw_privs_3 ++ (lw_privs_4))), lw_okq q
  exact List.forall_mem_append.mpr ⟨lw_r1, List.forall_mem_append.mpr ⟨lw_r2, List.forall_mem_append.mpr ⟨lw_r3, lw_r4⟩⟩⟩
end
section
def RX0 : String := "TabTrails$Asking"
def TX0 : u_T := fun k => match k with
  | 0 => ("TabTrails$Asking", "numbers", "[I", true)
  | 1 => ("TabTrails$Asking", "begun", "I", false)
  | _ => ("TabTrails$Asking", "place", "I", false)
def tyX0 : Nat → FieldType := fun k => match k with
  | 0 => .array .int
  | 1 => .int
  | _ => .int
abbrev wsX00 : List Cond := u_ws RX0 TX0 3
theorem nmX0 : ∀ a, a < 3 → ∀ b, b < 3 → a ≠ b → (TX0 a).2.1 ≠ (TX0 b).2.1 := by decide +kernel
theorem tyX0_ok : ∀ k, k < 3 → parseFieldDescriptor (TX0 k).2.2.1 = some (tyX0 k) := by decide +kernel
abbrev cX0_init : ByteArray := prog_2_method_1_code
def yX0_init : MethodName := ⟨RX0, "<init>", "()V"⟩
abbrev cX0_answer : ByteArray := prog_2_method_2_code
def yX0_answer : MethodName := ⟨RX0, "answer", "(LTabTrails$Tab;II)I"⟩
abbrev cX0_body : ByteArray := prog_2_method_3_code
def yX0_body : MethodName := ⟨RX0, "body", "(ILTabTrails$Tab;I)I"⟩
abbrev cX0_leave : ByteArray := prog_2_method_4_code
def yX0_leave : MethodName := ⟨RX0, "leave", "(I)V"⟩
abbrev cX0_sizeBody : ByteArray := prog_2_method_5_code
def yX0_sizeBody : MethodName := ⟨RX0, "sizeBody", "(LTabTrails$Tab;)I"⟩
abbrev cX0_markBody : ByteArray := prog_2_method_6_code
def yX0_markBody : MethodName := ⟨RX0, "markBody", "(LTabTrails$Tab;)I"⟩
def RX1 : String := "TabTrails$Desk"
def TX1 : u_T := fun k => match k with
  | 0 => ("TabTrails$Desk", "row", "[LTabTrails$Tab;", true)
  | 1 => ("TabTrails$Desk", "closed", "[LTabTrails$Tab;", true)
  | 2 => ("TabTrails$Desk", "visits", "[I", true)
  | 3 => ("TabTrails$Desk", "tabs", "I", false)
  | 4 => ("TabTrails$Desk", "now", "I", false)
  | _ => ("TabTrails$Desk", "closedTabs", "I", false)
def tyX1 : Nat → FieldType := fun k => match k with
  | 0 => .array (.object "TabTrails$Tab")
  | 1 => .array (.object "TabTrails$Tab")
  | 2 => .array .int
  | 3 => .int
  | 4 => .int
  | _ => .int
abbrev wsX10 : List Cond := u_ws RX1 TX1 6
theorem nmX1 : ∀ a, a < 6 → ∀ b, b < 6 → a ≠ b → (TX1 a).2.1 ≠ (TX1 b).2.1 := by decide +kernel
theorem tyX1_ok : ∀ k, k < 6 → parseFieldDescriptor (TX1 k).2.2.1 = some (tyX1 k) := by decide +kernel
abbrev cX1_init : ByteArray := prog_3_method_1_code
def yX1_init : MethodName := ⟨RX1, "<init>", "()V"⟩
abbrev cX1_become : ByteArray := prog_3_method_2_code
def yX1_become : MethodName := ⟨RX1, "become", "(LTabTrails$Desk;)V"⟩
abbrev cX1_clear : ByteArray := prog_3_method_3_code
def yX1_clear : MethodName := ⟨RX1, "clear", "()V"⟩
abbrev cX1_hasTab : ByteArray := prog_3_method_4_code
def yX1_hasTab : MethodName := ⟨RX1, "hasTab", "(I)Z"⟩
abbrev cX1_hasRoom : ByteArray := prog_3_method_5_code
def yX1_hasRoom : MethodName := ⟨RX1, "hasRoom", "()Z"⟩
abbrev cX1_shownPage : ByteArray := prog_3_method_6_code
def yX1_shownPage : MethodName := ⟨RX1, "shownPage", "()I"⟩
abbrev cX1_followLink : ByteArray := prog_3_method_7_code
def yX1_followLink : MethodName := ⟨RX1, "followLink", "(LTabTrails$Web;I)Z"⟩
abbrev cX1_stepBack : ByteArray := prog_3_method_8_code
def yX1_stepBack : MethodName := ⟨RX1, "stepBack", "()Z"⟩
abbrev cX1_stepForward : ByteArray := prog_3_method_9_code
def yX1_stepForward : MethodName := ⟨RX1, "stepForward", "()Z"⟩
abbrev cX1_selectTab : ByteArray := prog_3_method_10_code
def yX1_selectTab : MethodName := ⟨RX1, "selectTab", "(I)Z"⟩
abbrev cX1_openPage : ByteArray := prog_3_method_11_code
def yX1_openPage : MethodName := ⟨RX1, "openPage", "(I)Z"⟩
abbrev cX1_closeNow : ByteArray := prog_3_method_12_code
def yX1_closeNow : MethodName := ⟨RX1, "closeNow", "()Z"⟩
abbrev cX1_reopen : ByteArray := prog_3_method_13_code
def yX1_reopen : MethodName := ⟨RX1, "reopen", "()Z"⟩
abbrev cX1_allVisits : ByteArray := prog_3_method_14_code
def yX1_allVisits : MethodName := ⟨RX1, "allVisits", "()I"⟩
abbrev cX1_shareOf : ByteArray := prog_3_method_15_code
def yX1_shareOf : MethodName := ⟨RX1, "shareOf", "(II)I"⟩
abbrev cX1_addTab : ByteArray := prog_3_method_16_code
def yX1_addTab : MethodName := ⟨RX1, "addTab", "(I)LTabTrails$Tab;"⟩
abbrev cX1_keepClosed : ByteArray := prog_3_method_17_code
def yX1_keepClosed : MethodName := ⟨RX1, "keepClosed", "(LTabTrails$Tab;)V"⟩
abbrev cX1_visit : ByteArray := prog_3_method_18_code
def yX1_visit : MethodName := ⟨RX1, "visit", "(I)V"⟩
def RX2 : String := "TabTrails$Foretelling"
def TX2 : u_T := fun k => match k with
  | 0 => ("TabTrails$Foretelling", "presses", "[I", true)
  | 1 => ("TabTrails$Foretelling", "amounts", "[I", true)
  | 2 => ("TabTrails$Foretelling", "evening", "LTabTrails$Desk;", true)
  | 3 => ("TabTrails$Foretelling", "nextAmounts", "[I", true)
  | 4 => ("TabTrails$Foretelling", "steps", "[LTabTrails$Tab;", true)
  | 5 => ("TabTrails$Foretelling", "guess", "LTabTrails$Tab;", true)
  | 6 => ("TabTrails$Foretelling", "turned", "LTabTrails$Web;", true)
  | 7 => ("TabTrails$Foretelling", "told", "[I", true)
  | _ => ("TabTrails$Foretelling", "toldPages", "I", false)
def tyX2 : Nat → FieldType := fun k => match k with
  | 0 => .array .int
  | 1 => .array .int
  | 2 => .object "TabTrails$Desk"
  | 3 => .array .int
  | 4 => .array (.object "TabTrails$Tab")
  | 5 => .object "TabTrails$Tab"
  | 6 => .object "TabTrails$Web"
  | 7 => .array .int
  | _ => .int
abbrev wsX20 : List Cond := u_ws RX2 TX2 9
theorem nmX2 : ∀ a, a < 9 → ∀ b, b < 9 → a ≠ b → (TX2 a).2.1 ≠ (TX2 b).2.1 := by decide +kernel
theorem tyX2_ok : ∀ k, k < 9 → parseFieldDescriptor (TX2 k).2.2.1 = some (tyX2 k) := by decide +kernel
abbrev cX2_init : ByteArray := prog_4_method_1_code
def yX2_init : MethodName := ⟨RX2, "<init>", "()V"⟩
abbrev cX2_fewestPresses : ByteArray := prog_4_method_2_code
def yX2_fewestPresses : MethodName := ⟨RX2, "fewestPresses", "(LTabTrails$Web;LTabTrails$Desk;I)I"⟩
abbrev cX2_pressedTo : ByteArray := prog_4_method_3_code
def yX2_pressedTo : MethodName := ⟨RX2, "pressedTo", "(LTabTrails$Web;IZII)Z"⟩
abbrev cX2_countWays : ByteArray := prog_4_method_4_code
def yX2_countWays : MethodName := ⟨RX2, "countWays", "(LTabTrails$Web;II)V"⟩
abbrev cX2_weighWays : ByteArray := prog_4_method_5_code
def yX2_weighWays : MethodName := ⟨RX2, "weighWays", "(LTabTrails$Web;II)I"⟩
abbrev cX2_beginAmounts : ByteArray := prog_4_method_6_code
def yX2_beginAmounts : MethodName := ⟨RX2, "beginAmounts", "(I)V"⟩
abbrev cX2_spreadAmounts : ByteArray := prog_4_method_7_code
def yX2_spreadAmounts : MethodName := ⟨RX2, "spreadAmounts", "(LTabTrails$Web;Z)V"⟩
abbrev cX2_hear : ByteArray := prog_4_method_8_code
def yX2_hear : MethodName := ⟨RX2, "hear", "(LTabTrails$Row;II)V"⟩
abbrev cX2_fittingKinds : ByteArray := prog_4_method_9_code
def yX2_fittingKinds : MethodName := ⟨RX2, "fittingKinds", "(LTabTrails$Web;LTabTrails$Desk;)I"⟩
abbrev cX2_fittingStarts : ByteArray := prog_4_method_10_code
def yX2_fittingStarts : MethodName := ⟨RX2, "fittingStarts", "(LTabTrails$Web;LTabTrails$Desk;)I"⟩
abbrev cX2_fittingLeads : ByteArray := prog_4_method_11_code
def yX2_fittingLeads : MethodName := ⟨RX2, "fittingLeads", "(LTabTrails$Web;LTabTrails$Desk;I)I"⟩
abbrev cX2_fittingHomes : ByteArray := prog_4_method_12_code
def yX2_fittingHomes : MethodName := ⟨RX2, "fittingHomes", "(LTabTrails$Web;LTabTrails$Desk;)I"⟩
abbrev cX2_guessNow : ByteArray := prog_4_method_13_code
def yX2_guessNow : MethodName := ⟨RX2, "guessNow", "(LTabTrails$Desk;)V"⟩
abbrev cX2_bitIfFits : ByteArray := prog_4_method_14_code
def yX2_bitIfFits : MethodName := ⟨RX2, "bitIfFits", "(LTabTrails$Web;LTabTrails$Desk;I)I"⟩
abbrev cX2_spendEvening : ByteArray := prog_4_method_15_code
def yX2_spendEvening : MethodName := ⟨RX2, "spendEvening", "(LTabTrails$Web;LTabTrails$Desk;II)I"⟩
abbrev cX2_drawnAct : ByteArray := prog_4_method_16_code
def yX2_drawnAct : MethodName := ⟨RX2, "drawnAct", "(LTabTrails$Web;I)Z"⟩
def RX3 : String := "TabTrails$History"
def TX3 : u_T := fun k => match k with
  | 0 => ("TabTrails$History", "desks", "[LTabTrails$Desk;", true)
  | 1 => ("TabTrails$History", "next", "I", false)
  | _ => ("TabTrails$History", "acts", "I", false)
def tyX3 : Nat → FieldType := fun k => match k with
  | 0 => .array (.object "TabTrails$Desk")
  | 1 => .int
  | _ => .int
abbrev wsX30 : List Cond := u_ws RX3 TX3 3
theorem nmX3 : ∀ a, a < 3 → ∀ b, b < 3 → a ≠ b → (TX3 a).2.1 ≠ (TX3 b).2.1 := by decide +kernel
theorem tyX3_ok : ∀ k, k < 3 → parseFieldDescriptor (TX3 k).2.2.1 = some (tyX3 k) := by decide +kernel
abbrev cX3_init : ByteArray := prog_5_method_1_code
def yX3_init : MethodName := ⟨RX3, "<init>", "()V"⟩
abbrev cX3_forget : ByteArray := prog_5_method_2_code
def yX3_forget : MethodName := ⟨RX3, "forget", "()V"⟩
abbrev cX3_prepare : ByteArray := prog_5_method_3_code
def yX3_prepare : MethodName := ⟨RX3, "prepare", "(LTabTrails$Desk;)V"⟩
abbrev cX3_commit : ByteArray := prog_5_method_4_code
def yX3_commit : MethodName := ⟨RX3, "commit", "()V"⟩
abbrev cX3_takeBack : ByteArray := prog_5_method_5_code
def yX3_takeBack : MethodName := ⟨RX3, "takeBack", "(LTabTrails$Desk;)Z"⟩
def RX4 : String := "TabTrails$Image"
def TX4 : u_T := fun k => match k with
  | 0 => ("TabTrails$Image", "pages", "LTabTrails$Web;", true)
  | 1 => ("TabTrails$Image", "desk", "LTabTrails$Desk;", true)
  | _ => ("TabTrails$Image", "kept", "Z", false)
def tyX4 : Nat → FieldType := fun k => match k with
  | 0 => .object "TabTrails$Web"
  | 1 => .object "TabTrails$Desk"
  | _ => .boolean
abbrev wsX40 : List Cond := u_ws RX4 TX4 3
theorem nmX4 : ∀ a, a < 3 → ∀ b, b < 3 → a ≠ b → (TX4 a).2.1 ≠ (TX4 b).2.1 := by decide +kernel
theorem tyX4_ok : ∀ k, k < 3 → parseFieldDescriptor (TX4 k).2.2.1 = some (tyX4 k) := by decide +kernel
abbrev cX4_init : ByteArray := prog_6_method_1_code
def yX4_init : MethodName := ⟨RX4, "<init>", "()V"⟩
abbrev cX4_keep : ByteArray := prog_6_method_2_code
def yX4_keep : MethodName := ⟨RX4, "keep", "(LTabTrails$Web;LTabTrails$Desk;)V"⟩
def RX5 : String := "TabTrails$Reader"
def TX5 : u_T := fun k => match k with
  | 0 => ("TabTrails$Reader", "tape", "[I", true)
  | 1 => ("TabTrails$Reader", "pages", "LTabTrails$Web;", true)
  | 2 => ("TabTrails$Reader", "desk", "LTabTrails$Desk;", true)
  | 3 => ("TabTrails$Reader", "length", "I", false)
  | 4 => ("TabTrails$Reader", "faultNumber", "I", false)
  | 5 => ("TabTrails$Reader", "faultPlace", "I", false)
  | 6 => ("TabTrails$Reader", "start", "I", false)
  | 7 => ("TabTrails$Reader", "token", "I", false)
  | 8 => ("TabTrails$Reader", "value", "I", false)
  | 9 => ("TabTrails$Reader", "at", "I", false)
  | _ => ("TabTrails$Reader", "number", "I", false)
def tyX5 : Nat → FieldType := fun k => match k with
  | 0 => .array .int
  | 1 => .object "TabTrails$Web"
  | 2 => .object "TabTrails$Desk"
  | 3 => .int
  | 4 => .int
  | 5 => .int
  | 6 => .int
  | 7 => .int
  | 8 => .int
  | 9 => .int
  | _ => .int
abbrev wsX50 : List Cond := u_ws RX5 TX5 11
theorem nmX5 : ∀ a, a < 11 → ∀ b, b < 11 → a ≠ b → (TX5 a).2.1 ≠ (TX5 b).2.1 := by decide +kernel
theorem tyX5_ok : ∀ k, k < 11 → parseFieldDescriptor (TX5 k).2.2.1 = some (tyX5 k) := by decide +kernel
abbrev cX5_init : ByteArray := prog_7_method_1_code
def yX5_init : MethodName := ⟨RX5, "<init>", "()V"⟩
abbrev cX5_put : ByteArray := prog_7_method_2_code
def yX5_put : MethodName := ⟨RX5, "put", "(I)Z"⟩
abbrev cX5_readTape : ByteArray := prog_7_method_3_code
def yX5_readTape : MethodName := ⟨RX5, "readTape", "()Z"⟩
abbrev cX5_readLaw : ByteArray := prog_7_method_4_code
def yX5_readLaw : MethodName := ⟨RX5, "readLaw", "()Z"⟩
abbrev cX5_readPages : ByteArray := prog_7_method_5_code
def yX5_readPages : MethodName := ⟨RX5, "readPages", "()Z"⟩
abbrev cX5_readLinks : ByteArray := prog_7_method_6_code
def yX5_readLinks : MethodName := ⟨RX5, "readLinks", "(I)Z"⟩
abbrev cX5_readTabs : ByteArray := prog_7_method_7_code
def yX5_readTabs : MethodName := ⟨RX5, "readTabs", "()Z"⟩
abbrev cX5_readTab : ByteArray := prog_7_method_8_code
def yX5_readTab : MethodName := ⟨RX5, "readTab", "()Z"⟩
abbrev cX5_sortOf : ByteArray := prog_7_method_9_code
def yX5_sortOf : MethodName := ⟨RX5, "sortOf", "(I)I"⟩
abbrev cX5_take : ByteArray := prog_7_method_10_code
def yX5_take : MethodName := ⟨RX5, "take", "(I)Z"⟩
abbrev cX5_takeNumber : ByteArray := prog_7_method_11_code
def yX5_takeNumber : MethodName := ⟨RX5, "takeNumber", "(II)Z"⟩
abbrev cX5_wrong : ByteArray := prog_7_method_12_code
def yX5_wrong : MethodName := ⟨RX5, "wrong", "(I)Z"⟩
abbrev cX5_advance : ByteArray := prog_7_method_13_code
def yX5_advance : MethodName := ⟨RX5, "advance", "()V"⟩
abbrev cX5_byteAt : ByteArray := prog_7_method_14_code
def yX5_byteAt : MethodName := ⟨RX5, "byteAt", "(I)I"⟩
abbrev cX5_isFigure : ByteArray := prog_7_method_15_code
def yX5_isFigure : MethodName := ⟨RX5, "isFigure", "(I)Z"⟩
def RX6 : String := "TabTrails$Row"
def TX6 : u_T := fun k => match k with
  | 0 => ("TabTrails$Row", "items", "[I", true)
  | 1 => ("TabTrails$Row", "there", "Z", false)
  | 2 => ("TabTrails$Row", "lane", "I", false)
  | _ => ("TabTrails$Row", "size", "I", false)
def tyX6 : Nat → FieldType := fun k => match k with
  | 0 => .array .int
  | 1 => .boolean
  | 2 => .int
  | _ => .int
abbrev wsX60 : List Cond := u_ws RX6 TX6 4
theorem nmX6 : ∀ a, a < 4 → ∀ b, b < 4 → a ≠ b → (TX6 a).2.1 ≠ (TX6 b).2.1 := by decide +kernel
theorem tyX6_ok : ∀ k, k < 4 → parseFieldDescriptor (TX6 k).2.2.1 = some (tyX6 k) := by decide +kernel
abbrev cX6_init : ByteArray := prog_8_method_1_code
def yX6_init : MethodName := ⟨RX6, "<init>", "()V"⟩
abbrev cX6_make : ByteArray := prog_8_method_2_code
def yX6_make : MethodName := ⟨RX6, "make", "(II)V"⟩
abbrev cX6_hasPlaces : ByteArray := prog_8_method_3_code
def yX6_hasPlaces : MethodName := ⟨RX6, "hasPlaces", "(II)Z"⟩
abbrev cX6_put : ByteArray := prog_8_method_4_code
def yX6_put : MethodName := ⟨RX6, "put", "(II)I"⟩
def RX7 : String := "TabTrails$Tab"
def TX7 : u_T := fun k => match k with
  | 0 => ("TabTrails$Tab", "trail", "[I", true)
  | 1 => ("TabTrails$Tab", "sort", "I", false)
  | 2 => ("TabTrails$Tab", "home", "I", false)
  | 3 => ("TabTrails$Tab", "length", "I", false)
  | _ => ("TabTrails$Tab", "shown", "I", false)
def tyX7 : Nat → FieldType := fun k => match k with
  | 0 => .array .int
  | 1 => .int
  | 2 => .int
  | 3 => .int
  | _ => .int
abbrev wsX70 : List Cond := u_ws RX7 TX7 5
theorem nmX7 : ∀ a, a < 5 → ∀ b, b < 5 → a ≠ b → (TX7 a).2.1 ≠ (TX7 b).2.1 := by decide +kernel
theorem tyX7_ok : ∀ k, k < 5 → parseFieldDescriptor (TX7 k).2.2.1 = some (tyX7 k) := by decide +kernel
abbrev cX7_init : ByteArray := prog_9_method_1_code
def yX7_init : MethodName := ⟨RX7, "<init>", "()V"⟩
abbrev cX7_begin : ByteArray := prog_9_method_2_code
def yX7_begin : MethodName := ⟨RX7, "begin", "(II)V"⟩
abbrev cX7_become : ByteArray := prog_9_method_3_code
def yX7_become : MethodName := ⟨RX7, "become", "(LTabTrails$Tab;)V"⟩
abbrev cX7_isOf : ByteArray := prog_9_method_4_code
def yX7_isOf : MethodName := ⟨RX7, "isOf", "(I)Z"⟩
abbrev cX7_shownPage : ByteArray := prog_9_method_5_code
def yX7_shownPage : MethodName := ⟨RX7, "shownPage", "()I"⟩
abbrev cX7_showInstead : ByteArray := prog_9_method_6_code
def yX7_showInstead : MethodName := ⟨RX7, "showInstead", "(I)V"⟩
abbrev cX7_stepBack : ByteArray := prog_9_method_7_code
def yX7_stepBack : MethodName := ⟨RX7, "stepBack", "()Z"⟩
abbrev cX7_stepForward : ByteArray := prog_9_method_8_code
def yX7_stepForward : MethodName := ⟨RX7, "stepForward", "()Z"⟩
abbrev cX7_moveOn : ByteArray := prog_9_method_9_code
def yX7_moveOn : MethodName := ⟨RX7, "moveOn", "(I)V"⟩
abbrev cX7_press : ByteArray := prog_9_method_10_code
def yX7_press : MethodName := ⟨RX7, "press", "(LTabTrails$Web;IZ)Z"⟩
abbrev cX7_goHome : ByteArray := prog_9_method_11_code
def yX7_goHome : MethodName := ⟨RX7, "goHome", "()V"⟩
abbrev cX7_forgetFirst : ByteArray := prog_9_method_12_code
def yX7_forgetFirst : MethodName := ⟨RX7, "forgetFirst", "()V"⟩
def RX8 : String := "TabTrails$Web"
def TX8 : u_T := fun k => match k with
  | 0 => ("TabTrails$Web", "linkCounts", "[I", true)
  | 1 => ("TabTrails$Web", "targets", "[I", true)
  | _ => ("TabTrails$Web", "size", "I", false)
def tyX8 : Nat → FieldType := fun k => match k with
  | 0 => .array .int
  | 1 => .array .int
  | _ => .int
abbrev wsX80 : List Cond := u_ws RX8 TX8 3
theorem nmX8 : ∀ a, a < 3 → ∀ b, b < 3 → a ≠ b → (TX8 a).2.1 ≠ (TX8 b).2.1 := by decide +kernel
theorem tyX8_ok : ∀ k, k < 3 → parseFieldDescriptor (TX8 k).2.2.1 = some (tyX8 k) := by decide +kernel
abbrev cX8_init : ByteArray := prog_10_method_1_code
def yX8_init : MethodName := ⟨RX8, "<init>", "()V"⟩
abbrev cX8_become : ByteArray := prog_10_method_2_code
def yX8_become : MethodName := ⟨RX8, "become", "(LTabTrails$Web;)V"⟩
abbrev cX8_begin : ByteArray := prog_10_method_3_code
def yX8_begin : MethodName := ⟨RX8, "begin", "(I)V"⟩
abbrev cX8_hasPage : ByteArray := prog_10_method_4_code
def yX8_hasPage : MethodName := ⟨RX8, "hasPage", "(I)Z"⟩
abbrev cX8_linksOf : ByteArray := prog_10_method_5_code
def yX8_linksOf : MethodName := ⟨RX8, "linksOf", "(I)I"⟩
abbrev cX8_target : ByteArray := prog_10_method_6_code
def yX8_target : MethodName := ⟨RX8, "target", "(II)I"⟩
abbrev cX8_addLink : ByteArray := prog_10_method_7_code
def yX8_addLink : MethodName := ⟨RX8, "addLink", "(II)V"⟩
abbrev cX8_turnFirstLink : ByteArray := prog_10_method_8_code
def yX8_turnFirstLink : MethodName := ⟨RX8, "turnFirstLink", "(II)V"⟩
abbrev cX8_walkedTo : ByteArray := prog_10_method_9_code
def yX8_walkedTo : MethodName := ⟨RX8, "walkedTo", "(III)I"⟩
abbrev cX8_distance : ByteArray := prog_10_method_10_code
def yX8_distance : MethodName := ⟨RX8, "distance", "(II)I"⟩
abbrev cX8_circle : ByteArray := prog_10_method_11_code
def yX8_circle : MethodName := ⟨RX8, "circle", "(I)I"⟩
abbrev cX8_withNeighbours : ByteArray := prog_10_method_12_code
def yX8_withNeighbours : MethodName := ⟨RX8, "withNeighbours", "(I)I"⟩
def RX9 : String := "TabTrails"
def TX9 : u_T := fun k => match k with
  | 0 => ("TabTrails", "rows", "[LTabTrails$Row;", true)
  | 1 => ("TabTrails", "reader", "LTabTrails$Reader;", true)
  | 2 => ("TabTrails", "pages", "LTabTrails$Web;", true)
  | 3 => ("TabTrails", "desk", "LTabTrails$Desk;", true)
  | 4 => ("TabTrails", "history", "LTabTrails$History;", true)
  | 5 => ("TabTrails", "images", "[LTabTrails$Image;", true)
  | 6 => ("TabTrails", "foretelling", "LTabTrails$Foretelling;", true)
  | 7 => ("TabTrails", "asking", "LTabTrails$Asking;", true)
  | _ => ("TabTrails", "finding", "I", false)
def tyX9 : Nat → FieldType := fun k => match k with
  | 0 => .array (.object "TabTrails$Row")
  | 1 => .object "TabTrails$Reader"
  | 2 => .object "TabTrails$Web"
  | 3 => .object "TabTrails$Desk"
  | 4 => .object "TabTrails$History"
  | 5 => .array (.object "TabTrails$Image")
  | 6 => .object "TabTrails$Foretelling"
  | 7 => .object "TabTrails$Asking"
  | _ => .int
abbrev wsX90 : List Cond := u_ws RX9 TX9 9
theorem nmX9 : ∀ a, a < 9 → ∀ b, b < 9 → a ≠ b → (TX9 a).2.1 ≠ (TX9 b).2.1 := by decide +kernel
theorem tyX9_ok : ∀ k, k < 9 → parseFieldDescriptor (TX9 k).2.2.1 = some (tyX9 k) := by decide +kernel
abbrev cX9_init : ByteArray := prog_1_method_1_code
def yX9_init : MethodName := ⟨RX9, "<init>", "()V"⟩
abbrev cX9_row : ByteArray := prog_1_method_2_code
def yX9_row : MethodName := ⟨RX9, "row", "(III)I"⟩
abbrev cX9_set : ByteArray := prog_1_method_3_code
def yX9_set : MethodName := ⟨RX9, "set", "(III)I"⟩
abbrev cX9_copy : ByteArray := prog_1_method_4_code
def yX9_copy : MethodName := ⟨RX9, "copy", "(IIIII)I"⟩
abbrev cX9_drop : ByteArray := prog_1_method_5_code
def yX9_drop : MethodName := ⟨RX9, "drop", "(I)I"⟩
abbrev cX9_feed : ByteArray := prog_1_method_6_code
def yX9_feed : MethodName := ⟨RX9, "feed", "(I)I"⟩
abbrev cX9_web : ByteArray := prog_1_method_7_code
def yX9_web : MethodName := ⟨RX9, "web", "()I"⟩
abbrev cX9_fault : ByteArray := prog_1_method_8_code
def yX9_fault : MethodName := ⟨RX9, "fault", "()I"⟩
abbrev cX9_follow : ByteArray := prog_1_method_9_code
def yX9_follow : MethodName := ⟨RX9, "follow", "(I)I"⟩
abbrev cX9_back : ByteArray := prog_1_method_10_code
def yX9_back : MethodName := ⟨RX9, "back", "()I"⟩
abbrev cX9_forward : ByteArray := prog_1_method_11_code
def yX9_forward : MethodName := ⟨RX9, "forward", "()I"⟩
abbrev cX9_select : ByteArray := prog_1_method_12_code
def yX9_select : MethodName := ⟨RX9, "select", "(I)I"⟩
abbrev cX9_open : ByteArray := prog_1_method_13_code
def yX9_open : MethodName := ⟨RX9, "open", "(I)I"⟩
abbrev cX9_close : ByteArray := prog_1_method_14_code
def yX9_close : MethodName := ⟨RX9, "close", "()I"⟩
abbrev cX9_again : ByteArray := prog_1_method_15_code
def yX9_again : MethodName := ⟨RX9, "again", "()I"⟩
abbrev cX9_undo : ByteArray := prog_1_method_16_code
def yX9_undo : MethodName := ⟨RX9, "undo", "()I"⟩
abbrev cX9_tab : ByteArray := prog_1_method_17_code
def yX9_tab : MethodName := ⟨RX9, "tab", "(II)I"⟩
abbrev cX9_trail : ByteArray := prog_1_method_18_code
def yX9_trail : MethodName := ⟨RX9, "trail", "(II)I"⟩
abbrev cX9_page : ByteArray := prog_1_method_19_code
def yX9_page : MethodName := ⟨RX9, "page", "(II)I"⟩
abbrev cX9_walk : ByteArray := prog_1_method_20_code
def yX9_walk : MethodName := ⟨RX9, "walk", "(II)I"⟩
abbrev cX9_far : ByteArray := prog_1_method_21_code
def yX9_far : MethodName := ⟨RX9, "far", "(II)I"⟩
abbrev cX9_round : ByteArray := prog_1_method_22_code
def yX9_round : MethodName := ⟨RX9, "round", "(I)I"⟩
abbrev cX9_to : ByteArray := prog_1_method_23_code
def yX9_to : MethodName := ⟨RX9, "to", "(II)I"⟩
abbrev cX9_ways : ByteArray := prog_1_method_24_code
def yX9_ways : MethodName := ⟨RX9, "ways", "(II)I"⟩
abbrev cX9_share : ByteArray := prog_1_method_25_code
def yX9_share : MethodName := ⟨RX9, "share", "(II)I"⟩
abbrev cX9_fits : ByteArray := prog_1_method_26_code
def yX9_fits : MethodName := ⟨RX9, "fits", "(IIIII)I"⟩
abbrev cX9_chance : ByteArray := prog_1_method_27_code
def yX9_chance : MethodName := ⟨RX9, "chance", "(III)I"⟩
abbrev cX9_drawn : ByteArray := prog_1_method_28_code
def yX9_drawn : MethodName := ⟨RX9, "drawn", "(III)I"⟩
abbrev cX9_image : ByteArray := prog_1_method_29_code
def yX9_image : MethodName := ⟨RX9, "image", "(I)I"⟩
abbrev cX9_restore : ByteArray := prog_1_method_30_code
def yX9_restore : MethodName := ⟨RX9, "restore", "(I)I"⟩
abbrev cX9_kind : ByteArray := prog_1_method_31_code
def yX9_kind : MethodName := ⟨RX9, "kind", "(I)I"⟩
abbrev cX9_as : ByteArray := prog_1_method_32_code
def yX9_as : MethodName := ⟨RX9, "as", "(II)I"⟩
abbrev cX9_ask : ByteArray := prog_1_method_33_code
def yX9_ask : MethodName := ⟨RX9, "ask", "(II)I"⟩
abbrev cX9_trace : ByteArray := prog_1_method_34_code
def yX9_trace : MethodName := ⟨RX9, "trace", "(I)I"⟩
abbrev cX9_count : ByteArray := prog_1_method_35_code
def yX9_count : MethodName := ⟨RX9, "count", "(I)I"⟩
abbrev cX9_status : ByteArray := prog_1_method_36_code
def yX9_status : MethodName := ⟨RX9, "status", "()I"⟩
abbrev cX9_found : ByteArray := prog_1_method_37_code
def yX9_found : MethodName := ⟨RX9, "found", "(I)I"⟩
abbrev cX9_actDone : ByteArray := prog_1_method_38_code
def yX9_actDone : MethodName := ⟨RX9, "actDone", "(Z)Z"⟩
abbrev cX9_stands : ByteArray := prog_1_method_39_code
def yX9_stands : MethodName := ⟨RX9, "stands", "()Z"⟩
abbrev cX9_rowsThere : ByteArray := prog_1_method_40_code
def yX9_rowsThere : MethodName := ⟨RX9, "rowsThere", "()I"⟩
abbrev cX9_isRow : ByteArray := prog_1_method_41_code
def yX9_isRow : MethodName := ⟨RX9, "isRow", "(I)Z"⟩
abbrev cX9_isLinkNumber : ByteArray := prog_1_method_42_code
def yX9_isLinkNumber : MethodName := ⟨RX9, "isLinkNumber", "(I)Z"⟩
abbrev cX9_commonDivisor : ByteArray := prog_1_method_43_code
def yX9_commonDivisor : MethodName := ⟨RX9, "commonDivisor", "(II)I"⟩
def RX10 : String := "TabTrailsModel"
def TX10 : u_T := fun k => match k with
  | 0 => ("TabTrailsModel", "lane", "[I", true)
  | 1 => ("TabTrailsModel", "many", "[I", true)
  | 2 => ("TabTrailsModel", "items", "[I", true)
  | 3 => ("TabTrailsModel", "spare", "[I", true)
  | 4 => ("TabTrailsModel", "status", "I", false)
  | 5 => ("TabTrailsModel", "tape", "[I", true)
  | 6 => ("TabTrailsModel", "taped", "I", false)
  | 7 => ("TabTrailsModel", "faultKind", "I", false)
  | 8 => ("TabTrailsModel", "faultPlace", "I", false)
  | 9 => ("TabTrailsModel", "at", "I", false)
  | 10 => ("TabTrailsModel", "start", "I", false)
  | 11 => ("TabTrailsModel", "token", "I", false)
  | 12 => ("TabTrailsModel", "value", "I", false)
  | 13 => ("TabTrailsModel", "now", "[I", true)
  | 14 => ("TabTrailsModel", "draft", "[I", true)
  | 15 => ("TabTrailsModel", "tried", "[I", true)
  | 16 => ("TabTrailsModel", "past", "[I", true)
  | 17 => ("TabTrailsModel", "acts", "I", false)
  | 18 => ("TabTrailsModel", "images", "[I", true)
  | 19 => ("TabTrailsModel", "kept", "[Z", true)
  | 20 => ("TabTrailsModel", "some", "[I", true)
  | 21 => ("TabTrailsModel", "others", "[I", true)
  | 22 => ("TabTrailsModel", "line", "[I", true)
  | 23 => ("TabTrailsModel", "trace", "[I", true)
  | _ => ("TabTrailsModel", "traced", "I", false)
def tyX10 : Nat → FieldType := fun k => match k with
  | 0 => .array .int
  | 1 => .array .int
  | 2 => .array .int
  | 3 => .array .int
  | 4 => .int
  | 5 => .array .int
  | 6 => .int
  | 7 => .int
  | 8 => .int
  | 9 => .int
  | 10 => .int
  | 11 => .int
  | 12 => .int
  | 13 => .array .int
  | 14 => .array .int
  | 15 => .array .int
  | 16 => .array .int
  | 17 => .int
  | 18 => .array .int
  | 19 => .array .boolean
  | 20 => .array .int
  | 21 => .array .int
  | 22 => .array .int
  | 23 => .array .int
  | _ => .int
abbrev wsX100 : List Cond := u_ws RX10 TX10 25
theorem nmX10 : ∀ a, a < 25 → ∀ b, b < 25 → a ≠ b → (TX10 a).2.1 ≠ (TX10 b).2.1 := by decide +kernel
theorem tyX10_ok : ∀ k, k < 25 → parseFieldDescriptor (TX10 k).2.2.1 = some (tyX10 k) := by decide +kernel
abbrev cX10_init : ByteArray := prog_12_method_1_code
def yX10_init : MethodName := ⟨RX10, "<init>", "()V"⟩
abbrev cX10_in : ByteArray := prog_12_method_3_code
def yX10_in : MethodName := ⟨RX10, "in", "(III)Z"⟩
abbrev cX10_found : ByteArray := prog_12_method_5_code
def yX10_found : MethodName := ⟨RX10, "found", "(I)I"⟩
abbrev cX10_well : ByteArray := prog_12_method_6_code
def yX10_well : MethodName := ⟨RX10, "well", "(I)I"⟩
abbrev cX10_copies : ByteArray := prog_12_method_7_code
def yX10_copies : MethodName := ⟨RX10, "copies", "([II[II)V"⟩
abbrev cX10_isRow : ByteArray := prog_12_method_8_code
def yX10_isRow : MethodName := ⟨RX10, "isRow", "(I)Z"⟩
abbrev cX10_isMissing : ByteArray := prog_12_method_9_code
def yX10_isMissing : MethodName := ⟨RX10, "isMissing", "(I)Z"⟩
abbrev cX10_cut : ByteArray := prog_12_method_10_code
def yX10_cut : MethodName := ⟨RX10, "cut", "(II)I"⟩
abbrev cX10_row : ByteArray := prog_12_method_11_code
def yX10_row : MethodName := ⟨RX10, "row", "(III)I"⟩
abbrev cX10_set : ByteArray := prog_12_method_12_code
def yX10_set : MethodName := ⟨RX10, "set", "(III)I"⟩
abbrev cX10_isPart : ByteArray := prog_12_method_13_code
def yX10_isPart : MethodName := ⟨RX10, "isPart", "(III)Z"⟩
abbrev cX10_copy : ByteArray := prog_12_method_14_code
def yX10_copy : MethodName := ⟨RX10, "copy", "(IIIII)I"⟩
abbrev cX10_drop : ByteArray := prog_12_method_15_code
def yX10_drop : MethodName := ⟨RX10, "drop", "(I)I"⟩
abbrev cX10_feed : ByteArray := prog_12_method_16_code
def yX10_feed : MethodName := ⟨RX10, "feed", "(I)I"⟩
abbrev cX10_byteAt : ByteArray := prog_12_method_17_code
def yX10_byteAt : MethodName := ⟨RX10, "byteAt", "(I)I"⟩
abbrev cX10_advances : ByteArray := prog_12_method_18_code
def yX10_advances : MethodName := ⟨RX10, "advances", "()V"⟩
abbrev cX10_isWell : ByteArray := prog_12_method_19_code
def yX10_isWell : MethodName := ⟨RX10, "isWell", "()Z"⟩
abbrev cX10_takes : ByteArray := prog_12_method_20_code
def yX10_takes : MethodName := ⟨RX10, "takes", "(ZI)I"⟩
abbrev cX10_figure : ByteArray := prog_12_method_21_code
def yX10_figure : MethodName := ⟨RX10, "figure", "(II)I"⟩
abbrev cX10_kindOf : ByteArray := prog_12_method_22_code
def yX10_kindOf : MethodName := ⟨RX10, "kindOf", "(I)I"⟩
abbrev cX10_must : ByteArray := prog_12_method_23_code
def yX10_must : MethodName := ⟨RX10, "must", "(Z)V"⟩
abbrev cX10_readsPage : ByteArray := prog_12_method_24_code
def yX10_readsPage : MethodName := ⟨RX10, "readsPage", "(I)V"⟩
abbrev cX10_readsTab : ByteArray := prog_12_method_25_code
def yX10_readsTab : MethodName := ⟨RX10, "readsTab", "()V"⟩
abbrev cX10_web : ByteArray := prog_12_method_26_code
def yX10_web : MethodName := ⟨RX10, "web", "()I"⟩
abbrev cX10_fault : ByteArray := prog_12_method_27_code
def yX10_fault : MethodName := ⟨RX10, "fault", "()I"⟩
abbrev cX10_isWeb : ByteArray := prog_12_method_28_code
def yX10_isWeb : MethodName := ⟨RX10, "isWeb", "()Z"⟩
abbrev cX10_isPage : ByteArray := prog_12_method_29_code
def yX10_isPage : MethodName := ⟨RX10, "isPage", "(I)Z"⟩
abbrev cX10_isTab : ByteArray := prog_12_method_30_code
def yX10_isTab : MethodName := ⟨RX10, "isTab", "(I)Z"⟩
abbrev cX10_fresh : ByteArray := prog_12_method_31_code
def yX10_fresh : MethodName := ⟨RX10, "fresh", "([IIII)V"⟩
abbrev cX10_tabNow : ByteArray := prog_12_method_32_code
def yX10_tabNow : MethodName := ⟨RX10, "tabNow", "([I)I"⟩
abbrev cX10_shows : ByteArray := prog_12_method_33_code
def yX10_shows : MethodName := ⟨RX10, "shows", "([II)I"⟩
abbrev cX10_seen : ByteArray := prog_12_method_34_code
def yX10_seen : MethodName := ⟨RX10, "seen", "([I)I"⟩
abbrev cX10_moves : ByteArray := prog_12_method_35_code
def yX10_moves : MethodName := ⟨RX10, "moves", "([III)V"⟩
abbrev cX10_visits : ByteArray := prog_12_method_36_code
def yX10_visits : MethodName := ⟨RX10, "visits", "([I)V"⟩
abbrev cX10_mayFollow : ByteArray := prog_12_method_37_code
def yX10_mayFollow : MethodName := ⟨RX10, "mayFollow", "([II)Z"⟩
abbrev cX10_comes : ByteArray := prog_12_method_38_code
def yX10_comes : MethodName := ⟨RX10, "comes", "([II)V"⟩
abbrev cX10_inserts : ByteArray := prog_12_method_39_code
def yX10_inserts : MethodName := ⟨RX10, "inserts", "([III)V"⟩
abbrev cX10_follows : ByteArray := prog_12_method_40_code
def yX10_follows : MethodName := ⟨RX10, "follows", "([II)V"⟩
abbrev cX10_mayGo : ByteArray := prog_12_method_41_code
def yX10_mayGo : MethodName := ⟨RX10, "mayGo", "([II)Z"⟩
abbrev cX10_goes : ByteArray := prog_12_method_42_code
def yX10_goes : MethodName := ⟨RX10, "goes", "([II)V"⟩
abbrev cX10_opens : ByteArray := prog_12_method_43_code
def yX10_opens : MethodName := ⟨RX10, "opens", "([II)V"⟩
abbrev cX10_closes : ByteArray := prog_12_method_44_code
def yX10_closes : MethodName := ⟨RX10, "closes", "([I)V"⟩
abbrev cX10_notes : ByteArray := prog_12_method_45_code
def yX10_notes : MethodName := ⟨RX10, "notes", "()V"⟩
abbrev cX10_follow : ByteArray := prog_12_method_46_code
def yX10_follow : MethodName := ⟨RX10, "follow", "(I)I"⟩
abbrev cX10_turned : ByteArray := prog_12_method_47_code
def yX10_turned : MethodName := ⟨RX10, "turned", "(I)I"⟩
abbrev cX10_back : ByteArray := prog_12_method_48_code
def yX10_back : MethodName := ⟨RX10, "back", "()I"⟩
abbrev cX10_forward : ByteArray := prog_12_method_49_code
def yX10_forward : MethodName := ⟨RX10, "forward", "()I"⟩
abbrev cX10_select : ByteArray := prog_12_method_50_code
def yX10_select : MethodName := ⟨RX10, "select", "(I)I"⟩
abbrev cX10_open : ByteArray := prog_12_method_51_code
def yX10_open : MethodName := ⟨RX10, "open", "(I)I"⟩
abbrev cX10_close : ByteArray := prog_12_method_52_code
def yX10_close : MethodName := ⟨RX10, "close", "()I"⟩
abbrev cX10_again : ByteArray := prog_12_method_53_code
def yX10_again : MethodName := ⟨RX10, "again", "()I"⟩
abbrev cX10_undo : ByteArray := prog_12_method_54_code
def yX10_undo : MethodName := ⟨RX10, "undo", "()I"⟩
abbrev cX10_tab : ByteArray := prog_12_method_55_code
def yX10_tab : MethodName := ⟨RX10, "tab", "(II)I"⟩
abbrev cX10_trail : ByteArray := prog_12_method_56_code
def yX10_trail : MethodName := ⟨RX10, "trail", "(II)I"⟩
abbrev cX10_page : ByteArray := prog_12_method_57_code
def yX10_page : MethodName := ⟨RX10, "page", "(II)I"⟩
abbrev cX10_walk : ByteArray := prog_12_method_58_code
def yX10_walk : MethodName := ⟨RX10, "walk", "(II)I"⟩
abbrev cX10_measures : ByteArray := prog_12_method_59_code
def yX10_measures : MethodName := ⟨RX10, "measures", "(I)V"⟩
abbrev cX10_far : ByteArray := prog_12_method_60_code
def yX10_far : MethodName := ⟨RX10, "far", "(II)I"⟩
abbrev cX10_round : ByteArray := prog_12_method_61_code
def yX10_round : MethodName := ⟨RX10, "round", "(I)I"⟩
abbrev cX10_isShown : ByteArray := prog_12_method_62_code
def yX10_isShown : MethodName := ⟨RX10, "isShown", "(III)Z"⟩
abbrev cX10_to : ByteArray := prog_12_method_63_code
def yX10_to : MethodName := ⟨RX10, "to", "(II)I"⟩
abbrev cX10_ways : ByteArray := prog_12_method_64_code
def yX10_ways : MethodName := ⟨RX10, "ways", "(II)I"⟩
abbrev cX10_weighs : ByteArray := prog_12_method_65_code
def yX10_weighs : MethodName := ⟨RX10, "weighs", "(IZ)V"⟩
abbrev cX10_visitsOf : ByteArray := prog_12_method_66_code
def yX10_visitsOf : MethodName := ⟨RX10, "visitsOf", "([I)I"⟩
abbrev cX10_share : ByteArray := prog_12_method_67_code
def yX10_share : MethodName := ⟨RX10, "share", "(II)I"⟩
abbrev cX10_isSeen : ByteArray := prog_12_method_68_code
def yX10_isSeen : MethodName := ⟨RX10, "isSeen", "(IIII)Z"⟩
abbrev cX10_fits : ByteArray := prog_12_method_69_code
def yX10_fits : MethodName := ⟨RX10, "fits", "(IIIII)I"⟩
abbrev cX10_chance : ByteArray := prog_12_method_70_code
def yX10_chance : MethodName := ⟨RX10, "chance", "(III)I"⟩
abbrev cX10_steps : ByteArray := prog_12_method_71_code
def yX10_steps : MethodName := ⟨RX10, "steps", "(J)Z"⟩
abbrev cX10_drawn : ByteArray := prog_12_method_72_code
def yX10_drawn : MethodName := ⟨RX10, "drawn", "(III)I"⟩
abbrev cX10_image : ByteArray := prog_12_method_73_code
def yX10_image : MethodName := ⟨RX10, "image", "(I)I"⟩
abbrev cX10_restore : ByteArray := prog_12_method_74_code
def yX10_restore : MethodName := ⟨RX10, "restore", "(I)I"⟩
abbrev cX10_kindIn : ByteArray := prog_12_method_75_code
def yX10_kindIn : MethodName := ⟨RX10, "kindIn", "(I)I"⟩
abbrev cX10_kind : ByteArray := prog_12_method_76_code
def yX10_kind : MethodName := ⟨RX10, "kind", "(I)I"⟩
abbrev cX10_as : ByteArray := prog_12_method_77_code
def yX10_as : MethodName := ⟨RX10, "as", "(II)I"⟩
abbrev cX10_begins : ByteArray := prog_12_method_78_code
def yX10_begins : MethodName := ⟨RX10, "begins", "(I)V"⟩
abbrev cX10_plainMark : ByteArray := prog_12_method_79_code
def yX10_plainMark : MethodName := ⟨RX10, "plainMark", "(I)I"⟩
abbrev cX10_guestSize : ByteArray := prog_12_method_80_code
def yX10_guestSize : MethodName := ⟨RX10, "guestSize", "(I)I"⟩
abbrev cX10_plainSize : ByteArray := prog_12_method_81_code
def yX10_plainSize : MethodName := ⟨RX10, "plainSize", "(I)I"⟩
abbrev cX10_guestMark : ByteArray := prog_12_method_82_code
def yX10_guestMark : MethodName := ⟨RX10, "guestMark", "(I)I"⟩
abbrev cX10_ask : ByteArray := prog_12_method_83_code
def yX10_ask : MethodName := ⟨RX10, "ask", "(II)I"⟩
abbrev cX10_trace : ByteArray := prog_12_method_84_code
def yX10_trace : MethodName := ⟨RX10, "trace", "(I)I"⟩
abbrev cX10_count : ByteArray := prog_12_method_85_code
def yX10_count : MethodName := ⟨RX10, "count", "(I)I"⟩
abbrev cX10_status : ByteArray := prog_12_method_86_code
def yX10_status : MethodName := ⟨RX10, "status", "()I"⟩
def RL : String := "TabTrailsLaw"
abbrev cL_law : ByteArray := code
abbrev vwCl : List vw_C := [(RX0, TX0, 3), (RX1, TX1, 6), (RX2, TX2, 9), (RX3, TX3, 3), (RX4, TX4, 3), (RX5, TX5, 11), (RX6, TX6, 4), (RX7, TX7, 5), (RX8, TX8, 3), (RX9, TX9, 9), (RX10, TX10, 25)]
end
section
theorem dX0_init_0 : decode cX0_init 0 = .ok (.aload_n 0, 1) := by decide +kernel
theorem dX0_init_1 : decode cX0_init 1 = .ok (.invokespecial 1, 3) := by decide +kernel
theorem dX0_init_4 : decode cX0_init 4 = .ok (.aload_n 0, 1) := by decide +kernel
theorem dX0_init_5 : decode cX0_init 5 = .ok (.bipush 16, 2) := by decide +kernel
theorem dX0_init_7 : decode cX0_init 7 = .ok (.newarray .int, 2) := by decide +kernel
theorem dX0_init_9 : decode cX0_init 9 = .ok (.putfield 9, 3) := by decide +kernel
theorem dX0_init_12 : decode cX0_init 12 = .ok (.aload_n 0, 1) := by decide +kernel
theorem dX0_init_13 : decode cX0_init 13 = .ok (.iconst 0, 1) := by decide +kernel
theorem dX0_init_14 : decode cX0_init 14 = .ok (.putfield 13, 3) := by decide +kernel
theorem dX0_init_17 : decode cX0_init 17 = .ok (.aload_n 0, 1) := by decide +kernel
theorem dX0_init_18 : decode cX0_init 18 = .ok (.iconst 0, 1) := by decide +kernel
theorem dX0_init_19 : decode cX0_init 19 = .ok (.putfield 17, 3) := by decide +kernel
theorem dX0_init_22 : decode cX0_init 22 = .ok (.return_, 1) := by decide +kernel
theorem dX0_answer_0 : decode cX0_answer 0 = .ok (.aload_n 0, 1) := by decide +kernel
theorem dX0_answer_1 : decode cX0_answer 1 = .ok (.iconst 0, 1) := by decide +kernel
theorem dX0_answer_2 : decode cX0_answer 2 = .ok (.putfield 13, 3) := by decide +kernel
theorem dX0_answer_5 : decode cX0_answer 5 = .ok (.aload_n 0, 1) := by decide +kernel
theorem dX0_answer_6 : decode cX0_answer 6 = .ok (.iload_n 2, 1) := by decide +kernel
theorem dX0_answer_7 : decode cX0_answer 7 = .ok (.putfield 17, 3) := by decide +kernel
theorem dX0_answer_10 : decode cX0_answer 10 = .ok (.aload_n 0, 1) := by decide +kernel
theorem dX0_answer_11 : decode cX0_answer 11 = .ok (.iload_n 3, 1) := by decide +kernel
theorem dX0_answer_12 : decode cX0_answer 12 = .ok (.ifCond .ne 10, 3) := by decide +kernel
theorem dX0_answer_15 : decode cX0_answer 15 = .ok (.aload_n 1, 1) := by decide +kernel
theorem dX0_answer_16 : decode cX0_answer 16 = .ok (.invokestatic 20, 3) := by decide +kernel
theorem dX0_answer_19 : decode cX0_answer 19 = .ok (.goto 7, 3) := by decide +kernel
theorem dX0_answer_22 : decode cX0_answer 22 = .ok (.aload_n 1, 1) := by decide +kernel
theorem dX0_answer_23 : decode cX0_answer 23 = .ok (.invokestatic 24, 3) := by decide +kernel
theorem dX0_answer_26 : decode cX0_answer 26 = .ok (.aload_n 1, 1) := by decide +kernel
theorem dX0_answer_27 : decode cX0_answer 27 = .ok (.iconst 0, 1) := by decide +kernel
theorem dX0_answer_28 : decode cX0_answer 28 = .ok (.invokevirtual 27, 3) := by decide +kernel
theorem dX0_answer_31 : decode cX0_answer 31 = .ok (.ireturn, 1) := by decide +kernel
theorem dX0_body_0 : decode cX0_body 0 = .ok (.iload_n 3, 1) := by decide +kernel
theorem dX0_body_1 : decode cX0_body 1 = .ok (.bipush 16, 2) := by decide +kernel
theorem dX0_body_3 : decode cX0_body 3 = .ok (.if_icmp .lt 5, 3) := by decide +kernel
theorem dX0_body_6 : decode cX0_body 6 = .ok (.iconst 0, 1) := by decide +kernel
theorem dX0_body_7 : decode cX0_body 7 = .ok (.ireturn, 1) := by decide +kernel
theorem dX0_body_8 : decode cX0_body 8 = .ok (.aload_n 0, 1) := by decide +kernel
theorem dX0_body_9 : decode cX0_body 9 = .ok (.iload_n 1, 1) := by decide +kernel
theorem dX0_body_10 : decode cX0_body 10 = .ok (.invokevirtual 31, 3) := by decide +kernel
theorem dX0_body_13 : decode cX0_body 13 = .ok (.iload_n 3, 1) := by decide +kernel
theorem dX0_body_14 : decode cX0_body 14 = .ok (.iconst 1, 1) := by decide +kernel
theorem dX0_body_15 : decode cX0_body 15 = .ok (.iadd, 1) := by decide +kernel
theorem dX0_body_16 : decode cX0_body 16 = .ok (.istore 4, 2) := by decide +kernel
theorem dX0_body_18 : decode cX0_body 18 = .ok (.iload_n 1, 1) := by decide +kernel
theorem dX0_body_19 : decode cX0_body 19 = .ok (.tableswitch 204 10 24 #[73, 78, 100, 111, 124, 204, 204, 204, 204, 204, 136, 141, 156, 170, 192], 73) := by decide +kernel
theorem dX0_body_92 : decode cX0_body 92 = .ok (.aload_n 2, 1) := by decide +kernel
theorem dX0_body_93 : decode cX0_body 93 = .ok (.getfield 35, 3) := by decide +kernel
theorem dX0_body_96 : decode cX0_body 96 = .ok (.ireturn, 1) := by decide +kernel
theorem dX0_body_97 : decode cX0_body 97 = .ok (.aload_n 0, 1) := by decide +kernel
theorem dX0_body_98 : decode cX0_body 98 = .ok (.bipush 10, 2) := by decide +kernel
theorem dX0_body_100 : decode cX0_body 100 = .ok (.aload_n 2, 1) := by decide +kernel
theorem dX0_body_101 : decode cX0_body 101 = .ok (.iload 4, 2) := by decide +kernel
theorem dX0_body_103 : decode cX0_body 103 = .ok (.invokevirtual 27, 3) := by decide +kernel
theorem dX0_body_106 : decode cX0_body 106 = .ok (.aload_n 0, 1) := by decide +kernel
theorem dX0_body_107 : decode cX0_body 107 = .ok (.aload_n 2, 1) := by decide +kernel
theorem dX0_body_108 : decode cX0_body 108 = .ok (.invokestatic 24, 3) := by decide +kernel
theorem dX0_body_111 : decode cX0_body 111 = .ok (.aload_n 2, 1) := by decide +kernel
theorem dX0_body_112 : decode cX0_body 112 = .ok (.iload 4, 2) := by decide +kernel
theorem dX0_body_114 : decode cX0_body 114 = .ok (.invokevirtual 27, 3) := by decide +kernel
theorem dX0_body_117 : decode cX0_body 117 = .ok (.iadd, 1) := by decide +kernel
theorem dX0_body_118 : decode cX0_body 118 = .ok (.ireturn, 1) := by decide +kernel
theorem dX0_body_119 : decode cX0_body 119 = .ok (.aload_n 0, 1) := by decide +kernel
theorem dX0_body_120 : decode cX0_body 120 = .ok (.bipush 11, 2) := by decide +kernel
theorem dX0_body_122 : decode cX0_body 122 = .ok (.aload_n 2, 1) := by decide +kernel
theorem dX0_body_123 : decode cX0_body 123 = .ok (.iload 4, 2) := by decide +kernel
theorem dX0_body_125 : decode cX0_body 125 = .ok (.invokevirtual 27, 3) := by decide +kernel
theorem dX0_body_128 : decode cX0_body 128 = .ok (.ineg, 1) := by decide +kernel
theorem dX0_body_129 : decode cX0_body 129 = .ok (.ireturn, 1) := by decide +kernel
theorem dX0_body_130 : decode cX0_body 130 = .ok (.aload_n 0, 1) := by decide +kernel
theorem dX0_body_131 : decode cX0_body 131 = .ok (.bipush 10, 2) := by decide +kernel
theorem dX0_body_133 : decode cX0_body 133 = .ok (.aload_n 2, 1) := by decide +kernel
theorem dX0_body_134 : decode cX0_body 134 = .ok (.iload 4, 2) := by decide +kernel
theorem dX0_body_136 : decode cX0_body 136 = .ok (.invokevirtual 27, 3) := by decide +kernel
theorem dX0_body_139 : decode cX0_body 139 = .ok (.bipush 100, 2) := by decide +kernel
theorem dX0_body_141 : decode cX0_body 141 = .ok (.isub, 1) := by decide +kernel
theorem dX0_body_142 : decode cX0_body 142 = .ok (.ireturn, 1) := by decide +kernel
theorem dX0_body_143 : decode cX0_body 143 = .ok (.iconst 2, 1) := by decide +kernel
theorem dX0_body_144 : decode cX0_body 144 = .ok (.aload_n 0, 1) := by decide +kernel
theorem dX0_body_145 : decode cX0_body 145 = .ok (.bipush 13, 2) := by decide +kernel
theorem dX0_body_147 : decode cX0_body 147 = .ok (.aload_n 2, 1) := by decide +kernel
theorem dX0_body_148 : decode cX0_body 148 = .ok (.iload 4, 2) := by decide +kernel
theorem dX0_body_150 : decode cX0_body 150 = .ok (.invokevirtual 27, 3) := by decide +kernel
theorem dX0_body_153 : decode cX0_body 153 = .ok (.imul, 1) := by decide +kernel
theorem dX0_body_154 : decode cX0_body 154 = .ok (.ireturn, 1) := by decide +kernel
theorem dX0_body_155 : decode cX0_body 155 = .ok (.aload_n 0, 1) := by decide +kernel
theorem dX0_body_156 : decode cX0_body 156 = .ok (.getfield 17, 3) := by decide +kernel
theorem dX0_body_159 : decode cX0_body 159 = .ok (.ireturn, 1) := by decide +kernel
theorem dX0_body_160 : decode cX0_body 160 = .ok (.aload_n 0, 1) := by decide +kernel
theorem dX0_body_161 : decode cX0_body 161 = .ok (.bipush 20, 2) := by decide +kernel
theorem dX0_body_163 : decode cX0_body 163 = .ok (.aload_n 2, 1) := by decide +kernel
theorem dX0_body_164 : decode cX0_body 164 = .ok (.iload 4, 2) := by decide +kernel
theorem dX0_body_166 : decode cX0_body 166 = .ok (.invokevirtual 27, 3) := by decide +kernel
theorem dX0_body_169 : decode cX0_body 169 = .ok (.aload_n 2, 1) := by decide +kernel
theorem dX0_body_170 : decode cX0_body 170 = .ok (.invokevirtual 40, 3) := by decide +kernel
theorem dX0_body_173 : decode cX0_body 173 = .ok (.iadd, 1) := by decide +kernel
theorem dX0_body_174 : decode cX0_body 174 = .ok (.ireturn, 1) := by decide +kernel
theorem dX0_body_175 : decode cX0_body 175 = .ok (.aload_n 0, 1) := by decide +kernel
theorem dX0_body_176 : decode cX0_body 176 = .ok (.bipush 21, 2) := by decide +kernel
theorem dX0_body_178 : decode cX0_body 178 = .ok (.aload_n 2, 1) := by decide +kernel
theorem dX0_body_179 : decode cX0_body 179 = .ok (.iload 4, 2) := by decide +kernel
theorem dX0_body_181 : decode cX0_body 181 = .ok (.invokevirtual 27, 3) := by decide +kernel
theorem dX0_body_184 : decode cX0_body 184 = .ok (.sipush 1000, 3) := by decide +kernel
theorem dX0_body_187 : decode cX0_body 187 = .ok (.isub, 1) := by decide +kernel
theorem dX0_body_188 : decode cX0_body 188 = .ok (.ireturn, 1) := by decide +kernel
theorem dX0_body_189 : decode cX0_body 189 = .ok (.aload_n 0, 1) := by decide +kernel
theorem dX0_body_190 : decode cX0_body 190 = .ok (.bipush 20, 2) := by decide +kernel
theorem dX0_body_192 : decode cX0_body 192 = .ok (.aload_n 2, 1) := by decide +kernel
theorem dX0_body_193 : decode cX0_body 193 = .ok (.iload 4, 2) := by decide +kernel
theorem dX0_body_195 : decode cX0_body 195 = .ok (.invokevirtual 27, 3) := by decide +kernel
theorem dX0_body_198 : decode cX0_body 198 = .ok (.aload_n 0, 1) := by decide +kernel
theorem dX0_body_199 : decode cX0_body 199 = .ok (.aload_n 2, 1) := by decide +kernel
theorem dX0_body_200 : decode cX0_body 200 = .ok (.invokestatic 20, 3) := by decide +kernel
theorem dX0_body_203 : decode cX0_body 203 = .ok (.aload_n 2, 1) := by decide +kernel
theorem dX0_body_204 : decode cX0_body 204 = .ok (.iload 4, 2) := by decide +kernel
theorem dX0_body_206 : decode cX0_body 206 = .ok (.invokevirtual 27, 3) := by decide +kernel
theorem dX0_body_209 : decode cX0_body 209 = .ok (.isub, 1) := by decide +kernel
theorem dX0_body_210 : decode cX0_body 210 = .ok (.ireturn, 1) := by decide +kernel
theorem dX0_body_211 : decode cX0_body 211 = .ok (.iconst 2, 1) := by decide +kernel
theorem dX0_body_212 : decode cX0_body 212 = .ok (.aload_n 0, 1) := by decide +kernel
theorem dX0_body_213 : decode cX0_body 213 = .ok (.bipush 21, 2) := by decide +kernel
theorem dX0_body_215 : decode cX0_body 215 = .ok (.aload_n 2, 1) := by decide +kernel
theorem dX0_body_216 : decode cX0_body 216 = .ok (.iload 4, 2) := by decide +kernel
theorem dX0_body_218 : decode cX0_body 218 = .ok (.invokevirtual 27, 3) := by decide +kernel
theorem dX0_body_221 : decode cX0_body 221 = .ok (.imul, 1) := by decide +kernel
theorem dX0_body_222 : decode cX0_body 222 = .ok (.ireturn, 1) := by decide +kernel
theorem dX0_body_223 : decode cX0_body 223 = .ok (.iconst 0, 1) := by decide +kernel
theorem dX0_body_224 : decode cX0_body 224 = .ok (.ireturn, 1) := by decide +kernel
theorem dX0_leave_0 : decode cX0_leave 0 = .ok (.aload_n 0, 1) := by decide +kernel
theorem dX0_leave_1 : decode cX0_leave 1 = .ok (.getfield 13, 3) := by decide +kernel
theorem dX0_leave_4 : decode cX0_leave 4 = .ok (.ifCond .lt 32, 3) := by decide +kernel
theorem dX0_leave_7 : decode cX0_leave 7 = .ok (.aload_n 0, 1) := by decide +kernel
theorem dX0_leave_8 : decode cX0_leave 8 = .ok (.getfield 13, 3) := by decide +kernel
theorem dX0_leave_11 : decode cX0_leave 11 = .ok (.bipush 16, 2) := by decide +kernel
theorem dX0_leave_13 : decode cX0_leave 13 = .ok (.if_icmp .ge 23, 3) := by decide +kernel
theorem dX0_leave_16 : decode cX0_leave 16 = .ok (.aload_n 0, 1) := by decide +kernel
theorem dX0_leave_17 : decode cX0_leave 17 = .ok (.getfield 9, 3) := by decide +kernel
theorem dX0_leave_20 : decode cX0_leave 20 = .ok (.aload_n 0, 1) := by decide +kernel
theorem dX0_leave_21 : decode cX0_leave 21 = .ok (.getfield 13, 3) := by decide +kernel
theorem dX0_leave_24 : decode cX0_leave 24 = .ok (.iload_n 1, 1) := by decide +kernel
theorem dX0_leave_25 : decode cX0_leave 25 = .ok (.iastore, 1) := by decide +kernel
theorem dX0_leave_26 : decode cX0_leave 26 = .ok (.aload_n 0, 1) := by decide +kernel
theorem dX0_leave_27 : decode cX0_leave 27 = .ok (.dup, 1) := by decide +kernel
theorem dX0_leave_28 : decode cX0_leave 28 = .ok (.getfield 13, 3) := by decide +kernel
theorem dX0_leave_31 : decode cX0_leave 31 = .ok (.iconst 1, 1) := by decide +kernel
theorem dX0_leave_32 : decode cX0_leave 32 = .ok (.iadd, 1) := by decide +kernel
theorem dX0_leave_33 : decode cX0_leave 33 = .ok (.putfield 13, 3) := by decide +kernel
theorem dX0_leave_36 : decode cX0_leave 36 = .ok (.return_, 1) := by decide +kernel
theorem dX0_sizeBody_0 : decode cX0_sizeBody 0 = .ok (.aload_n 0, 1) := by decide +kernel
theorem dX0_sizeBody_1 : decode cX0_sizeBody 1 = .ok (.getfield 44, 3) := by decide +kernel
theorem dX0_sizeBody_4 : decode cX0_sizeBody 4 = .ok (.ifCond .lt 25, 3) := by decide +kernel
theorem dX0_sizeBody_7 : decode cX0_sizeBody 7 = .ok (.aload_n 0, 1) := by decide +kernel
theorem dX0_sizeBody_8 : decode cX0_sizeBody 8 = .ok (.getfield 44, 3) := by decide +kernel
theorem dX0_sizeBody_11 : decode cX0_sizeBody 11 = .ok (.getstatic 47, 3) := by decide +kernel
theorem dX0_sizeBody_14 : decode cX0_sizeBody 14 = .ok (.arraylength, 1) := by decide +kernel
theorem dX0_sizeBody_15 : decode cX0_sizeBody 15 = .ok (.if_icmp .ge 14, 3) := by decide +kernel
theorem dX0_sizeBody_18 : decode cX0_sizeBody 18 = .ok (.getstatic 47, 3) := by decide +kernel
theorem dX0_sizeBody_21 : decode cX0_sizeBody 21 = .ok (.aload_n 0, 1) := by decide +kernel
theorem dX0_sizeBody_22 : decode cX0_sizeBody 22 = .ok (.getfield 44, 3) := by decide +kernel
theorem dX0_sizeBody_25 : decode cX0_sizeBody 25 = .ok (.iaload, 1) := by decide +kernel
theorem dX0_sizeBody_26 : decode cX0_sizeBody 26 = .ok (.goto 5, 3) := by decide +kernel
theorem dX0_sizeBody_29 : decode cX0_sizeBody 29 = .ok (.bipush 10, 2) := by decide +kernel
theorem dX0_sizeBody_31 : decode cX0_sizeBody 31 = .ok (.ireturn, 1) := by decide +kernel
theorem dX0_markBody_0 : decode cX0_markBody 0 = .ok (.aload_n 0, 1) := by decide +kernel
theorem dX0_markBody_1 : decode cX0_markBody 1 = .ok (.getfield 44, 3) := by decide +kernel
theorem dX0_markBody_4 : decode cX0_markBody 4 = .ok (.ifCond .lt 25, 3) := by decide +kernel
theorem dX0_markBody_7 : decode cX0_markBody 7 = .ok (.aload_n 0, 1) := by decide +kernel
theorem dX0_markBody_8 : decode cX0_markBody 8 = .ok (.getfield 44, 3) := by decide +kernel
theorem dX0_markBody_11 : decode cX0_markBody 11 = .ok (.getstatic 50, 3) := by decide +kernel
theorem dX0_markBody_14 : decode cX0_markBody 14 = .ok (.arraylength, 1) := by decide +kernel
theorem dX0_markBody_15 : decode cX0_markBody 15 = .ok (.if_icmp .ge 14, 3) := by decide +kernel
theorem dX0_markBody_18 : decode cX0_markBody 18 = .ok (.getstatic 50, 3) := by decide +kernel
theorem dX0_markBody_21 : decode cX0_markBody 21 = .ok (.aload_n 0, 1) := by decide +kernel
theorem dX0_markBody_22 : decode cX0_markBody 22 = .ok (.getfield 44, 3) := by decide +kernel
theorem dX0_markBody_25 : decode cX0_markBody 25 = .ok (.iaload, 1) := by decide +kernel
theorem dX0_markBody_26 : decode cX0_markBody 26 = .ok (.goto 5, 3) := by decide +kernel
theorem dX0_markBody_29 : decode cX0_markBody 29 = .ok (.bipush 20, 2) := by decide +kernel
theorem dX0_markBody_31 : decode cX0_markBody 31 = .ok (.ireturn, 1) := by decide +kernel
theorem dX1_init_0 : decode cX1_init 0 = .ok (.aload_n 0, 1) := by decide +kernel
theorem dX1_init_1 : decode cX1_init 1 = .ok (.invokespecial 3, 3) := by decide +kernel
theorem dX1_init_4 : decode cX1_init 4 = .ok (.aload_n 0, 1) := by decide +kernel
theorem dX1_init_5 : decode cX1_init 5 = .ok (.iconst 5, 1) := by decide +kernel
theorem dX1_init_6 : decode cX1_init 6 = .ok (.anewarray 9, 3) := by decide +kernel
theorem dX1_init_9 : decode cX1_init 9 = .ok (.putfield 11, 3) := by decide +kernel
theorem dX1_init_12 : decode cX1_init 12 = .ok (.aload_n 0, 1) := by decide +kernel
theorem dX1_init_13 : decode cX1_init 13 = .ok (.iconst 3, 1) := by decide +kernel
theorem dX1_init_14 : decode cX1_init 14 = .ok (.anewarray 9, 3) := by decide +kernel
theorem dX1_init_17 : decode cX1_init 17 = .ok (.putfield 17, 3) := by decide +kernel
theorem dX1_init_20 : decode cX1_init 20 = .ok (.aload_n 0, 1) := by decide +kernel
theorem dX1_init_21 : decode cX1_init 21 = .ok (.bipush 8, 2) := by decide +kernel
theorem dX1_init_23 : decode cX1_init 23 = .ok (.newarray .int, 2) := by decide +kernel
theorem dX1_init_25 : decode cX1_init 25 = .ok (.putfield 20, 3) := by decide +kernel
theorem dX1_init_28 : decode cX1_init 28 = .ok (.aload_n 0, 1) := by decide +kernel
theorem dX1_init_29 : decode cX1_init 29 = .ok (.iconst 0, 1) := by decide +kernel
theorem dX1_init_30 : decode cX1_init 30 = .ok (.putfield 24, 3) := by decide +kernel
theorem dX1_init_33 : decode cX1_init 33 = .ok (.aload_n 0, 1) := by decide +kernel
theorem dX1_init_34 : decode cX1_init 34 = .ok (.iconst 0, 1) := by decide +kernel
theorem dX1_init_35 : decode cX1_init 35 = .ok (.putfield 28, 3) := by decide +kernel
theorem dX1_init_38 : decode cX1_init 38 = .ok (.aload_n 0, 1) := by decide +kernel
theorem dX1_init_39 : decode cX1_init 39 = .ok (.iconst 0, 1) := by decide +kernel
theorem dX1_init_40 : decode cX1_init 40 = .ok (.putfield 31, 3) := by decide +kernel
theorem dX1_init_43 : decode cX1_init 43 = .ok (.iconst 0, 1) := by decide +kernel
theorem dX1_init_44 : decode cX1_init 44 = .ok (.istore_n 1, 1) := by decide +kernel
theorem dX1_init_45 : decode cX1_init 45 = .ok (.iload_n 1, 1) := by decide +kernel
theorem dX1_init_46 : decode cX1_init 46 = .ok (.aload_n 0, 1) := by decide +kernel
theorem dX1_init_47 : decode cX1_init 47 = .ok (.getfield 11, 3) := by decide +kernel
theorem dX1_init_50 : decode cX1_init 50 = .ok (.arraylength, 1) := by decide +kernel
theorem dX1_init_51 : decode cX1_init 51 = .ok (.if_icmp .ge 22, 3) := by decide +kernel
theorem dX1_init_54 : decode cX1_init 54 = .ok (.aload_n 0, 1) := by decide +kernel
theorem dX1_init_55 : decode cX1_init 55 = .ok (.getfield 11, 3) := by decide +kernel
theorem dX1_init_58 : decode cX1_init 58 = .ok (.iload_n 1, 1) := by decide +kernel
theorem dX1_init_59 : decode cX1_init 59 = .ok (.new 9, 3) := by decide +kernel
theorem dX1_init_62 : decode cX1_init 62 = .ok (.dup, 1) := by decide +kernel
theorem dX1_init_63 : decode cX1_init 63 = .ok (.invokespecial 34, 3) := by decide +kernel
theorem dX1_init_66 : decode cX1_init 66 = .ok (.aastore, 1) := by decide +kernel
theorem dX1_init_67 : decode cX1_init 67 = .ok (.iinc 1 1, 3) := by decide +kernel
theorem dX1_init_70 : decode cX1_init 70 = .ok (.goto (-25), 3) := by decide +kernel
theorem dX1_init_73 : decode cX1_init 73 = .ok (.iconst 0, 1) := by decide +kernel
theorem dX1_init_74 : decode cX1_init 74 = .ok (.istore_n 1, 1) := by decide +kernel
theorem dX1_init_75 : decode cX1_init 75 = .ok (.iload_n 1, 1) := by decide +kernel
theorem dX1_init_76 : decode cX1_init 76 = .ok (.aload_n 0, 1) := by decide +kernel
theorem dX1_init_77 : decode cX1_init 77 = .ok (.getfield 17, 3) := by decide +kernel
theorem dX1_init_80 : decode cX1_init 80 = .ok (.arraylength, 1) := by decide +kernel
theorem dX1_init_81 : decode cX1_init 81 = .ok (.if_icmp .ge 22, 3) := by decide +kernel
theorem dX1_init_84 : decode cX1_init 84 = .ok (.aload_n 0, 1) := by decide +kernel
theorem dX1_init_85 : decode cX1_init 85 = .ok (.getfield 17, 3) := by decide +kernel
theorem dX1_init_88 : decode cX1_init 88 = .ok (.iload_n 1, 1) := by decide +kernel
theorem dX1_init_89 : decode cX1_init 89 = .ok (.new 9, 3) := by decide +kernel
theorem dX1_init_92 : decode cX1_init 92 = .ok (.dup, 1) := by decide +kernel
theorem dX1_init_93 : decode cX1_init 93 = .ok (.invokespecial 34, 3) := by decide +kernel
theorem dX1_init_96 : decode cX1_init 96 = .ok (.aastore, 1) := by decide +kernel
theorem dX1_init_97 : decode cX1_init 97 = .ok (.iinc 1 1, 3) := by decide +kernel
theorem dX1_init_100 : decode cX1_init 100 = .ok (.goto (-25), 3) := by decide +kernel
theorem dX1_init_103 : decode cX1_init 103 = .ok (.return_, 1) := by decide +kernel
theorem dX1_become_0 : decode cX1_become 0 = .ok (.aload_n 0, 1) := by decide +kernel
theorem dX1_become_1 : decode cX1_become 1 = .ok (.aload_n 1, 1) := by decide +kernel
theorem dX1_become_2 : decode cX1_become 2 = .ok (.getfield 24, 3) := by decide +kernel
theorem dX1_become_5 : decode cX1_become 5 = .ok (.putfield 24, 3) := by decide +kernel
theorem dX1_become_8 : decode cX1_become 8 = .ok (.aload_n 0, 1) := by decide +kernel
theorem dX1_become_9 : decode cX1_become 9 = .ok (.aload_n 1, 1) := by decide +kernel
theorem dX1_become_10 : decode cX1_become 10 = .ok (.getfield 28, 3) := by decide +kernel
theorem dX1_become_13 : decode cX1_become 13 = .ok (.putfield 28, 3) := by decide +kernel
theorem dX1_become_16 : decode cX1_become 16 = .ok (.aload_n 0, 1) := by decide +kernel
theorem dX1_become_17 : decode cX1_become 17 = .ok (.aload_n 1, 1) := by decide +kernel
theorem dX1_become_18 : decode cX1_become 18 = .ok (.getfield 31, 3) := by decide +kernel
theorem dX1_become_21 : decode cX1_become 21 = .ok (.putfield 31, 3) := by decide +kernel
theorem dX1_become_24 : decode cX1_become 24 = .ok (.iconst 0, 1) := by decide +kernel
theorem dX1_become_25 : decode cX1_become 25 = .ok (.istore_n 2, 1) := by decide +kernel
theorem dX1_become_26 : decode cX1_become 26 = .ok (.iload_n 2, 1) := by decide +kernel
theorem dX1_become_27 : decode cX1_become 27 = .ok (.aload_n 0, 1) := by decide +kernel
theorem dX1_become_28 : decode cX1_become 28 = .ok (.getfield 24, 3) := by decide +kernel
theorem dX1_become_31 : decode cX1_become 31 = .ok (.if_icmp .ge 29, 3) := by decide +kernel
theorem dX1_become_34 : decode cX1_become 34 = .ok (.iload_n 2, 1) := by decide +kernel
theorem dX1_become_35 : decode cX1_become 35 = .ok (.iconst 5, 1) := by decide +kernel
theorem dX1_become_36 : decode cX1_become 36 = .ok (.if_icmp .ge 24, 3) := by decide +kernel
theorem dX1_become_39 : decode cX1_become 39 = .ok (.aload_n 0, 1) := by decide +kernel
theorem dX1_become_40 : decode cX1_become 40 = .ok (.getfield 11, 3) := by decide +kernel
theorem dX1_become_43 : decode cX1_become 43 = .ok (.iload_n 2, 1) := by decide +kernel
theorem dX1_become_44 : decode cX1_become 44 = .ok (.aaload, 1) := by decide +kernel
theorem dX1_become_45 : decode cX1_become 45 = .ok (.aload_n 1, 1) := by decide +kernel
theorem dX1_become_46 : decode cX1_become 46 = .ok (.getfield 11, 3) := by decide +kernel
theorem dX1_become_49 : decode cX1_become 49 = .ok (.iload_n 2, 1) := by decide +kernel
theorem dX1_become_50 : decode cX1_become 50 = .ok (.aaload, 1) := by decide +kernel
theorem dX1_become_51 : decode cX1_become 51 = .ok (.invokevirtual 35, 3) := by decide +kernel
theorem dX1_become_54 : decode cX1_become 54 = .ok (.iinc 2 1, 3) := by decide +kernel
theorem dX1_become_57 : decode cX1_become 57 = .ok (.goto (-31), 3) := by decide +kernel
theorem dX1_become_60 : decode cX1_become 60 = .ok (.iconst 0, 1) := by decide +kernel
theorem dX1_become_61 : decode cX1_become 61 = .ok (.istore_n 2, 1) := by decide +kernel
theorem dX1_become_62 : decode cX1_become 62 = .ok (.iload_n 2, 1) := by decide +kernel
theorem dX1_become_63 : decode cX1_become 63 = .ok (.aload_n 0, 1) := by decide +kernel
theorem dX1_become_64 : decode cX1_become 64 = .ok (.getfield 31, 3) := by decide +kernel
theorem dX1_become_67 : decode cX1_become 67 = .ok (.if_icmp .ge 29, 3) := by decide +kernel
theorem dX1_become_70 : decode cX1_become 70 = .ok (.iload_n 2, 1) := by decide +kernel
theorem dX1_become_71 : decode cX1_become 71 = .ok (.iconst 3, 1) := by decide +kernel
theorem dX1_become_72 : decode cX1_become 72 = .ok (.if_icmp .ge 24, 3) := by decide +kernel
theorem dX1_become_75 : decode cX1_become 75 = .ok (.aload_n 0, 1) := by decide +kernel
theorem dX1_become_76 : decode cX1_become 76 = .ok (.getfield 17, 3) := by decide +kernel
theorem dX1_become_79 : decode cX1_become 79 = .ok (.iload_n 2, 1) := by decide +kernel
theorem dX1_become_80 : decode cX1_become 80 = .ok (.aaload, 1) := by decide +kernel
theorem dX1_become_81 : decode cX1_become 81 = .ok (.aload_n 1, 1) := by decide +kernel
theorem dX1_become_82 : decode cX1_become 82 = .ok (.getfield 17, 3) := by decide +kernel
theorem dX1_become_85 : decode cX1_become 85 = .ok (.iload_n 2, 1) := by decide +kernel
theorem dX1_become_86 : decode cX1_become 86 = .ok (.aaload, 1) := by decide +kernel
theorem dX1_become_87 : decode cX1_become 87 = .ok (.invokevirtual 35, 3) := by decide +kernel
theorem dX1_become_90 : decode cX1_become 90 = .ok (.iinc 2 1, 3) := by decide +kernel
theorem dX1_become_93 : decode cX1_become 93 = .ok (.goto (-31), 3) := by decide +kernel
theorem dX1_become_96 : decode cX1_become 96 = .ok (.aload_n 1, 1) := by decide +kernel
theorem dX1_become_97 : decode cX1_become 97 = .ok (.getfield 20, 3) := by decide +kernel
theorem dX1_become_100 : decode cX1_become 100 = .ok (.iconst 0, 1) := by decide +kernel
theorem dX1_become_101 : decode cX1_become 101 = .ok (.aload_n 0, 1) := by decide +kernel
theorem dX1_become_102 : decode cX1_become 102 = .ok (.getfield 20, 3) := by decide +kernel
theorem dX1_become_105 : decode cX1_become 105 = .ok (.iconst 0, 1) := by decide +kernel
theorem dX1_become_106 : decode cX1_become 106 = .ok (.bipush 8, 2) := by decide +kernel
theorem dX1_become_108 : decode cX1_become 108 = .ok (.invokestatic 39, 3) := by decide +kernel
theorem dX1_become_111 : decode cX1_become 111 = .ok (.return_, 1) := by decide +kernel
theorem dX1_clear_0 : decode cX1_clear 0 = .ok (.aload_n 0, 1) := by decide +kernel
theorem dX1_clear_1 : decode cX1_clear 1 = .ok (.iconst 0, 1) := by decide +kernel
theorem dX1_clear_2 : decode cX1_clear 2 = .ok (.putfield 24, 3) := by decide +kernel
theorem dX1_clear_5 : decode cX1_clear 5 = .ok (.aload_n 0, 1) := by decide +kernel
theorem dX1_clear_6 : decode cX1_clear 6 = .ok (.iconst 0, 1) := by decide +kernel
theorem dX1_clear_7 : decode cX1_clear 7 = .ok (.putfield 28, 3) := by decide +kernel
theorem dX1_clear_10 : decode cX1_clear 10 = .ok (.aload_n 0, 1) := by decide +kernel
theorem dX1_clear_11 : decode cX1_clear 11 = .ok (.iconst 0, 1) := by decide +kernel
theorem dX1_clear_12 : decode cX1_clear 12 = .ok (.putfield 31, 3) := by decide +kernel
theorem dX1_clear_15 : decode cX1_clear 15 = .ok (.iconst 0, 1) := by decide +kernel
theorem dX1_clear_16 : decode cX1_clear 16 = .ok (.istore_n 1, 1) := by decide +kernel
theorem dX1_clear_17 : decode cX1_clear 17 = .ok (.iload_n 1, 1) := by decide +kernel
theorem dX1_clear_18 : decode cX1_clear 18 = .ok (.bipush 8, 2) := by decide +kernel
theorem dX1_clear_20 : decode cX1_clear 20 = .ok (.if_icmp .ge 16, 3) := by decide +kernel
theorem dX1_clear_23 : decode cX1_clear 23 = .ok (.aload_n 0, 1) := by decide +kernel
theorem dX1_clear_24 : decode cX1_clear 24 = .ok (.getfield 20, 3) := by decide +kernel
theorem dX1_clear_27 : decode cX1_clear 27 = .ok (.iload_n 1, 1) := by decide +kernel
theorem dX1_clear_28 : decode cX1_clear 28 = .ok (.iconst 0, 1) := by decide +kernel
theorem dX1_clear_29 : decode cX1_clear 29 = .ok (.iastore, 1) := by decide +kernel
theorem dX1_clear_30 : decode cX1_clear 30 = .ok (.iinc 1 1, 3) := by decide +kernel
theorem dX1_clear_33 : decode cX1_clear 33 = .ok (.goto (-16), 3) := by decide +kernel
theorem dX1_clear_36 : decode cX1_clear 36 = .ok (.return_, 1) := by decide +kernel
theorem dX1_hasTab_0 : decode cX1_hasTab 0 = .ok (.iload_n 1, 1) := by decide +kernel
theorem dX1_hasTab_1 : decode cX1_hasTab 1 = .ok (.ifCond .lt 20, 3) := by decide +kernel
theorem dX1_hasTab_4 : decode cX1_hasTab 4 = .ok (.iload_n 1, 1) := by decide +kernel
theorem dX1_hasTab_5 : decode cX1_hasTab 5 = .ok (.aload_n 0, 1) := by decide +kernel
theorem dX1_hasTab_6 : decode cX1_hasTab 6 = .ok (.getfield 24, 3) := by decide +kernel
theorem dX1_hasTab_9 : decode cX1_hasTab 9 = .ok (.if_icmp .ge 12, 3) := by decide +kernel
theorem dX1_hasTab_12 : decode cX1_hasTab 12 = .ok (.iload_n 1, 1) := by decide +kernel
theorem dX1_hasTab_13 : decode cX1_hasTab 13 = .ok (.iconst 5, 1) := by decide +kernel
theorem dX1_hasTab_14 : decode cX1_hasTab 14 = .ok (.if_icmp .ge 7, 3) := by decide +kernel
theorem dX1_hasTab_17 : decode cX1_hasTab 17 = .ok (.iconst 1, 1) := by decide +kernel
theorem dX1_hasTab_18 : decode cX1_hasTab 18 = .ok (.goto 4, 3) := by decide +kernel
theorem dX1_hasTab_21 : decode cX1_hasTab 21 = .ok (.iconst 0, 1) := by decide +kernel
theorem dX1_hasTab_22 : decode cX1_hasTab 22 = .ok (.ireturn, 1) := by decide +kernel
theorem dX1_hasRoom_0 : decode cX1_hasRoom 0 = .ok (.aload_n 0, 1) := by decide +kernel
theorem dX1_hasRoom_1 : decode cX1_hasRoom 1 = .ok (.getfield 24, 3) := by decide +kernel
theorem dX1_hasRoom_4 : decode cX1_hasRoom 4 = .ok (.iconst 5, 1) := by decide +kernel
theorem dX1_hasRoom_5 : decode cX1_hasRoom 5 = .ok (.if_icmp .ge 7, 3) := by decide +kernel
theorem dX1_hasRoom_8 : decode cX1_hasRoom 8 = .ok (.iconst 1, 1) := by decide +kernel
theorem dX1_hasRoom_9 : decode cX1_hasRoom 9 = .ok (.goto 4, 3) := by decide +kernel
theorem dX1_hasRoom_12 : decode cX1_hasRoom 12 = .ok (.iconst 0, 1) := by decide +kernel
theorem dX1_hasRoom_13 : decode cX1_hasRoom 13 = .ok (.ireturn, 1) := by decide +kernel
theorem dX1_shownPage_0 : decode cX1_shownPage 0 = .ok (.aload_n 0, 1) := by decide +kernel
theorem dX1_shownPage_1 : decode cX1_shownPage 1 = .ok (.aload_n 0, 1) := by decide +kernel
theorem dX1_shownPage_2 : decode cX1_shownPage 2 = .ok (.getfield 28, 3) := by decide +kernel
theorem dX1_shownPage_5 : decode cX1_shownPage 5 = .ok (.invokevirtual 45, 3) := by decide +kernel
theorem dX1_shownPage_8 : decode cX1_shownPage 8 = .ok (.ifCond .eq 18, 3) := by decide +kernel
theorem dX1_shownPage_11 : decode cX1_shownPage 11 = .ok (.aload_n 0, 1) := by decide +kernel
theorem dX1_shownPage_12 : decode cX1_shownPage 12 = .ok (.getfield 11, 3) := by decide +kernel
theorem dX1_shownPage_15 : decode cX1_shownPage 15 = .ok (.aload_n 0, 1) := by decide +kernel
theorem dX1_shownPage_16 : decode cX1_shownPage 16 = .ok (.getfield 28, 3) := by decide +kernel
theorem dX1_shownPage_19 : decode cX1_shownPage 19 = .ok (.aaload, 1) := by decide +kernel
theorem dX1_shownPage_20 : decode cX1_shownPage 20 = .ok (.invokevirtual 49, 3) := by decide +kernel
theorem dX1_shownPage_23 : decode cX1_shownPage 23 = .ok (.goto 4, 3) := by decide +kernel
theorem dX1_shownPage_26 : decode cX1_shownPage 26 = .ok (.iconst 0, 1) := by decide +kernel
theorem dX1_shownPage_27 : decode cX1_shownPage 27 = .ok (.ireturn, 1) := by decide +kernel
theorem dX1_followLink_0 : decode cX1_followLink 0 = .ok (.aload_n 0, 1) := by decide +kernel
theorem dX1_followLink_1 : decode cX1_followLink 1 = .ok (.aload_n 0, 1) := by decide +kernel
theorem dX1_followLink_2 : decode cX1_followLink 2 = .ok (.getfield 28, 3) := by decide +kernel
theorem dX1_followLink_5 : decode cX1_followLink 5 = .ok (.invokevirtual 45, 3) := by decide +kernel
theorem dX1_followLink_8 : decode cX1_followLink 8 = .ok (.ifCond .ne 5, 3) := by decide +kernel
theorem dX1_followLink_11 : decode cX1_followLink 11 = .ok (.iconst 0, 1) := by decide +kernel
theorem dX1_followLink_12 : decode cX1_followLink 12 = .ok (.ireturn, 1) := by decide +kernel
theorem dX1_followLink_13 : decode cX1_followLink 13 = .ok (.aload_n 1, 1) := by decide +kernel
theorem dX1_followLink_14 : decode cX1_followLink 14 = .ok (.aload_n 0, 1) := by decide +kernel
theorem dX1_followLink_15 : decode cX1_followLink 15 = .ok (.getfield 11, 3) := by decide +kernel
theorem dX1_followLink_18 : decode cX1_followLink 18 = .ok (.aload_n 0, 1) := by decide +kernel
theorem dX1_followLink_19 : decode cX1_followLink 19 = .ok (.getfield 28, 3) := by decide +kernel
theorem dX1_followLink_22 : decode cX1_followLink 22 = .ok (.aaload, 1) := by decide +kernel
theorem dX1_followLink_23 : decode cX1_followLink 23 = .ok (.invokevirtual 49, 3) := by decide +kernel
theorem dX1_followLink_26 : decode cX1_followLink 26 = .ok (.iload_n 2, 1) := by decide +kernel
theorem dX1_followLink_27 : decode cX1_followLink 27 = .ok (.invokevirtual 53, 3) := by decide +kernel
theorem dX1_followLink_30 : decode cX1_followLink 30 = .ok (.istore_n 3, 1) := by decide +kernel
theorem dX1_followLink_31 : decode cX1_followLink 31 = .ok (.iload_n 3, 1) := by decide +kernel
theorem dX1_followLink_32 : decode cX1_followLink 32 = .ok (.ldc 59, 2) := by decide +kernel
theorem dX1_followLink_34 : decode cX1_followLink 34 = .ok (.if_icmp .ne 5, 3) := by decide +kernel
theorem dX1_followLink_37 : decode cX1_followLink 37 = .ok (.iconst 0, 1) := by decide +kernel
theorem dX1_followLink_38 : decode cX1_followLink 38 = .ok (.ireturn, 1) := by decide +kernel
theorem dX1_followLink_39 : decode cX1_followLink 39 = .ok (.aload_n 0, 1) := by decide +kernel
theorem dX1_followLink_40 : decode cX1_followLink 40 = .ok (.getfield 11, 3) := by decide +kernel
theorem dX1_followLink_43 : decode cX1_followLink 43 = .ok (.aload_n 0, 1) := by decide +kernel
theorem dX1_followLink_44 : decode cX1_followLink 44 = .ok (.getfield 28, 3) := by decide +kernel
theorem dX1_followLink_47 : decode cX1_followLink 47 = .ok (.aaload, 1) := by decide +kernel
theorem dX1_followLink_48 : decode cX1_followLink 48 = .ok (.getfield 60, 3) := by decide +kernel
theorem dX1_followLink_51 : decode cX1_followLink 51 = .ok (.iconst 3, 1) := by decide +kernel
theorem dX1_followLink_52 : decode cX1_followLink 52 = .ok (.if_icmp .eq 19, 3) := by decide +kernel
theorem dX1_followLink_55 : decode cX1_followLink 55 = .ok (.aload_n 0, 1) := by decide +kernel
theorem dX1_followLink_56 : decode cX1_followLink 56 = .ok (.getfield 11, 3) := by decide +kernel
theorem dX1_followLink_59 : decode cX1_followLink 59 = .ok (.aload_n 0, 1) := by decide +kernel
theorem dX1_followLink_60 : decode cX1_followLink 60 = .ok (.getfield 28, 3) := by decide +kernel
theorem dX1_followLink_63 : decode cX1_followLink 63 = .ok (.aaload, 1) := by decide +kernel
theorem dX1_followLink_64 : decode cX1_followLink 64 = .ok (.iload_n 3, 1) := by decide +kernel
theorem dX1_followLink_65 : decode cX1_followLink 65 = .ok (.invokevirtual 63, 3) := by decide +kernel
theorem dX1_followLink_68 : decode cX1_followLink 68 = .ok (.goto 30, 3) := by decide +kernel
theorem dX1_followLink_71 : decode cX1_followLink 71 = .ok (.aload_n 0, 1) := by decide +kernel
theorem dX1_followLink_72 : decode cX1_followLink 72 = .ok (.invokevirtual 67, 3) := by decide +kernel
theorem dX1_followLink_75 : decode cX1_followLink 75 = .ok (.ifCond .eq 21, 3) := by decide +kernel
theorem dX1_followLink_78 : decode cX1_followLink 78 = .ok (.aload_n 0, 1) := by decide +kernel
theorem dX1_followLink_79 : decode cX1_followLink 79 = .ok (.aload_n 0, 1) := by decide +kernel
theorem dX1_followLink_80 : decode cX1_followLink 80 = .ok (.getfield 28, 3) := by decide +kernel
theorem dX1_followLink_83 : decode cX1_followLink 83 = .ok (.iconst 1, 1) := by decide +kernel
theorem dX1_followLink_84 : decode cX1_followLink 84 = .ok (.iadd, 1) := by decide +kernel
theorem dX1_followLink_85 : decode cX1_followLink 85 = .ok (.invokevirtual 71, 3) := by decide +kernel
theorem dX1_followLink_88 : decode cX1_followLink 88 = .ok (.iconst 1, 1) := by decide +kernel
theorem dX1_followLink_89 : decode cX1_followLink 89 = .ok (.iload_n 3, 1) := by decide +kernel
theorem dX1_followLink_90 : decode cX1_followLink 90 = .ok (.invokevirtual 75, 3) := by decide +kernel
theorem dX1_followLink_93 : decode cX1_followLink 93 = .ok (.goto 5, 3) := by decide +kernel
theorem dX1_followLink_96 : decode cX1_followLink 96 = .ok (.iconst 0, 1) := by decide +kernel
theorem dX1_followLink_97 : decode cX1_followLink 97 = .ok (.ireturn, 1) := by decide +kernel
theorem dX1_followLink_98 : decode cX1_followLink 98 = .ok (.aload_n 0, 1) := by decide +kernel
theorem dX1_followLink_99 : decode cX1_followLink 99 = .ok (.aload_n 0, 1) := by decide +kernel
theorem dX1_followLink_100 : decode cX1_followLink 100 = .ok (.invokevirtual 79, 3) := by decide +kernel
theorem dX1_followLink_103 : decode cX1_followLink 103 = .ok (.invokevirtual 80, 3) := by decide +kernel
theorem dX1_followLink_106 : decode cX1_followLink 106 = .ok (.iconst 1, 1) := by decide +kernel
theorem dX1_followLink_107 : decode cX1_followLink 107 = .ok (.ireturn, 1) := by decide +kernel
theorem dX1_stepBack_0 : decode cX1_stepBack 0 = .ok (.aload_n 0, 1) := by decide +kernel
theorem dX1_stepBack_1 : decode cX1_stepBack 1 = .ok (.aload_n 0, 1) := by decide +kernel
theorem dX1_stepBack_2 : decode cX1_stepBack 2 = .ok (.getfield 28, 3) := by decide +kernel
theorem dX1_stepBack_5 : decode cX1_stepBack 5 = .ok (.invokevirtual 45, 3) := by decide +kernel
theorem dX1_stepBack_8 : decode cX1_stepBack 8 = .ok (.ifCond .eq 22, 3) := by decide +kernel
theorem dX1_stepBack_11 : decode cX1_stepBack 11 = .ok (.aload_n 0, 1) := by decide +kernel
theorem dX1_stepBack_12 : decode cX1_stepBack 12 = .ok (.getfield 11, 3) := by decide +kernel
theorem dX1_stepBack_15 : decode cX1_stepBack 15 = .ok (.aload_n 0, 1) := by decide +kernel
theorem dX1_stepBack_16 : decode cX1_stepBack 16 = .ok (.getfield 28, 3) := by decide +kernel
theorem dX1_stepBack_19 : decode cX1_stepBack 19 = .ok (.aaload, 1) := by decide +kernel
theorem dX1_stepBack_20 : decode cX1_stepBack 20 = .ok (.invokevirtual 83, 3) := by decide +kernel
theorem dX1_stepBack_23 : decode cX1_stepBack 23 = .ok (.ifCond .eq 7, 3) := by decide +kernel
theorem dX1_stepBack_26 : decode cX1_stepBack 26 = .ok (.iconst 1, 1) := by decide +kernel
theorem dX1_stepBack_27 : decode cX1_stepBack 27 = .ok (.goto 4, 3) := by decide +kernel
theorem dX1_stepBack_30 : decode cX1_stepBack 30 = .ok (.iconst 0, 1) := by decide +kernel
theorem dX1_stepBack_31 : decode cX1_stepBack 31 = .ok (.ireturn, 1) := by decide +kernel
theorem dX1_stepForward_0 : decode cX1_stepForward 0 = .ok (.aload_n 0, 1) := by decide +kernel
theorem dX1_stepForward_1 : decode cX1_stepForward 1 = .ok (.aload_n 0, 1) := by decide +kernel
theorem dX1_stepForward_2 : decode cX1_stepForward 2 = .ok (.getfield 28, 3) := by decide +kernel
theorem dX1_stepForward_5 : decode cX1_stepForward 5 = .ok (.invokevirtual 45, 3) := by decide +kernel
theorem dX1_stepForward_8 : decode cX1_stepForward 8 = .ok (.ifCond .eq 22, 3) := by decide +kernel
theorem dX1_stepForward_11 : decode cX1_stepForward 11 = .ok (.aload_n 0, 1) := by decide +kernel
theorem dX1_stepForward_12 : decode cX1_stepForward 12 = .ok (.getfield 11, 3) := by decide +kernel
theorem dX1_stepForward_15 : decode cX1_stepForward 15 = .ok (.aload_n 0, 1) := by decide +kernel
theorem dX1_stepForward_16 : decode cX1_stepForward 16 = .ok (.getfield 28, 3) := by decide +kernel
theorem dX1_stepForward_19 : decode cX1_stepForward 19 = .ok (.aaload, 1) := by decide +kernel
theorem dX1_stepForward_20 : decode cX1_stepForward 20 = .ok (.invokevirtual 86, 3) := by decide +kernel
theorem dX1_stepForward_23 : decode cX1_stepForward 23 = .ok (.ifCond .eq 7, 3) := by decide +kernel
theorem dX1_stepForward_26 : decode cX1_stepForward 26 = .ok (.iconst 1, 1) := by decide +kernel
theorem dX1_stepForward_27 : decode cX1_stepForward 27 = .ok (.goto 4, 3) := by decide +kernel
theorem dX1_stepForward_30 : decode cX1_stepForward 30 = .ok (.iconst 0, 1) := by decide +kernel
theorem dX1_stepForward_31 : decode cX1_stepForward 31 = .ok (.ireturn, 1) := by decide +kernel
theorem dX1_selectTab_0 : decode cX1_selectTab 0 = .ok (.aload_n 0, 1) := by decide +kernel
theorem dX1_selectTab_1 : decode cX1_selectTab 1 = .ok (.iload_n 1, 1) := by decide +kernel
theorem dX1_selectTab_2 : decode cX1_selectTab 2 = .ok (.invokevirtual 45, 3) := by decide +kernel
theorem dX1_selectTab_5 : decode cX1_selectTab 5 = .ok (.ifCond .eq 11, 3) := by decide +kernel
theorem dX1_selectTab_8 : decode cX1_selectTab 8 = .ok (.iload_n 1, 1) := by decide +kernel
theorem dX1_selectTab_9 : decode cX1_selectTab 9 = .ok (.aload_n 0, 1) := by decide +kernel
theorem dX1_selectTab_10 : decode cX1_selectTab 10 = .ok (.getfield 28, 3) := by decide +kernel
theorem dX1_selectTab_13 : decode cX1_selectTab 13 = .ok (.if_icmp .ne 5, 3) := by decide +kernel
theorem dX1_selectTab_16 : decode cX1_selectTab 16 = .ok (.iconst 0, 1) := by decide +kernel
theorem dX1_selectTab_17 : decode cX1_selectTab 17 = .ok (.ireturn, 1) := by decide +kernel
theorem dX1_selectTab_18 : decode cX1_selectTab 18 = .ok (.aload_n 0, 1) := by decide +kernel
theorem dX1_selectTab_19 : decode cX1_selectTab 19 = .ok (.iload_n 1, 1) := by decide +kernel
theorem dX1_selectTab_20 : decode cX1_selectTab 20 = .ok (.putfield 28, 3) := by decide +kernel
theorem dX1_selectTab_23 : decode cX1_selectTab 23 = .ok (.iconst 1, 1) := by decide +kernel
theorem dX1_selectTab_24 : decode cX1_selectTab 24 = .ok (.ireturn, 1) := by decide +kernel
theorem dX1_openPage_0 : decode cX1_openPage 0 = .ok (.aload_n 0, 1) := by decide +kernel
theorem dX1_openPage_1 : decode cX1_openPage 1 = .ok (.invokevirtual 67, 3) := by decide +kernel
theorem dX1_openPage_4 : decode cX1_openPage 4 = .ok (.ifCond .ne 5, 3) := by decide +kernel
theorem dX1_openPage_7 : decode cX1_openPage 7 = .ok (.iconst 0, 1) := by decide +kernel
theorem dX1_openPage_8 : decode cX1_openPage 8 = .ok (.ireturn, 1) := by decide +kernel
theorem dX1_openPage_9 : decode cX1_openPage 9 = .ok (.aload_n 0, 1) := by decide +kernel
theorem dX1_openPage_10 : decode cX1_openPage 10 = .ok (.aload_n 0, 1) := by decide +kernel
theorem dX1_openPage_11 : decode cX1_openPage 11 = .ok (.getfield 24, 3) := by decide +kernel
theorem dX1_openPage_14 : decode cX1_openPage 14 = .ok (.invokevirtual 71, 3) := by decide +kernel
theorem dX1_openPage_17 : decode cX1_openPage 17 = .ok (.iconst 1, 1) := by decide +kernel
theorem dX1_openPage_18 : decode cX1_openPage 18 = .ok (.iload_n 1, 1) := by decide +kernel
theorem dX1_openPage_19 : decode cX1_openPage 19 = .ok (.invokevirtual 75, 3) := by decide +kernel
theorem dX1_openPage_22 : decode cX1_openPage 22 = .ok (.aload_n 0, 1) := by decide +kernel
theorem dX1_openPage_23 : decode cX1_openPage 23 = .ok (.iload_n 1, 1) := by decide +kernel
theorem dX1_openPage_24 : decode cX1_openPage 24 = .ok (.invokevirtual 80, 3) := by decide +kernel
theorem dX1_openPage_27 : decode cX1_openPage 27 = .ok (.iconst 1, 1) := by decide +kernel
theorem dX1_openPage_28 : decode cX1_openPage 28 = .ok (.ireturn, 1) := by decide +kernel
theorem dX1_closeNow_0 : decode cX1_closeNow 0 = .ok (.aload_n 0, 1) := by decide +kernel
theorem dX1_closeNow_1 : decode cX1_closeNow 1 = .ok (.getfield 24, 3) := by decide +kernel
theorem dX1_closeNow_4 : decode cX1_closeNow 4 = .ok (.iconst 2, 1) := by decide +kernel
theorem dX1_closeNow_5 : decode cX1_closeNow 5 = .ok (.if_icmp .lt 14, 3) := by decide +kernel
theorem dX1_closeNow_8 : decode cX1_closeNow 8 = .ok (.aload_n 0, 1) := by decide +kernel
theorem dX1_closeNow_9 : decode cX1_closeNow 9 = .ok (.aload_n 0, 1) := by decide +kernel
theorem dX1_closeNow_10 : decode cX1_closeNow 10 = .ok (.getfield 28, 3) := by decide +kernel
theorem dX1_closeNow_13 : decode cX1_closeNow 13 = .ok (.invokevirtual 45, 3) := by decide +kernel
theorem dX1_closeNow_16 : decode cX1_closeNow 16 = .ok (.ifCond .ne 5, 3) := by decide +kernel
theorem dX1_closeNow_19 : decode cX1_closeNow 19 = .ok (.iconst 0, 1) := by decide +kernel
theorem dX1_closeNow_20 : decode cX1_closeNow 20 = .ok (.ireturn, 1) := by decide +kernel
theorem dX1_closeNow_21 : decode cX1_closeNow 21 = .ok (.aload_n 0, 1) := by decide +kernel
theorem dX1_closeNow_22 : decode cX1_closeNow 22 = .ok (.getfield 11, 3) := by decide +kernel
theorem dX1_closeNow_25 : decode cX1_closeNow 25 = .ok (.aload_n 0, 1) := by decide +kernel
theorem dX1_closeNow_26 : decode cX1_closeNow 26 = .ok (.getfield 28, 3) := by decide +kernel
theorem dX1_closeNow_29 : decode cX1_closeNow 29 = .ok (.aaload, 1) := by decide +kernel
theorem dX1_closeNow_30 : decode cX1_closeNow 30 = .ok (.iconst 4, 1) := by decide +kernel
theorem dX1_closeNow_31 : decode cX1_closeNow 31 = .ok (.invokevirtual 89, 3) := by decide +kernel
theorem dX1_closeNow_34 : decode cX1_closeNow 34 = .ok (.ifCond .ne 16, 3) := by decide +kernel
theorem dX1_closeNow_37 : decode cX1_closeNow 37 = .ok (.aload_n 0, 1) := by decide +kernel
theorem dX1_closeNow_38 : decode cX1_closeNow 38 = .ok (.aload_n 0, 1) := by decide +kernel
theorem dX1_closeNow_39 : decode cX1_closeNow 39 = .ok (.getfield 11, 3) := by decide +kernel
theorem dX1_closeNow_42 : decode cX1_closeNow 42 = .ok (.aload_n 0, 1) := by decide +kernel
theorem dX1_closeNow_43 : decode cX1_closeNow 43 = .ok (.getfield 28, 3) := by decide +kernel
theorem dX1_closeNow_46 : decode cX1_closeNow 46 = .ok (.aaload, 1) := by decide +kernel
theorem dX1_closeNow_47 : decode cX1_closeNow 47 = .ok (.invokevirtual 92, 3) := by decide +kernel
theorem dX1_closeNow_50 : decode cX1_closeNow 50 = .ok (.aload_n 0, 1) := by decide +kernel
theorem dX1_closeNow_51 : decode cX1_closeNow 51 = .ok (.getfield 11, 3) := by decide +kernel
theorem dX1_closeNow_54 : decode cX1_closeNow 54 = .ok (.aload_n 0, 1) := by decide +kernel
theorem dX1_closeNow_55 : decode cX1_closeNow 55 = .ok (.getfield 28, 3) := by decide +kernel
theorem dX1_closeNow_58 : decode cX1_closeNow 58 = .ok (.aaload, 1) := by decide +kernel
theorem dX1_closeNow_59 : decode cX1_closeNow 59 = .ok (.astore_n 1, 1) := by decide +kernel
theorem dX1_closeNow_60 : decode cX1_closeNow 60 = .ok (.aload_n 0, 1) := by decide +kernel
theorem dX1_closeNow_61 : decode cX1_closeNow 61 = .ok (.getfield 28, 3) := by decide +kernel
theorem dX1_closeNow_64 : decode cX1_closeNow 64 = .ok (.istore_n 2, 1) := by decide +kernel
theorem dX1_closeNow_65 : decode cX1_closeNow 65 = .ok (.iload_n 2, 1) := by decide +kernel
theorem dX1_closeNow_66 : decode cX1_closeNow 66 = .ok (.iconst 1, 1) := by decide +kernel
theorem dX1_closeNow_67 : decode cX1_closeNow 67 = .ok (.iadd, 1) := by decide +kernel
theorem dX1_closeNow_68 : decode cX1_closeNow 68 = .ok (.aload_n 0, 1) := by decide +kernel
theorem dX1_closeNow_69 : decode cX1_closeNow 69 = .ok (.getfield 24, 3) := by decide +kernel
theorem dX1_closeNow_72 : decode cX1_closeNow 72 = .ok (.if_icmp .ge 30, 3) := by decide +kernel
theorem dX1_closeNow_75 : decode cX1_closeNow 75 = .ok (.iload_n 2, 1) := by decide +kernel
theorem dX1_closeNow_76 : decode cX1_closeNow 76 = .ok (.iconst 1, 1) := by decide +kernel
theorem dX1_closeNow_77 : decode cX1_closeNow 77 = .ok (.iadd, 1) := by decide +kernel
theorem dX1_closeNow_78 : decode cX1_closeNow 78 = .ok (.iconst 5, 1) := by decide +kernel
theorem dX1_closeNow_79 : decode cX1_closeNow 79 = .ok (.if_icmp .ge 23, 3) := by decide +kernel
theorem dX1_closeNow_82 : decode cX1_closeNow 82 = .ok (.aload_n 0, 1) := by decide +kernel
theorem dX1_closeNow_83 : decode cX1_closeNow 83 = .ok (.getfield 11, 3) := by decide +kernel
theorem dX1_closeNow_86 : decode cX1_closeNow 86 = .ok (.iload_n 2, 1) := by decide +kernel
theorem dX1_closeNow_87 : decode cX1_closeNow 87 = .ok (.aload_n 0, 1) := by decide +kernel
theorem dX1_closeNow_88 : decode cX1_closeNow 88 = .ok (.getfield 11, 3) := by decide +kernel
theorem dX1_closeNow_91 : decode cX1_closeNow 91 = .ok (.iload_n 2, 1) := by decide +kernel
theorem dX1_closeNow_92 : decode cX1_closeNow 92 = .ok (.iconst 1, 1) := by decide +kernel
theorem dX1_closeNow_93 : decode cX1_closeNow 93 = .ok (.iadd, 1) := by decide +kernel
theorem dX1_closeNow_94 : decode cX1_closeNow 94 = .ok (.aaload, 1) := by decide +kernel
theorem dX1_closeNow_95 : decode cX1_closeNow 95 = .ok (.aastore, 1) := by decide +kernel
theorem dX1_closeNow_96 : decode cX1_closeNow 96 = .ok (.iinc 2 1, 3) := by decide +kernel
theorem dX1_closeNow_99 : decode cX1_closeNow 99 = .ok (.goto (-34), 3) := by decide +kernel
theorem dX1_closeNow_102 : decode cX1_closeNow 102 = .ok (.aload_n 0, 1) := by decide +kernel
theorem dX1_closeNow_103 : decode cX1_closeNow 103 = .ok (.dup, 1) := by decide +kernel
theorem dX1_closeNow_104 : decode cX1_closeNow 104 = .ok (.getfield 24, 3) := by decide +kernel
theorem dX1_closeNow_107 : decode cX1_closeNow 107 = .ok (.iconst 1, 1) := by decide +kernel
theorem dX1_closeNow_108 : decode cX1_closeNow 108 = .ok (.isub, 1) := by decide +kernel
theorem dX1_closeNow_109 : decode cX1_closeNow 109 = .ok (.putfield 24, 3) := by decide +kernel
theorem dX1_closeNow_112 : decode cX1_closeNow 112 = .ok (.aload_n 0, 1) := by decide +kernel
theorem dX1_closeNow_113 : decode cX1_closeNow 113 = .ok (.getfield 11, 3) := by decide +kernel
theorem dX1_closeNow_116 : decode cX1_closeNow 116 = .ok (.aload_n 0, 1) := by decide +kernel
theorem dX1_closeNow_117 : decode cX1_closeNow 117 = .ok (.getfield 24, 3) := by decide +kernel
theorem dX1_closeNow_120 : decode cX1_closeNow 120 = .ok (.aload_n 1, 1) := by decide +kernel
theorem dX1_closeNow_121 : decode cX1_closeNow 121 = .ok (.aastore, 1) := by decide +kernel
theorem dX1_closeNow_122 : decode cX1_closeNow 122 = .ok (.aload_n 0, 1) := by decide +kernel
theorem dX1_closeNow_123 : decode cX1_closeNow 123 = .ok (.aload_n 0, 1) := by decide +kernel
theorem dX1_closeNow_124 : decode cX1_closeNow 124 = .ok (.getfield 28, 3) := by decide +kernel
theorem dX1_closeNow_127 : decode cX1_closeNow 127 = .ok (.aload_n 0, 1) := by decide +kernel
theorem dX1_closeNow_128 : decode cX1_closeNow 128 = .ok (.getfield 24, 3) := by decide +kernel
theorem dX1_closeNow_131 : decode cX1_closeNow 131 = .ok (.iconst 1, 1) := by decide +kernel
theorem dX1_closeNow_132 : decode cX1_closeNow 132 = .ok (.isub, 1) := by decide +kernel
theorem dX1_closeNow_133 : decode cX1_closeNow 133 = .ok (.invokestatic 95, 3) := by decide +kernel
theorem dX1_closeNow_136 : decode cX1_closeNow 136 = .ok (.putfield 28, 3) := by decide +kernel
theorem dX1_closeNow_139 : decode cX1_closeNow 139 = .ok (.iconst 1, 1) := by decide +kernel
theorem dX1_closeNow_140 : decode cX1_closeNow 140 = .ok (.ireturn, 1) := by decide +kernel
theorem dX1_reopen_0 : decode cX1_reopen 0 = .ok (.aload_n 0, 1) := by decide +kernel
theorem dX1_reopen_1 : decode cX1_reopen 1 = .ok (.getfield 31, 3) := by decide +kernel
theorem dX1_reopen_4 : decode cX1_reopen 4 = .ok (.iconst 1, 1) := by decide +kernel
theorem dX1_reopen_5 : decode cX1_reopen 5 = .ok (.if_icmp .lt 18, 3) := by decide +kernel
theorem dX1_reopen_8 : decode cX1_reopen 8 = .ok (.aload_n 0, 1) := by decide +kernel
theorem dX1_reopen_9 : decode cX1_reopen 9 = .ok (.getfield 31, 3) := by decide +kernel
theorem dX1_reopen_12 : decode cX1_reopen 12 = .ok (.iconst 3, 1) := by decide +kernel
theorem dX1_reopen_13 : decode cX1_reopen 13 = .ok (.if_icmp .gt 10, 3) := by decide +kernel
theorem dX1_reopen_16 : decode cX1_reopen 16 = .ok (.aload_n 0, 1) := by decide +kernel
theorem dX1_reopen_17 : decode cX1_reopen 17 = .ok (.invokevirtual 67, 3) := by decide +kernel
theorem dX1_reopen_20 : decode cX1_reopen 20 = .ok (.ifCond .ne 5, 3) := by decide +kernel
theorem dX1_reopen_23 : decode cX1_reopen 23 = .ok (.iconst 0, 1) := by decide +kernel
theorem dX1_reopen_24 : decode cX1_reopen 24 = .ok (.ireturn, 1) := by decide +kernel
theorem dX1_reopen_25 : decode cX1_reopen 25 = .ok (.aload_n 0, 1) := by decide +kernel
theorem dX1_reopen_26 : decode cX1_reopen 26 = .ok (.dup, 1) := by decide +kernel
theorem dX1_reopen_27 : decode cX1_reopen 27 = .ok (.getfield 31, 3) := by decide +kernel
theorem dX1_reopen_30 : decode cX1_reopen 30 = .ok (.iconst 1, 1) := by decide +kernel
theorem dX1_reopen_31 : decode cX1_reopen 31 = .ok (.isub, 1) := by decide +kernel
theorem dX1_reopen_32 : decode cX1_reopen 32 = .ok (.putfield 31, 3) := by decide +kernel
theorem dX1_reopen_35 : decode cX1_reopen 35 = .ok (.aload_n 0, 1) := by decide +kernel
theorem dX1_reopen_36 : decode cX1_reopen 36 = .ok (.aload_n 0, 1) := by decide +kernel
theorem dX1_reopen_37 : decode cX1_reopen 37 = .ok (.getfield 24, 3) := by decide +kernel
theorem dX1_reopen_40 : decode cX1_reopen 40 = .ok (.invokevirtual 71, 3) := by decide +kernel
theorem dX1_reopen_43 : decode cX1_reopen 43 = .ok (.aload_n 0, 1) := by decide +kernel
theorem dX1_reopen_44 : decode cX1_reopen 44 = .ok (.getfield 17, 3) := by decide +kernel
theorem dX1_reopen_47 : decode cX1_reopen 47 = .ok (.aload_n 0, 1) := by decide +kernel
theorem dX1_reopen_48 : decode cX1_reopen 48 = .ok (.getfield 31, 3) := by decide +kernel
theorem dX1_reopen_51 : decode cX1_reopen 51 = .ok (.aaload, 1) := by decide +kernel
theorem dX1_reopen_52 : decode cX1_reopen 52 = .ok (.invokevirtual 35, 3) := by decide +kernel
theorem dX1_reopen_55 : decode cX1_reopen 55 = .ok (.iconst 1, 1) := by decide +kernel
theorem dX1_reopen_56 : decode cX1_reopen 56 = .ok (.ireturn, 1) := by decide +kernel
theorem dX1_allVisits_0 : decode cX1_allVisits 0 = .ok (.iconst 0, 1) := by decide +kernel
theorem dX1_allVisits_1 : decode cX1_allVisits 1 = .ok (.istore_n 1, 1) := by decide +kernel
theorem dX1_allVisits_2 : decode cX1_allVisits 2 = .ok (.iconst 0, 1) := by decide +kernel
theorem dX1_allVisits_3 : decode cX1_allVisits 3 = .ok (.istore_n 2, 1) := by decide +kernel
theorem dX1_allVisits_4 : decode cX1_allVisits 4 = .ok (.iload_n 2, 1) := by decide +kernel
theorem dX1_allVisits_5 : decode cX1_allVisits 5 = .ok (.bipush 8, 2) := by decide +kernel
theorem dX1_allVisits_7 : decode cX1_allVisits 7 = .ok (.if_icmp .ge 18, 3) := by decide +kernel
theorem dX1_allVisits_10 : decode cX1_allVisits 10 = .ok (.iload_n 1, 1) := by decide +kernel
theorem dX1_allVisits_11 : decode cX1_allVisits 11 = .ok (.aload_n 0, 1) := by decide +kernel
theorem dX1_allVisits_12 : decode cX1_allVisits 12 = .ok (.getfield 20, 3) := by decide +kernel
theorem dX1_allVisits_15 : decode cX1_allVisits 15 = .ok (.iload_n 2, 1) := by decide +kernel
theorem dX1_allVisits_16 : decode cX1_allVisits 16 = .ok (.iaload, 1) := by decide +kernel
theorem dX1_allVisits_17 : decode cX1_allVisits 17 = .ok (.iadd, 1) := by decide +kernel
theorem dX1_allVisits_18 : decode cX1_allVisits 18 = .ok (.istore_n 1, 1) := by decide +kernel
theorem dX1_allVisits_19 : decode cX1_allVisits 19 = .ok (.iinc 2 1, 3) := by decide +kernel
theorem dX1_allVisits_22 : decode cX1_allVisits 22 = .ok (.goto (-18), 3) := by decide +kernel
theorem dX1_allVisits_25 : decode cX1_allVisits 25 = .ok (.iload_n 1, 1) := by decide +kernel
theorem dX1_allVisits_26 : decode cX1_allVisits 26 = .ok (.ireturn, 1) := by decide +kernel
theorem dX1_shareOf_0 : decode cX1_shareOf 0 = .ok (.aload_n 0, 1) := by decide +kernel
theorem dX1_shareOf_1 : decode cX1_shareOf 1 = .ok (.invokevirtual 100, 3) := by decide +kernel
theorem dX1_shareOf_4 : decode cX1_shareOf 4 = .ok (.istore_n 3, 1) := by decide +kernel
theorem dX1_shareOf_5 : decode cX1_shareOf 5 = .ok (.iload_n 1, 1) := by decide +kernel
theorem dX1_shareOf_6 : decode cX1_shareOf 6 = .ok (.ifCond .lt 22, 3) := by decide +kernel
theorem dX1_shareOf_9 : decode cX1_shareOf 9 = .ok (.iload_n 1, 1) := by decide +kernel
theorem dX1_shareOf_10 : decode cX1_shareOf 10 = .ok (.bipush 8, 2) := by decide +kernel
theorem dX1_shareOf_12 : decode cX1_shareOf 12 = .ok (.if_icmp .ge 16, 3) := by decide +kernel
theorem dX1_shareOf_15 : decode cX1_shareOf 15 = .ok (.aload_n 0, 1) := by decide +kernel
theorem dX1_shareOf_16 : decode cX1_shareOf 16 = .ok (.getfield 20, 3) := by decide +kernel
theorem dX1_shareOf_19 : decode cX1_shareOf 19 = .ok (.iload_n 1, 1) := by decide +kernel
theorem dX1_shareOf_20 : decode cX1_shareOf 20 = .ok (.iaload, 1) := by decide +kernel
theorem dX1_shareOf_21 : decode cX1_shareOf 21 = .ok (.ifCond .eq 7, 3) := by decide +kernel
theorem dX1_shareOf_24 : decode cX1_shareOf 24 = .ok (.iload_n 3, 1) := by decide +kernel
theorem dX1_shareOf_25 : decode cX1_shareOf 25 = .ok (.ifCond .gt 5, 3) := by decide +kernel
theorem dX1_shareOf_28 : decode cX1_shareOf 28 = .ok (.iconst 0, 1) := by decide +kernel
theorem dX1_shareOf_29 : decode cX1_shareOf 29 = .ok (.ireturn, 1) := by decide +kernel
theorem dX1_shareOf_30 : decode cX1_shareOf 30 = .ok (.iload_n 2, 1) := by decide +kernel
theorem dX1_shareOf_31 : decode cX1_shareOf 31 = .ok (.istore 4, 2) := by decide +kernel
theorem dX1_shareOf_33 : decode cX1_shareOf 33 = .ok (.iconst 0, 1) := by decide +kernel
theorem dX1_shareOf_34 : decode cX1_shareOf 34 = .ok (.istore 5, 2) := by decide +kernel
theorem dX1_shareOf_36 : decode cX1_shareOf 36 = .ok (.iconst 0, 1) := by decide +kernel
theorem dX1_shareOf_37 : decode cX1_shareOf 37 = .ok (.istore 6, 2) := by decide +kernel
theorem dX1_shareOf_39 : decode cX1_shareOf 39 = .ok (.iload 6, 2) := by decide +kernel
theorem dX1_shareOf_41 : decode cX1_shareOf 41 = .ok (.bipush 8, 2) := by decide +kernel
theorem dX1_shareOf_43 : decode cX1_shareOf 43 = .ok (.if_icmp .ge 44, 3) := by decide +kernel
theorem dX1_shareOf_46 : decode cX1_shareOf 46 = .ok (.iload 4, 2) := by decide +kernel
theorem dX1_shareOf_48 : decode cX1_shareOf 48 = .ok (.iload_n 2, 1) := by decide +kernel
theorem dX1_shareOf_49 : decode cX1_shareOf 49 = .ok (.aload_n 0, 1) := by decide +kernel
theorem dX1_shareOf_50 : decode cX1_shareOf 50 = .ok (.getfield 20, 3) := by decide +kernel
theorem dX1_shareOf_53 : decode cX1_shareOf 53 = .ok (.iload 6, 2) := by decide +kernel
theorem dX1_shareOf_55 : decode cX1_shareOf 55 = .ok (.iaload, 1) := by decide +kernel
theorem dX1_shareOf_56 : decode cX1_shareOf 56 = .ok (.imul, 1) := by decide +kernel
theorem dX1_shareOf_57 : decode cX1_shareOf 57 = .ok (.iload_n 3, 1) := by decide +kernel
theorem dX1_shareOf_58 : decode cX1_shareOf 58 = .ok (.idiv, 1) := by decide +kernel
theorem dX1_shareOf_59 : decode cX1_shareOf 59 = .ok (.isub, 1) := by decide +kernel
theorem dX1_shareOf_60 : decode cX1_shareOf 60 = .ok (.istore 4, 2) := by decide +kernel
theorem dX1_shareOf_62 : decode cX1_shareOf 62 = .ok (.iload 6, 2) := by decide +kernel
theorem dX1_shareOf_64 : decode cX1_shareOf 64 = .ok (.iload_n 1, 1) := by decide +kernel
theorem dX1_shareOf_65 : decode cX1_shareOf 65 = .ok (.if_icmp .ge 16, 3) := by decide +kernel
theorem dX1_shareOf_68 : decode cX1_shareOf 68 = .ok (.aload_n 0, 1) := by decide +kernel
theorem dX1_shareOf_69 : decode cX1_shareOf 69 = .ok (.getfield 20, 3) := by decide +kernel
theorem dX1_shareOf_72 : decode cX1_shareOf 72 = .ok (.iload 6, 2) := by decide +kernel
theorem dX1_shareOf_74 : decode cX1_shareOf 74 = .ok (.iaload, 1) := by decide +kernel
theorem dX1_shareOf_75 : decode cX1_shareOf 75 = .ok (.ifCond .le 6, 3) := by decide +kernel
theorem dX1_shareOf_78 : decode cX1_shareOf 78 = .ok (.iinc 5 1, 3) := by decide +kernel
theorem dX1_shareOf_81 : decode cX1_shareOf 81 = .ok (.iinc 6 1, 3) := by decide +kernel
theorem dX1_shareOf_84 : decode cX1_shareOf 84 = .ok (.goto (-45), 3) := by decide +kernel
theorem dX1_shareOf_87 : decode cX1_shareOf 87 = .ok (.iload_n 2, 1) := by decide +kernel
theorem dX1_shareOf_88 : decode cX1_shareOf 88 = .ok (.aload_n 0, 1) := by decide +kernel
theorem dX1_shareOf_89 : decode cX1_shareOf 89 = .ok (.getfield 20, 3) := by decide +kernel
theorem dX1_shareOf_92 : decode cX1_shareOf 92 = .ok (.iload_n 1, 1) := by decide +kernel
theorem dX1_shareOf_93 : decode cX1_shareOf 93 = .ok (.iaload, 1) := by decide +kernel
theorem dX1_shareOf_94 : decode cX1_shareOf 94 = .ok (.imul, 1) := by decide +kernel
theorem dX1_shareOf_95 : decode cX1_shareOf 95 = .ok (.iload_n 3, 1) := by decide +kernel
theorem dX1_shareOf_96 : decode cX1_shareOf 96 = .ok (.idiv, 1) := by decide +kernel
theorem dX1_shareOf_97 : decode cX1_shareOf 97 = .ok (.iload 5, 2) := by decide +kernel
theorem dX1_shareOf_99 : decode cX1_shareOf 99 = .ok (.iload 4, 2) := by decide +kernel
theorem dX1_shareOf_101 : decode cX1_shareOf 101 = .ok (.if_icmp .ge 7, 3) := by decide +kernel
theorem dX1_shareOf_104 : decode cX1_shareOf 104 = .ok (.iconst 1, 1) := by decide +kernel
theorem dX1_shareOf_105 : decode cX1_shareOf 105 = .ok (.goto 4, 3) := by decide +kernel
theorem dX1_shareOf_108 : decode cX1_shareOf 108 = .ok (.iconst 0, 1) := by decide +kernel
theorem dX1_shareOf_109 : decode cX1_shareOf 109 = .ok (.iadd, 1) := by decide +kernel
theorem dX1_shareOf_110 : decode cX1_shareOf 110 = .ok (.ireturn, 1) := by decide +kernel
theorem dX1_addTab_0 : decode cX1_addTab 0 = .ok (.iconst 0, 1) := by decide +kernel
theorem dX1_addTab_1 : decode cX1_addTab 1 = .ok (.aload_n 0, 1) := by decide +kernel
theorem dX1_addTab_2 : decode cX1_addTab 2 = .ok (.getfield 24, 3) := by decide +kernel
theorem dX1_addTab_5 : decode cX1_addTab 5 = .ok (.iconst 4, 1) := by decide +kernel
theorem dX1_addTab_6 : decode cX1_addTab 6 = .ok (.invokestatic 95, 3) := by decide +kernel
theorem dX1_addTab_9 : decode cX1_addTab 9 = .ok (.invokestatic 103, 3) := by decide +kernel
theorem dX1_addTab_12 : decode cX1_addTab 12 = .ok (.istore_n 2, 1) := by decide +kernel
theorem dX1_addTab_13 : decode cX1_addTab 13 = .ok (.iconst 0, 1) := by decide +kernel
theorem dX1_addTab_14 : decode cX1_addTab 14 = .ok (.iload_n 1, 1) := by decide +kernel
theorem dX1_addTab_15 : decode cX1_addTab 15 = .ok (.iload_n 2, 1) := by decide +kernel
theorem dX1_addTab_16 : decode cX1_addTab 16 = .ok (.invokestatic 95, 3) := by decide +kernel
theorem dX1_addTab_19 : decode cX1_addTab 19 = .ok (.invokestatic 103, 3) := by decide +kernel
theorem dX1_addTab_22 : decode cX1_addTab 22 = .ok (.istore_n 3, 1) := by decide +kernel
theorem dX1_addTab_23 : decode cX1_addTab 23 = .ok (.aload_n 0, 1) := by decide +kernel
theorem dX1_addTab_24 : decode cX1_addTab 24 = .ok (.getfield 11, 3) := by decide +kernel
theorem dX1_addTab_27 : decode cX1_addTab 27 = .ok (.iload_n 2, 1) := by decide +kernel
theorem dX1_addTab_28 : decode cX1_addTab 28 = .ok (.aaload, 1) := by decide +kernel
theorem dX1_addTab_29 : decode cX1_addTab 29 = .ok (.astore 4, 2) := by decide +kernel
theorem dX1_addTab_31 : decode cX1_addTab 31 = .ok (.iload_n 2, 1) := by decide +kernel
theorem dX1_addTab_32 : decode cX1_addTab 32 = .ok (.istore 5, 2) := by decide +kernel
theorem dX1_addTab_34 : decode cX1_addTab 34 = .ok (.iload 5, 2) := by decide +kernel
theorem dX1_addTab_36 : decode cX1_addTab 36 = .ok (.iload_n 3, 1) := by decide +kernel
theorem dX1_addTab_37 : decode cX1_addTab 37 = .ok (.if_icmp .le 25, 3) := by decide +kernel
theorem dX1_addTab_40 : decode cX1_addTab 40 = .ok (.aload_n 0, 1) := by decide +kernel
theorem dX1_addTab_41 : decode cX1_addTab 41 = .ok (.getfield 11, 3) := by decide +kernel
theorem dX1_addTab_44 : decode cX1_addTab 44 = .ok (.iload 5, 2) := by decide +kernel
theorem dX1_addTab_46 : decode cX1_addTab 46 = .ok (.aload_n 0, 1) := by decide +kernel
theorem dX1_addTab_47 : decode cX1_addTab 47 = .ok (.getfield 11, 3) := by decide +kernel
theorem dX1_addTab_50 : decode cX1_addTab 50 = .ok (.iload 5, 2) := by decide +kernel
theorem dX1_addTab_52 : decode cX1_addTab 52 = .ok (.iconst 1, 1) := by decide +kernel
theorem dX1_addTab_53 : decode cX1_addTab 53 = .ok (.isub, 1) := by decide +kernel
theorem dX1_addTab_54 : decode cX1_addTab 54 = .ok (.aaload, 1) := by decide +kernel
theorem dX1_addTab_55 : decode cX1_addTab 55 = .ok (.aastore, 1) := by decide +kernel
theorem dX1_addTab_56 : decode cX1_addTab 56 = .ok (.iinc 5 (-1), 3) := by decide +kernel
theorem dX1_addTab_59 : decode cX1_addTab 59 = .ok (.goto (-25), 3) := by decide +kernel
theorem dX1_addTab_62 : decode cX1_addTab 62 = .ok (.aload_n 0, 1) := by decide +kernel
theorem dX1_addTab_63 : decode cX1_addTab 63 = .ok (.getfield 11, 3) := by decide +kernel
theorem dX1_addTab_66 : decode cX1_addTab 66 = .ok (.iload_n 3, 1) := by decide +kernel
theorem dX1_addTab_67 : decode cX1_addTab 67 = .ok (.aload 4, 2) := by decide +kernel
theorem dX1_addTab_69 : decode cX1_addTab 69 = .ok (.aastore, 1) := by decide +kernel
theorem dX1_addTab_70 : decode cX1_addTab 70 = .ok (.aload_n 0, 1) := by decide +kernel
theorem dX1_addTab_71 : decode cX1_addTab 71 = .ok (.iload_n 2, 1) := by decide +kernel
theorem dX1_addTab_72 : decode cX1_addTab 72 = .ok (.iconst 1, 1) := by decide +kernel
theorem dX1_addTab_73 : decode cX1_addTab 73 = .ok (.iadd, 1) := by decide +kernel
theorem dX1_addTab_74 : decode cX1_addTab 74 = .ok (.putfield 24, 3) := by decide +kernel
theorem dX1_addTab_77 : decode cX1_addTab 77 = .ok (.aload_n 0, 1) := by decide +kernel
theorem dX1_addTab_78 : decode cX1_addTab 78 = .ok (.iload_n 3, 1) := by decide +kernel
theorem dX1_addTab_79 : decode cX1_addTab 79 = .ok (.putfield 28, 3) := by decide +kernel
theorem dX1_addTab_82 : decode cX1_addTab 82 = .ok (.aload 4, 2) := by decide +kernel
theorem dX1_addTab_84 : decode cX1_addTab 84 = .ok (.areturn, 1) := by decide +kernel
theorem dX1_keepClosed_0 : decode cX1_keepClosed 0 = .ok (.aload_n 0, 1) := by decide +kernel
theorem dX1_keepClosed_1 : decode cX1_keepClosed 1 = .ok (.getfield 31, 3) := by decide +kernel
theorem dX1_keepClosed_4 : decode cX1_keepClosed 4 = .ok (.iconst 3, 1) := by decide +kernel
theorem dX1_keepClosed_5 : decode cX1_keepClosed 5 = .ok (.if_icmp .lt 49, 3) := by decide +kernel
theorem dX1_keepClosed_8 : decode cX1_keepClosed 8 = .ok (.aload_n 0, 1) := by decide +kernel
theorem dX1_keepClosed_9 : decode cX1_keepClosed 9 = .ok (.getfield 17, 3) := by decide +kernel
theorem dX1_keepClosed_12 : decode cX1_keepClosed 12 = .ok (.iconst 0, 1) := by decide +kernel
theorem dX1_keepClosed_13 : decode cX1_keepClosed 13 = .ok (.aaload, 1) := by decide +kernel
theorem dX1_keepClosed_14 : decode cX1_keepClosed 14 = .ok (.astore_n 2, 1) := by decide +kernel
theorem dX1_keepClosed_15 : decode cX1_keepClosed 15 = .ok (.iconst 1, 1) := by decide +kernel
theorem dX1_keepClosed_16 : decode cX1_keepClosed 16 = .ok (.istore_n 3, 1) := by decide +kernel
theorem dX1_keepClosed_17 : decode cX1_keepClosed 17 = .ok (.iload_n 3, 1) := by decide +kernel
theorem dX1_keepClosed_18 : decode cX1_keepClosed 18 = .ok (.iconst 3, 1) := by decide +kernel
theorem dX1_keepClosed_19 : decode cX1_keepClosed 19 = .ok (.if_icmp .ge 23, 3) := by decide +kernel
theorem dX1_keepClosed_22 : decode cX1_keepClosed 22 = .ok (.aload_n 0, 1) := by decide +kernel
theorem dX1_keepClosed_23 : decode cX1_keepClosed 23 = .ok (.getfield 17, 3) := by decide +kernel
theorem dX1_keepClosed_26 : decode cX1_keepClosed 26 = .ok (.iload_n 3, 1) := by decide +kernel
theorem dX1_keepClosed_27 : decode cX1_keepClosed 27 = .ok (.iconst 1, 1) := by decide +kernel
theorem dX1_keepClosed_28 : decode cX1_keepClosed 28 = .ok (.isub, 1) := by decide +kernel
theorem dX1_keepClosed_29 : decode cX1_keepClosed 29 = .ok (.aload_n 0, 1) := by decide +kernel
theorem dX1_keepClosed_30 : decode cX1_keepClosed 30 = .ok (.getfield 17, 3) := by decide +kernel
theorem dX1_keepClosed_33 : decode cX1_keepClosed 33 = .ok (.iload_n 3, 1) := by decide +kernel
theorem dX1_keepClosed_34 : decode cX1_keepClosed 34 = .ok (.aaload, 1) := by decide +kernel
theorem dX1_keepClosed_35 : decode cX1_keepClosed 35 = .ok (.aastore, 1) := by decide +kernel
theorem dX1_keepClosed_36 : decode cX1_keepClosed 36 = .ok (.iinc 3 1, 3) := by decide +kernel
theorem dX1_keepClosed_39 : decode cX1_keepClosed 39 = .ok (.goto (-22), 3) := by decide +kernel
theorem dX1_keepClosed_42 : decode cX1_keepClosed 42 = .ok (.aload_n 0, 1) := by decide +kernel
theorem dX1_keepClosed_43 : decode cX1_keepClosed 43 = .ok (.getfield 17, 3) := by decide +kernel
theorem dX1_keepClosed_46 : decode cX1_keepClosed 46 = .ok (.iconst 2, 1) := by decide +kernel
theorem dX1_keepClosed_47 : decode cX1_keepClosed 47 = .ok (.aload_n 2, 1) := by decide +kernel
theorem dX1_keepClosed_48 : decode cX1_keepClosed 48 = .ok (.aastore, 1) := by decide +kernel
theorem dX1_keepClosed_49 : decode cX1_keepClosed 49 = .ok (.aload_n 0, 1) := by decide +kernel
theorem dX1_keepClosed_50 : decode cX1_keepClosed 50 = .ok (.iconst 2, 1) := by decide +kernel
theorem dX1_keepClosed_51 : decode cX1_keepClosed 51 = .ok (.putfield 31, 3) := by decide +kernel
theorem dX1_keepClosed_54 : decode cX1_keepClosed 54 = .ok (.aload_n 0, 1) := by decide +kernel
theorem dX1_keepClosed_55 : decode cX1_keepClosed 55 = .ok (.getfield 17, 3) := by decide +kernel
theorem dX1_keepClosed_58 : decode cX1_keepClosed 58 = .ok (.aload_n 0, 1) := by decide +kernel
theorem dX1_keepClosed_59 : decode cX1_keepClosed 59 = .ok (.getfield 31, 3) := by decide +kernel
theorem dX1_keepClosed_62 : decode cX1_keepClosed 62 = .ok (.aaload, 1) := by decide +kernel
theorem dX1_keepClosed_63 : decode cX1_keepClosed 63 = .ok (.aload_n 1, 1) := by decide +kernel
theorem dX1_keepClosed_64 : decode cX1_keepClosed 64 = .ok (.invokevirtual 35, 3) := by decide +kernel
theorem dX1_keepClosed_67 : decode cX1_keepClosed 67 = .ok (.aload_n 0, 1) := by decide +kernel
theorem dX1_keepClosed_68 : decode cX1_keepClosed 68 = .ok (.dup, 1) := by decide +kernel
theorem dX1_keepClosed_69 : decode cX1_keepClosed 69 = .ok (.getfield 31, 3) := by decide +kernel
theorem dX1_keepClosed_72 : decode cX1_keepClosed 72 = .ok (.iconst 1, 1) := by decide +kernel
theorem dX1_keepClosed_73 : decode cX1_keepClosed 73 = .ok (.iadd, 1) := by decide +kernel
theorem dX1_keepClosed_74 : decode cX1_keepClosed 74 = .ok (.putfield 31, 3) := by decide +kernel
theorem dX1_keepClosed_77 : decode cX1_keepClosed 77 = .ok (.return_, 1) := by decide +kernel
theorem dX1_visit_0 : decode cX1_visit 0 = .ok (.iload_n 1, 1) := by decide +kernel
theorem dX1_visit_1 : decode cX1_visit 1 = .ok (.ifCond .lt 31, 3) := by decide +kernel
theorem dX1_visit_4 : decode cX1_visit 4 = .ok (.iload_n 1, 1) := by decide +kernel
theorem dX1_visit_5 : decode cX1_visit 5 = .ok (.bipush 8, 2) := by decide +kernel
theorem dX1_visit_7 : decode cX1_visit 7 = .ok (.if_icmp .ge 25, 3) := by decide +kernel
theorem dX1_visit_10 : decode cX1_visit 10 = .ok (.aload_n 0, 1) := by decide +kernel
theorem dX1_visit_11 : decode cX1_visit 11 = .ok (.getfield 20, 3) := by decide +kernel
theorem dX1_visit_14 : decode cX1_visit 14 = .ok (.iload_n 1, 1) := by decide +kernel
theorem dX1_visit_15 : decode cX1_visit 15 = .ok (.iaload, 1) := by decide +kernel
theorem dX1_visit_16 : decode cX1_visit 16 = .ok (.sipush 999, 3) := by decide +kernel
theorem dX1_visit_19 : decode cX1_visit 19 = .ok (.if_icmp .ge 13, 3) := by decide +kernel
theorem dX1_visit_22 : decode cX1_visit 22 = .ok (.aload_n 0, 1) := by decide +kernel
theorem dX1_visit_23 : decode cX1_visit 23 = .ok (.getfield 20, 3) := by decide +kernel
theorem dX1_visit_26 : decode cX1_visit 26 = .ok (.iload_n 1, 1) := by decide +kernel
theorem dX1_visit_27 : decode cX1_visit 27 = .ok (.dup2, 1) := by decide +kernel
theorem dX1_visit_28 : decode cX1_visit 28 = .ok (.iaload, 1) := by decide +kernel
theorem dX1_visit_29 : decode cX1_visit 29 = .ok (.iconst 1, 1) := by decide +kernel
theorem dX1_visit_30 : decode cX1_visit 30 = .ok (.iadd, 1) := by decide +kernel
theorem dX1_visit_31 : decode cX1_visit 31 = .ok (.iastore, 1) := by decide +kernel
theorem dX1_visit_32 : decode cX1_visit 32 = .ok (.return_, 1) := by decide +kernel
theorem dX2_init_0 : decode cX2_init 0 = .ok (.aload_n 0, 1) := by decide +kernel
theorem dX2_init_1 : decode cX2_init 1 = .ok (.invokespecial 3, 3) := by decide +kernel
theorem dX2_init_4 : decode cX2_init 4 = .ok (.aload_n 0, 1) := by decide +kernel
theorem dX2_init_5 : decode cX2_init 5 = .ok (.iconst 4, 1) := by decide +kernel
theorem dX2_init_6 : decode cX2_init 6 = .ok (.newarray .int, 2) := by decide +kernel
theorem dX2_init_8 : decode cX2_init 8 = .ok (.putfield 9, 3) := by decide +kernel
theorem dX2_init_11 : decode cX2_init 11 = .ok (.aload_n 0, 1) := by decide +kernel
theorem dX2_init_12 : decode cX2_init 12 = .ok (.bipush 8, 2) := by decide +kernel
theorem dX2_init_14 : decode cX2_init 14 = .ok (.newarray .int, 2) := by decide +kernel
theorem dX2_init_16 : decode cX2_init 16 = .ok (.putfield 15, 3) := by decide +kernel
theorem dX2_init_19 : decode cX2_init 19 = .ok (.aload_n 0, 1) := by decide +kernel
theorem dX2_init_20 : decode cX2_init 20 = .ok (.new 18, 3) := by decide +kernel
theorem dX2_init_23 : decode cX2_init 23 = .ok (.dup, 1) := by decide +kernel
theorem dX2_init_24 : decode cX2_init 24 = .ok (.invokespecial 20, 3) := by decide +kernel
theorem dX2_init_27 : decode cX2_init 27 = .ok (.putfield 21, 3) := by decide +kernel
theorem dX2_init_30 : decode cX2_init 30 = .ok (.aload_n 0, 1) := by decide +kernel
theorem dX2_init_31 : decode cX2_init 31 = .ok (.bipush 8, 2) := by decide +kernel
theorem dX2_init_33 : decode cX2_init 33 = .ok (.newarray .int, 2) := by decide +kernel
theorem dX2_init_35 : decode cX2_init 35 = .ok (.putfield 25, 3) := by decide +kernel
theorem dX2_init_38 : decode cX2_init 38 = .ok (.aload_n 0, 1) := by decide +kernel
theorem dX2_init_39 : decode cX2_init 39 = .ok (.iconst 5, 1) := by decide +kernel
theorem dX2_init_40 : decode cX2_init 40 = .ok (.anewarray 28, 3) := by decide +kernel
theorem dX2_init_43 : decode cX2_init 43 = .ok (.putfield 30, 3) := by decide +kernel
theorem dX2_init_46 : decode cX2_init 46 = .ok (.aload_n 0, 1) := by decide +kernel
theorem dX2_init_47 : decode cX2_init 47 = .ok (.new 28, 3) := by decide +kernel
theorem dX2_init_50 : decode cX2_init 50 = .ok (.dup, 1) := by decide +kernel
theorem dX2_init_51 : decode cX2_init 51 = .ok (.invokespecial 34, 3) := by decide +kernel
theorem dX2_init_54 : decode cX2_init 54 = .ok (.putfield 35, 3) := by decide +kernel
theorem dX2_init_57 : decode cX2_init 57 = .ok (.aload_n 0, 1) := by decide +kernel
theorem dX2_init_58 : decode cX2_init 58 = .ok (.new 39, 3) := by decide +kernel
theorem dX2_init_61 : decode cX2_init 61 = .ok (.dup, 1) := by decide +kernel
theorem dX2_init_62 : decode cX2_init 62 = .ok (.invokespecial 41, 3) := by decide +kernel
theorem dX2_init_65 : decode cX2_init 65 = .ok (.putfield 42, 3) := by decide +kernel
theorem dX2_init_68 : decode cX2_init 68 = .ok (.aload_n 0, 1) := by decide +kernel
theorem dX2_init_69 : decode cX2_init 69 = .ok (.bipush 12, 2) := by decide +kernel
theorem dX2_init_71 : decode cX2_init 71 = .ok (.newarray .int, 2) := by decide +kernel
theorem dX2_init_73 : decode cX2_init 73 = .ok (.putfield 46, 3) := by decide +kernel
theorem dX2_init_76 : decode cX2_init 76 = .ok (.aload_n 0, 1) := by decide +kernel
theorem dX2_init_77 : decode cX2_init 77 = .ok (.iconst 0, 1) := by decide +kernel
theorem dX2_init_78 : decode cX2_init 78 = .ok (.putfield 49, 3) := by decide +kernel
theorem dX2_init_81 : decode cX2_init 81 = .ok (.iconst 0, 1) := by decide +kernel
theorem dX2_init_82 : decode cX2_init 82 = .ok (.istore_n 1, 1) := by decide +kernel
theorem dX2_init_83 : decode cX2_init 83 = .ok (.iload_n 1, 1) := by decide +kernel
theorem dX2_init_84 : decode cX2_init 84 = .ok (.aload_n 0, 1) := by decide +kernel
theorem dX2_init_85 : decode cX2_init 85 = .ok (.getfield 30, 3) := by decide +kernel
theorem dX2_init_88 : decode cX2_init 88 = .ok (.arraylength, 1) := by decide +kernel
theorem dX2_init_89 : decode cX2_init 89 = .ok (.if_icmp .ge 22, 3) := by decide +kernel
theorem dX2_init_92 : decode cX2_init 92 = .ok (.aload_n 0, 1) := by decide +kernel
theorem dX2_init_93 : decode cX2_init 93 = .ok (.getfield 30, 3) := by decide +kernel
theorem dX2_init_96 : decode cX2_init 96 = .ok (.iload_n 1, 1) := by decide +kernel
theorem dX2_init_97 : decode cX2_init 97 = .ok (.new 28, 3) := by decide +kernel
theorem dX2_init_100 : decode cX2_init 100 = .ok (.dup, 1) := by decide +kernel
theorem dX2_init_101 : decode cX2_init 101 = .ok (.invokespecial 34, 3) := by decide +kernel
theorem dX2_init_104 : decode cX2_init 104 = .ok (.aastore, 1) := by decide +kernel
theorem dX2_init_105 : decode cX2_init 105 = .ok (.iinc 1 1, 3) := by decide +kernel
theorem dX2_init_108 : decode cX2_init 108 = .ok (.goto (-25), 3) := by decide +kernel
theorem dX2_init_111 : decode cX2_init 111 = .ok (.return_, 1) := by decide +kernel
theorem dX2_fewestPresses_0 : decode cX2_fewestPresses 0 = .ok (.aload_n 2, 1) := by decide +kernel
theorem dX2_fewestPresses_1 : decode cX2_fewestPresses 1 = .ok (.aload_n 2, 1) := by decide +kernel
theorem dX2_fewestPresses_2 : decode cX2_fewestPresses 2 = .ok (.getfield 53, 3) := by decide +kernel
theorem dX2_fewestPresses_5 : decode cX2_fewestPresses 5 = .ok (.invokevirtual 56, 3) := by decide +kernel
theorem dX2_fewestPresses_8 : decode cX2_fewestPresses 8 = .ok (.ifCond .ne 6, 3) := by decide +kernel
theorem dX2_fewestPresses_11 : decode cX2_fewestPresses 11 = .ok (.ldc 60, 2) := by decide +kernel
theorem dX2_fewestPresses_13 : decode cX2_fewestPresses 13 = .ok (.ireturn, 1) := by decide +kernel
theorem dX2_fewestPresses_14 : decode cX2_fewestPresses 14 = .ok (.aload_n 0, 1) := by decide +kernel
theorem dX2_fewestPresses_15 : decode cX2_fewestPresses 15 = .ok (.getfield 30, 3) := by decide +kernel
theorem dX2_fewestPresses_18 : decode cX2_fewestPresses 18 = .ok (.iconst 0, 1) := by decide +kernel
theorem dX2_fewestPresses_19 : decode cX2_fewestPresses 19 = .ok (.aaload, 1) := by decide +kernel
theorem dX2_fewestPresses_20 : decode cX2_fewestPresses 20 = .ok (.aload_n 2, 1) := by decide +kernel
theorem dX2_fewestPresses_21 : decode cX2_fewestPresses 21 = .ok (.getfield 61, 3) := by decide +kernel
theorem dX2_fewestPresses_24 : decode cX2_fewestPresses 24 = .ok (.aload_n 2, 1) := by decide +kernel
theorem dX2_fewestPresses_25 : decode cX2_fewestPresses 25 = .ok (.getfield 53, 3) := by decide +kernel
theorem dX2_fewestPresses_28 : decode cX2_fewestPresses 28 = .ok (.aaload, 1) := by decide +kernel
theorem dX2_fewestPresses_29 : decode cX2_fewestPresses 29 = .ok (.invokevirtual 64, 3) := by decide +kernel
theorem dX2_fewestPresses_32 : decode cX2_fewestPresses 32 = .ok (.iconst 0, 1) := by decide +kernel
theorem dX2_fewestPresses_33 : decode cX2_fewestPresses 33 = .ok (.istore 4, 2) := by decide +kernel
theorem dX2_fewestPresses_35 : decode cX2_fewestPresses 35 = .ok (.iload 4, 2) := by decide +kernel
theorem dX2_fewestPresses_37 : decode cX2_fewestPresses 37 = .ok (.iconst 4, 1) := by decide +kernel
theorem dX2_fewestPresses_38 : decode cX2_fewestPresses 38 = .ok (.if_icmp .gt 28, 3) := by decide +kernel
theorem dX2_fewestPresses_41 : decode cX2_fewestPresses 41 = .ok (.aload_n 0, 1) := by decide +kernel
theorem dX2_fewestPresses_42 : decode cX2_fewestPresses 42 = .ok (.aload_n 1, 1) := by decide +kernel
theorem dX2_fewestPresses_43 : decode cX2_fewestPresses 43 = .ok (.iload_n 3, 1) := by decide +kernel
theorem dX2_fewestPresses_44 : decode cX2_fewestPresses 44 = .ok (.aload_n 2, 1) := by decide +kernel
theorem dX2_fewestPresses_45 : decode cX2_fewestPresses 45 = .ok (.invokevirtual 68, 3) := by decide +kernel
theorem dX2_fewestPresses_48 : decode cX2_fewestPresses 48 = .ok (.iconst 0, 1) := by decide +kernel
theorem dX2_fewestPresses_49 : decode cX2_fewestPresses 49 = .ok (.iload 4, 2) := by decide +kernel
theorem dX2_fewestPresses_51 : decode cX2_fewestPresses 51 = .ok (.invokevirtual 72, 3) := by decide +kernel
theorem dX2_fewestPresses_54 : decode cX2_fewestPresses 54 = .ok (.ifCond .eq 6, 3) := by decide +kernel
theorem dX2_fewestPresses_57 : decode cX2_fewestPresses 57 = .ok (.iload 4, 2) := by decide +kernel
theorem dX2_fewestPresses_59 : decode cX2_fewestPresses 59 = .ok (.ireturn, 1) := by decide +kernel
theorem dX2_fewestPresses_60 : decode cX2_fewestPresses 60 = .ok (.iinc 4 1, 3) := by decide +kernel
theorem dX2_fewestPresses_63 : decode cX2_fewestPresses 63 = .ok (.goto (-28), 3) := by decide +kernel
theorem dX2_fewestPresses_66 : decode cX2_fewestPresses 66 = .ok (.ldc 60, 2) := by decide +kernel
theorem dX2_fewestPresses_68 : decode cX2_fewestPresses 68 = .ok (.ireturn, 1) := by decide +kernel
theorem dX2_pressedTo_0 : decode cX2_pressedTo 0 = .ok (.iload 4, 2) := by decide +kernel
theorem dX2_pressedTo_2 : decode cX2_pressedTo 2 = .ok (.ifCond .lt 16, 3) := by decide +kernel
theorem dX2_pressedTo_5 : decode cX2_pressedTo 5 = .ok (.iload 4, 2) := by decide +kernel
theorem dX2_pressedTo_7 : decode cX2_pressedTo 7 = .ok (.iload 5, 2) := by decide +kernel
theorem dX2_pressedTo_9 : decode cX2_pressedTo 9 = .ok (.if_icmp .ge 9, 3) := by decide +kernel
theorem dX2_pressedTo_12 : decode cX2_pressedTo 12 = .ok (.iload 4, 2) := by decide +kernel
theorem dX2_pressedTo_14 : decode cX2_pressedTo 14 = .ok (.iconst 4, 1) := by decide +kernel
theorem dX2_pressedTo_15 : decode cX2_pressedTo 15 = .ok (.if_icmp .lt 34, 3) := by decide +kernel
theorem dX2_pressedTo_18 : decode cX2_pressedTo 18 = .ok (.iload 4, 2) := by decide +kernel
theorem dX2_pressedTo_20 : decode cX2_pressedTo 20 = .ok (.ifCond .lt 27, 3) := by decide +kernel
theorem dX2_pressedTo_23 : decode cX2_pressedTo 23 = .ok (.iload 4, 2) := by decide +kernel
theorem dX2_pressedTo_25 : decode cX2_pressedTo 25 = .ok (.iconst 4, 1) := by decide +kernel
theorem dX2_pressedTo_26 : decode cX2_pressedTo 26 = .ok (.if_icmp .gt 21, 3) := by decide +kernel
theorem dX2_pressedTo_29 : decode cX2_pressedTo 29 = .ok (.aload_n 0, 1) := by decide +kernel
theorem dX2_pressedTo_30 : decode cX2_pressedTo 30 = .ok (.getfield 30, 3) := by decide +kernel
theorem dX2_pressedTo_33 : decode cX2_pressedTo 33 = .ok (.iload 4, 2) := by decide +kernel
theorem dX2_pressedTo_35 : decode cX2_pressedTo 35 = .ok (.aaload, 1) := by decide +kernel
theorem dX2_pressedTo_36 : decode cX2_pressedTo 36 = .ok (.invokevirtual 76, 3) := by decide +kernel
theorem dX2_pressedTo_39 : decode cX2_pressedTo 39 = .ok (.iload_n 2, 1) := by decide +kernel
theorem dX2_pressedTo_40 : decode cX2_pressedTo 40 = .ok (.if_icmp .ne 7, 3) := by decide +kernel
theorem dX2_pressedTo_43 : decode cX2_pressedTo 43 = .ok (.iconst 1, 1) := by decide +kernel
theorem dX2_pressedTo_44 : decode cX2_pressedTo 44 = .ok (.goto 4, 3) := by decide +kernel
theorem dX2_pressedTo_47 : decode cX2_pressedTo 47 = .ok (.iconst 0, 1) := by decide +kernel
theorem dX2_pressedTo_48 : decode cX2_pressedTo 48 = .ok (.ireturn, 1) := by decide +kernel
theorem dX2_pressedTo_49 : decode cX2_pressedTo 49 = .ok (.iconst 0, 1) := by decide +kernel
theorem dX2_pressedTo_50 : decode cX2_pressedTo 50 = .ok (.istore 6, 2) := by decide +kernel
theorem dX2_pressedTo_52 : decode cX2_pressedTo 52 = .ok (.iload 6, 2) := by decide +kernel
theorem dX2_pressedTo_54 : decode cX2_pressedTo 54 = .ok (.iconst 5, 1) := by decide +kernel
theorem dX2_pressedTo_55 : decode cX2_pressedTo 55 = .ok (.if_icmp .ge 74, 3) := by decide +kernel
theorem dX2_pressedTo_58 : decode cX2_pressedTo 58 = .ok (.aload_n 0, 1) := by decide +kernel
theorem dX2_pressedTo_59 : decode cX2_pressedTo 59 = .ok (.getfield 30, 3) := by decide +kernel
theorem dX2_pressedTo_62 : decode cX2_pressedTo 62 = .ok (.iload 4, 2) := by decide +kernel
theorem dX2_pressedTo_64 : decode cX2_pressedTo 64 = .ok (.iconst 1, 1) := by decide +kernel
theorem dX2_pressedTo_65 : decode cX2_pressedTo 65 = .ok (.iadd, 1) := by decide +kernel
theorem dX2_pressedTo_66 : decode cX2_pressedTo 66 = .ok (.aaload, 1) := by decide +kernel
theorem dX2_pressedTo_67 : decode cX2_pressedTo 67 = .ok (.aload_n 0, 1) := by decide +kernel
theorem dX2_pressedTo_68 : decode cX2_pressedTo 68 = .ok (.getfield 30, 3) := by decide +kernel
theorem dX2_pressedTo_71 : decode cX2_pressedTo 71 = .ok (.iload 4, 2) := by decide +kernel
theorem dX2_pressedTo_73 : decode cX2_pressedTo 73 = .ok (.aaload, 1) := by decide +kernel
theorem dX2_pressedTo_74 : decode cX2_pressedTo 74 = .ok (.invokevirtual 64, 3) := by decide +kernel
theorem dX2_pressedTo_77 : decode cX2_pressedTo 77 = .ok (.aload_n 0, 1) := by decide +kernel
theorem dX2_pressedTo_78 : decode cX2_pressedTo 78 = .ok (.getfield 9, 3) := by decide +kernel
theorem dX2_pressedTo_81 : decode cX2_pressedTo 81 = .ok (.iload 4, 2) := by decide +kernel
theorem dX2_pressedTo_83 : decode cX2_pressedTo 83 = .ok (.iload 6, 2) := by decide +kernel
theorem dX2_pressedTo_85 : decode cX2_pressedTo 85 = .ok (.iastore, 1) := by decide +kernel
theorem dX2_pressedTo_86 : decode cX2_pressedTo 86 = .ok (.aload_n 0, 1) := by decide +kernel
theorem dX2_pressedTo_87 : decode cX2_pressedTo 87 = .ok (.getfield 30, 3) := by decide +kernel
theorem dX2_pressedTo_90 : decode cX2_pressedTo 90 = .ok (.iload 4, 2) := by decide +kernel
theorem dX2_pressedTo_92 : decode cX2_pressedTo 92 = .ok (.iconst 1, 1) := by decide +kernel
theorem dX2_pressedTo_93 : decode cX2_pressedTo 93 = .ok (.iadd, 1) := by decide +kernel
theorem dX2_pressedTo_94 : decode cX2_pressedTo 94 = .ok (.aaload, 1) := by decide +kernel
theorem dX2_pressedTo_95 : decode cX2_pressedTo 95 = .ok (.aload_n 1, 1) := by decide +kernel
theorem dX2_pressedTo_96 : decode cX2_pressedTo 96 = .ok (.iload 6, 2) := by decide +kernel
theorem dX2_pressedTo_98 : decode cX2_pressedTo 98 = .ok (.iload_n 3, 1) := by decide +kernel
theorem dX2_pressedTo_99 : decode cX2_pressedTo 99 = .ok (.invokevirtual 80, 3) := by decide +kernel
theorem dX2_pressedTo_102 : decode cX2_pressedTo 102 = .ok (.ifCond .eq 21, 3) := by decide +kernel
theorem dX2_pressedTo_105 : decode cX2_pressedTo 105 = .ok (.aload_n 0, 1) := by decide +kernel
theorem dX2_pressedTo_106 : decode cX2_pressedTo 106 = .ok (.aload_n 1, 1) := by decide +kernel
theorem dX2_pressedTo_107 : decode cX2_pressedTo 107 = .ok (.iload_n 2, 1) := by decide +kernel
theorem dX2_pressedTo_108 : decode cX2_pressedTo 108 = .ok (.iload_n 3, 1) := by decide +kernel
theorem dX2_pressedTo_109 : decode cX2_pressedTo 109 = .ok (.iload 4, 2) := by decide +kernel
theorem dX2_pressedTo_111 : decode cX2_pressedTo 111 = .ok (.iconst 1, 1) := by decide +kernel
theorem dX2_pressedTo_112 : decode cX2_pressedTo 112 = .ok (.iadd, 1) := by decide +kernel
theorem dX2_pressedTo_113 : decode cX2_pressedTo 113 = .ok (.iload 5, 2) := by decide +kernel
theorem dX2_pressedTo_115 : decode cX2_pressedTo 115 = .ok (.invokevirtual 72, 3) := by decide +kernel
theorem dX2_pressedTo_118 : decode cX2_pressedTo 118 = .ok (.ifCond .eq 5, 3) := by decide +kernel
theorem dX2_pressedTo_121 : decode cX2_pressedTo 121 = .ok (.iconst 1, 1) := by decide +kernel
theorem dX2_pressedTo_122 : decode cX2_pressedTo 122 = .ok (.ireturn, 1) := by decide +kernel
theorem dX2_pressedTo_123 : decode cX2_pressedTo 123 = .ok (.iinc 6 1, 3) := by decide +kernel
theorem dX2_pressedTo_126 : decode cX2_pressedTo 126 = .ok (.goto (-74), 3) := by decide +kernel
theorem dX2_pressedTo_129 : decode cX2_pressedTo 129 = .ok (.iconst 0, 1) := by decide +kernel
theorem dX2_pressedTo_130 : decode cX2_pressedTo 130 = .ok (.ireturn, 1) := by decide +kernel
theorem dX2_countWays_0 : decode cX2_countWays 0 = .ok (.aload_n 0, 1) := by decide +kernel
theorem dX2_countWays_1 : decode cX2_countWays 1 = .ok (.iload_n 2, 1) := by decide +kernel
theorem dX2_countWays_2 : decode cX2_countWays 2 = .ok (.invokevirtual 84, 3) := by decide +kernel
theorem dX2_countWays_5 : decode cX2_countWays 5 = .ok (.iconst 0, 1) := by decide +kernel
theorem dX2_countWays_6 : decode cX2_countWays 6 = .ok (.istore 4, 2) := by decide +kernel
theorem dX2_countWays_8 : decode cX2_countWays 8 = .ok (.iload 4, 2) := by decide +kernel
theorem dX2_countWays_10 : decode cX2_countWays 10 = .ok (.iload_n 3, 1) := by decide +kernel
theorem dX2_countWays_11 : decode cX2_countWays 11 = .ok (.if_icmp .ge 15, 3) := by decide +kernel
theorem dX2_countWays_14 : decode cX2_countWays 14 = .ok (.aload_n 0, 1) := by decide +kernel
theorem dX2_countWays_15 : decode cX2_countWays 15 = .ok (.aload_n 1, 1) := by decide +kernel
theorem dX2_countWays_16 : decode cX2_countWays 16 = .ok (.iconst 0, 1) := by decide +kernel
theorem dX2_countWays_17 : decode cX2_countWays 17 = .ok (.invokevirtual 88, 3) := by decide +kernel
theorem dX2_countWays_20 : decode cX2_countWays 20 = .ok (.iinc 4 1, 3) := by decide +kernel
theorem dX2_countWays_23 : decode cX2_countWays 23 = .ok (.goto (-15), 3) := by decide +kernel
theorem dX2_countWays_26 : decode cX2_countWays 26 = .ok (.return_, 1) := by decide +kernel
theorem dX2_weighWays_0 : decode cX2_weighWays 0 = .ok (.aload_n 0, 1) := by decide +kernel
theorem dX2_weighWays_1 : decode cX2_weighWays 1 = .ok (.iload_n 2, 1) := by decide +kernel
theorem dX2_weighWays_2 : decode cX2_weighWays 2 = .ok (.invokevirtual 84, 3) := by decide +kernel
theorem dX2_weighWays_5 : decode cX2_weighWays 5 = .ok (.iconst 1, 1) := by decide +kernel
theorem dX2_weighWays_6 : decode cX2_weighWays 6 = .ok (.istore 4, 2) := by decide +kernel
theorem dX2_weighWays_8 : decode cX2_weighWays 8 = .ok (.iconst 0, 1) := by decide +kernel
theorem dX2_weighWays_9 : decode cX2_weighWays 9 = .ok (.istore 5, 2) := by decide +kernel
theorem dX2_weighWays_11 : decode cX2_weighWays 11 = .ok (.iload 5, 2) := by decide +kernel
theorem dX2_weighWays_13 : decode cX2_weighWays 13 = .ok (.iload_n 3, 1) := by decide +kernel
theorem dX2_weighWays_14 : decode cX2_weighWays 14 = .ok (.if_icmp .ge 22, 3) := by decide +kernel
theorem dX2_weighWays_17 : decode cX2_weighWays 17 = .ok (.aload_n 0, 1) := by decide +kernel
theorem dX2_weighWays_18 : decode cX2_weighWays 18 = .ok (.aload_n 1, 1) := by decide +kernel
theorem dX2_weighWays_19 : decode cX2_weighWays 19 = .ok (.iconst 1, 1) := by decide +kernel
theorem dX2_weighWays_20 : decode cX2_weighWays 20 = .ok (.invokevirtual 88, 3) := by decide +kernel
theorem dX2_weighWays_23 : decode cX2_weighWays 23 = .ok (.iload 4, 2) := by decide +kernel
theorem dX2_weighWays_25 : decode cX2_weighWays 25 = .ok (.bipush 6, 2) := by decide +kernel
theorem dX2_weighWays_27 : decode cX2_weighWays 27 = .ok (.imul, 1) := by decide +kernel
theorem dX2_weighWays_28 : decode cX2_weighWays 28 = .ok (.istore 4, 2) := by decide +kernel
theorem dX2_weighWays_30 : decode cX2_weighWays 30 = .ok (.iinc 5 1, 3) := by decide +kernel
theorem dX2_weighWays_33 : decode cX2_weighWays 33 = .ok (.goto (-22), 3) := by decide +kernel
theorem dX2_weighWays_36 : decode cX2_weighWays 36 = .ok (.iload 4, 2) := by decide +kernel
theorem dX2_weighWays_38 : decode cX2_weighWays 38 = .ok (.ireturn, 1) := by decide +kernel
theorem dX2_beginAmounts_0 : decode cX2_beginAmounts 0 = .ok (.iconst 0, 1) := by decide +kernel
theorem dX2_beginAmounts_1 : decode cX2_beginAmounts 1 = .ok (.istore_n 2, 1) := by decide +kernel
theorem dX2_beginAmounts_2 : decode cX2_beginAmounts 2 = .ok (.iload_n 2, 1) := by decide +kernel
theorem dX2_beginAmounts_3 : decode cX2_beginAmounts 3 = .ok (.bipush 8, 2) := by decide +kernel
theorem dX2_beginAmounts_5 : decode cX2_beginAmounts 5 = .ok (.if_icmp .ge 25, 3) := by decide +kernel
theorem dX2_beginAmounts_8 : decode cX2_beginAmounts 8 = .ok (.aload_n 0, 1) := by decide +kernel
theorem dX2_beginAmounts_9 : decode cX2_beginAmounts 9 = .ok (.getfield 15, 3) := by decide +kernel
theorem dX2_beginAmounts_12 : decode cX2_beginAmounts 12 = .ok (.iload_n 2, 1) := by decide +kernel
theorem dX2_beginAmounts_13 : decode cX2_beginAmounts 13 = .ok (.iload_n 2, 1) := by decide +kernel
theorem dX2_beginAmounts_14 : decode cX2_beginAmounts 14 = .ok (.iload_n 1, 1) := by decide +kernel
theorem dX2_beginAmounts_15 : decode cX2_beginAmounts 15 = .ok (.if_icmp .ne 7, 3) := by decide +kernel
theorem dX2_beginAmounts_18 : decode cX2_beginAmounts 18 = .ok (.iconst 1, 1) := by decide +kernel
theorem dX2_beginAmounts_19 : decode cX2_beginAmounts 19 = .ok (.goto 4, 3) := by decide +kernel
theorem dX2_beginAmounts_22 : decode cX2_beginAmounts 22 = .ok (.iconst 0, 1) := by decide +kernel
theorem dX2_beginAmounts_23 : decode cX2_beginAmounts 23 = .ok (.iastore, 1) := by decide +kernel
theorem dX2_beginAmounts_24 : decode cX2_beginAmounts 24 = .ok (.iinc 2 1, 3) := by decide +kernel
theorem dX2_beginAmounts_27 : decode cX2_beginAmounts 27 = .ok (.goto (-25), 3) := by decide +kernel
theorem dX2_beginAmounts_30 : decode cX2_beginAmounts 30 = .ok (.return_, 1) := by decide +kernel
theorem dX2_spreadAmounts_0 : decode cX2_spreadAmounts 0 = .ok (.iconst 0, 1) := by decide +kernel
theorem dX2_spreadAmounts_1 : decode cX2_spreadAmounts 1 = .ok (.istore_n 3, 1) := by decide +kernel
theorem dX2_spreadAmounts_2 : decode cX2_spreadAmounts 2 = .ok (.iload_n 3, 1) := by decide +kernel
theorem dX2_spreadAmounts_3 : decode cX2_spreadAmounts 3 = .ok (.bipush 8, 2) := by decide +kernel
theorem dX2_spreadAmounts_5 : decode cX2_spreadAmounts 5 = .ok (.if_icmp .ge 16, 3) := by decide +kernel
theorem dX2_spreadAmounts_8 : decode cX2_spreadAmounts 8 = .ok (.aload_n 0, 1) := by decide +kernel
theorem dX2_spreadAmounts_9 : decode cX2_spreadAmounts 9 = .ok (.getfield 25, 3) := by decide +kernel
theorem dX2_spreadAmounts_12 : decode cX2_spreadAmounts 12 = .ok (.iload_n 3, 1) := by decide +kernel
theorem dX2_spreadAmounts_13 : decode cX2_spreadAmounts 13 = .ok (.iconst 0, 1) := by decide +kernel
theorem dX2_spreadAmounts_14 : decode cX2_spreadAmounts 14 = .ok (.iastore, 1) := by decide +kernel
theorem dX2_spreadAmounts_15 : decode cX2_spreadAmounts 15 = .ok (.iinc 3 1, 3) := by decide +kernel
theorem dX2_spreadAmounts_18 : decode cX2_spreadAmounts 18 = .ok (.goto (-16), 3) := by decide +kernel
theorem dX2_spreadAmounts_21 : decode cX2_spreadAmounts 21 = .ok (.iconst 0, 1) := by decide +kernel
theorem dX2_spreadAmounts_22 : decode cX2_spreadAmounts 22 = .ok (.istore_n 3, 1) := by decide +kernel
theorem dX2_spreadAmounts_23 : decode cX2_spreadAmounts 23 = .ok (.iload_n 3, 1) := by decide +kernel
theorem dX2_spreadAmounts_24 : decode cX2_spreadAmounts 24 = .ok (.aload_n 1, 1) := by decide +kernel
theorem dX2_spreadAmounts_25 : decode cX2_spreadAmounts 25 = .ok (.getfield 92, 3) := by decide +kernel
theorem dX2_spreadAmounts_28 : decode cX2_spreadAmounts 28 = .ok (.if_icmp .ge 100, 3) := by decide +kernel
theorem dX2_spreadAmounts_31 : decode cX2_spreadAmounts 31 = .ok (.iload_n 3, 1) := by decide +kernel
theorem dX2_spreadAmounts_32 : decode cX2_spreadAmounts 32 = .ok (.bipush 8, 2) := by decide +kernel
theorem dX2_spreadAmounts_34 : decode cX2_spreadAmounts 34 = .ok (.if_icmp .ge 94, 3) := by decide +kernel
theorem dX2_spreadAmounts_37 : decode cX2_spreadAmounts 37 = .ok (.aload_n 1, 1) := by decide +kernel
theorem dX2_spreadAmounts_38 : decode cX2_spreadAmounts 38 = .ok (.iload_n 3, 1) := by decide +kernel
theorem dX2_spreadAmounts_39 : decode cX2_spreadAmounts 39 = .ok (.invokevirtual 95, 3) := by decide +kernel
theorem dX2_spreadAmounts_42 : decode cX2_spreadAmounts 42 = .ok (.istore 4, 2) := by decide +kernel
theorem dX2_spreadAmounts_44 : decode cX2_spreadAmounts 44 = .ok (.iload_n 2, 1) := by decide +kernel
theorem dX2_spreadAmounts_45 : decode cX2_spreadAmounts 45 = .ok (.ifCond .eq 23, 3) := by decide +kernel
theorem dX2_spreadAmounts_48 : decode cX2_spreadAmounts 48 = .ok (.iload 4, 2) := by decide +kernel
theorem dX2_spreadAmounts_50 : decode cX2_spreadAmounts 50 = .ok (.ifCond .le 18, 3) := by decide +kernel
theorem dX2_spreadAmounts_53 : decode cX2_spreadAmounts 53 = .ok (.aload_n 0, 1) := by decide +kernel
theorem dX2_spreadAmounts_54 : decode cX2_spreadAmounts 54 = .ok (.getfield 15, 3) := by decide +kernel
theorem dX2_spreadAmounts_57 : decode cX2_spreadAmounts 57 = .ok (.iload_n 3, 1) := by decide +kernel
theorem dX2_spreadAmounts_58 : decode cX2_spreadAmounts 58 = .ok (.iaload, 1) := by decide +kernel
theorem dX2_spreadAmounts_59 : decode cX2_spreadAmounts 59 = .ok (.bipush 6, 2) := by decide +kernel
theorem dX2_spreadAmounts_61 : decode cX2_spreadAmounts 61 = .ok (.iload 4, 2) := by decide +kernel
theorem dX2_spreadAmounts_63 : decode cX2_spreadAmounts 63 = .ok (.idiv, 1) := by decide +kernel
theorem dX2_spreadAmounts_64 : decode cX2_spreadAmounts 64 = .ok (.imul, 1) := by decide +kernel
theorem dX2_spreadAmounts_65 : decode cX2_spreadAmounts 65 = .ok (.goto 9, 3) := by decide +kernel
theorem dX2_spreadAmounts_68 : decode cX2_spreadAmounts 68 = .ok (.aload_n 0, 1) := by decide +kernel
theorem dX2_spreadAmounts_69 : decode cX2_spreadAmounts 69 = .ok (.getfield 15, 3) := by decide +kernel
theorem dX2_spreadAmounts_72 : decode cX2_spreadAmounts 72 = .ok (.iload_n 3, 1) := by decide +kernel
theorem dX2_spreadAmounts_73 : decode cX2_spreadAmounts 73 = .ok (.iaload, 1) := by decide +kernel
theorem dX2_spreadAmounts_74 : decode cX2_spreadAmounts 74 = .ok (.istore 5, 2) := by decide +kernel
theorem dX2_spreadAmounts_76 : decode cX2_spreadAmounts 76 = .ok (.iconst 0, 1) := by decide +kernel
theorem dX2_spreadAmounts_77 : decode cX2_spreadAmounts 77 = .ok (.istore 6, 2) := by decide +kernel
theorem dX2_spreadAmounts_79 : decode cX2_spreadAmounts 79 = .ok (.iload 6, 2) := by decide +kernel
theorem dX2_spreadAmounts_81 : decode cX2_spreadAmounts 81 = .ok (.iload 4, 2) := by decide +kernel
theorem dX2_spreadAmounts_83 : decode cX2_spreadAmounts 83 = .ok (.if_icmp .ge 39, 3) := by decide +kernel
theorem dX2_spreadAmounts_86 : decode cX2_spreadAmounts 86 = .ok (.aload_n 1, 1) := by decide +kernel
theorem dX2_spreadAmounts_87 : decode cX2_spreadAmounts 87 = .ok (.iload_n 3, 1) := by decide +kernel
theorem dX2_spreadAmounts_88 : decode cX2_spreadAmounts 88 = .ok (.iload 6, 2) := by decide +kernel
theorem dX2_spreadAmounts_90 : decode cX2_spreadAmounts 90 = .ok (.invokevirtual 99, 3) := by decide +kernel
theorem dX2_spreadAmounts_93 : decode cX2_spreadAmounts 93 = .ok (.istore 7, 2) := by decide +kernel
theorem dX2_spreadAmounts_95 : decode cX2_spreadAmounts 95 = .ok (.aload_n 1, 1) := by decide +kernel
theorem dX2_spreadAmounts_96 : decode cX2_spreadAmounts 96 = .ok (.iload 7, 2) := by decide +kernel
theorem dX2_spreadAmounts_98 : decode cX2_spreadAmounts 98 = .ok (.invokevirtual 103, 3) := by decide +kernel
theorem dX2_spreadAmounts_101 : decode cX2_spreadAmounts 101 = .ok (.ifCond .eq 15, 3) := by decide +kernel
theorem dX2_spreadAmounts_104 : decode cX2_spreadAmounts 104 = .ok (.aload_n 0, 1) := by decide +kernel
theorem dX2_spreadAmounts_105 : decode cX2_spreadAmounts 105 = .ok (.getfield 25, 3) := by decide +kernel
theorem dX2_spreadAmounts_108 : decode cX2_spreadAmounts 108 = .ok (.iload 7, 2) := by decide +kernel
theorem dX2_spreadAmounts_110 : decode cX2_spreadAmounts 110 = .ok (.dup2, 1) := by decide +kernel
theorem dX2_spreadAmounts_111 : decode cX2_spreadAmounts 111 = .ok (.iaload, 1) := by decide +kernel
theorem dX2_spreadAmounts_112 : decode cX2_spreadAmounts 112 = .ok (.iload 5, 2) := by decide +kernel
theorem dX2_spreadAmounts_114 : decode cX2_spreadAmounts 114 = .ok (.iadd, 1) := by decide +kernel
theorem dX2_spreadAmounts_115 : decode cX2_spreadAmounts 115 = .ok (.iastore, 1) := by decide +kernel
theorem dX2_spreadAmounts_116 : decode cX2_spreadAmounts 116 = .ok (.iinc 6 1, 3) := by decide +kernel
theorem dX2_spreadAmounts_119 : decode cX2_spreadAmounts 119 = .ok (.goto (-40), 3) := by decide +kernel
theorem dX2_spreadAmounts_122 : decode cX2_spreadAmounts 122 = .ok (.iinc 3 1, 3) := by decide +kernel
theorem dX2_spreadAmounts_125 : decode cX2_spreadAmounts 125 = .ok (.goto (-102), 3) := by decide +kernel
theorem dX2_spreadAmounts_128 : decode cX2_spreadAmounts 128 = .ok (.aload_n 0, 1) := by decide +kernel
theorem dX2_spreadAmounts_129 : decode cX2_spreadAmounts 129 = .ok (.getfield 25, 3) := by decide +kernel
theorem dX2_spreadAmounts_132 : decode cX2_spreadAmounts 132 = .ok (.iconst 0, 1) := by decide +kernel
theorem dX2_spreadAmounts_133 : decode cX2_spreadAmounts 133 = .ok (.aload_n 0, 1) := by decide +kernel
theorem dX2_spreadAmounts_134 : decode cX2_spreadAmounts 134 = .ok (.getfield 15, 3) := by decide +kernel
theorem dX2_spreadAmounts_137 : decode cX2_spreadAmounts 137 = .ok (.iconst 0, 1) := by decide +kernel
theorem dX2_spreadAmounts_138 : decode cX2_spreadAmounts 138 = .ok (.bipush 8, 2) := by decide +kernel
theorem dX2_spreadAmounts_140 : decode cX2_spreadAmounts 140 = .ok (.invokestatic 106, 3) := by decide +kernel
theorem dX2_spreadAmounts_143 : decode cX2_spreadAmounts 143 = .ok (.return_, 1) := by decide +kernel
theorem dX2_hear_0 : decode cX2_hear 0 = .ok (.aload_n 0, 1) := by decide +kernel
theorem dX2_hear_1 : decode cX2_hear 1 = .ok (.aload_n 1, 1) := by decide +kernel
theorem dX2_hear_2 : decode cX2_hear 2 = .ok (.iload_n 2, 1) := by decide +kernel
theorem dX2_hear_3 : decode cX2_hear 3 = .ok (.iload_n 3, 1) := by decide +kernel
theorem dX2_hear_4 : decode cX2_hear 4 = .ok (.invokevirtual 112, 3) := by decide +kernel
theorem dX2_hear_7 : decode cX2_hear 7 = .ok (.ifCond .eq 12, 3) := by decide +kernel
theorem dX2_hear_10 : decode cX2_hear 10 = .ok (.iload_n 3, 1) := by decide +kernel
theorem dX2_hear_11 : decode cX2_hear 11 = .ok (.bipush 12, 2) := by decide +kernel
theorem dX2_hear_13 : decode cX2_hear 13 = .ok (.invokestatic 118, 3) := by decide +kernel
theorem dX2_hear_16 : decode cX2_hear 16 = .ok (.goto 4, 3) := by decide +kernel
theorem dX2_hear_19 : decode cX2_hear 19 = .ok (.iconst 0, 1) := by decide +kernel
theorem dX2_hear_20 : decode cX2_hear 20 = .ok (.putfield 49, 3) := by decide +kernel
theorem dX2_hear_23 : decode cX2_hear 23 = .ok (.iconst 0, 1) := by decide +kernel
theorem dX2_hear_24 : decode cX2_hear 24 = .ok (.istore 4, 2) := by decide +kernel
theorem dX2_hear_26 : decode cX2_hear 26 = .ok (.iload 4, 2) := by decide +kernel
theorem dX2_hear_28 : decode cX2_hear 28 = .ok (.aload_n 0, 1) := by decide +kernel
theorem dX2_hear_29 : decode cX2_hear 29 = .ok (.getfield 49, 3) := by decide +kernel
theorem dX2_hear_32 : decode cX2_hear 32 = .ok (.if_icmp .ge 25, 3) := by decide +kernel
theorem dX2_hear_35 : decode cX2_hear 35 = .ok (.aload_n 0, 1) := by decide +kernel
theorem dX2_hear_36 : decode cX2_hear 36 = .ok (.getfield 46, 3) := by decide +kernel
theorem dX2_hear_39 : decode cX2_hear 39 = .ok (.iload 4, 2) := by decide +kernel
theorem dX2_hear_41 : decode cX2_hear 41 = .ok (.aload_n 1, 1) := by decide +kernel
theorem dX2_hear_42 : decode cX2_hear 42 = .ok (.getfield 123, 3) := by decide +kernel
theorem dX2_hear_45 : decode cX2_hear 45 = .ok (.iload_n 2, 1) := by decide +kernel
theorem dX2_hear_46 : decode cX2_hear 46 = .ok (.iload 4, 2) := by decide +kernel
theorem dX2_hear_48 : decode cX2_hear 48 = .ok (.iadd, 1) := by decide +kernel
theorem dX2_hear_49 : decode cX2_hear 49 = .ok (.iaload, 1) := by decide +kernel
theorem dX2_hear_50 : decode cX2_hear 50 = .ok (.iastore, 1) := by decide +kernel
theorem dX2_hear_51 : decode cX2_hear 51 = .ok (.iinc 4 1, 3) := by decide +kernel
theorem dX2_hear_54 : decode cX2_hear 54 = .ok (.goto (-28), 3) := by decide +kernel
theorem dX2_hear_57 : decode cX2_hear 57 = .ok (.return_, 1) := by decide +kernel
theorem dX2_fittingKinds_0 : decode cX2_fittingKinds 0 = .ok (.iconst 0, 1) := by decide +kernel
theorem dX2_fittingKinds_1 : decode cX2_fittingKinds 1 = .ok (.istore_n 3, 1) := by decide +kernel
theorem dX2_fittingKinds_2 : decode cX2_fittingKinds 2 = .ok (.iconst 1, 1) := by decide +kernel
theorem dX2_fittingKinds_3 : decode cX2_fittingKinds 3 = .ok (.istore 4, 2) := by decide +kernel
theorem dX2_fittingKinds_5 : decode cX2_fittingKinds 5 = .ok (.iload 4, 2) := by decide +kernel
theorem dX2_fittingKinds_7 : decode cX2_fittingKinds 7 = .ok (.iconst 5, 1) := by decide +kernel
theorem dX2_fittingKinds_8 : decode cX2_fittingKinds 8 = .ok (.if_icmp .gt 34, 3) := by decide +kernel
theorem dX2_fittingKinds_11 : decode cX2_fittingKinds 11 = .ok (.aload_n 0, 1) := by decide +kernel
theorem dX2_fittingKinds_12 : decode cX2_fittingKinds 12 = .ok (.aload_n 2, 1) := by decide +kernel
theorem dX2_fittingKinds_13 : decode cX2_fittingKinds 13 = .ok (.invokevirtual 126, 3) := by decide +kernel
theorem dX2_fittingKinds_16 : decode cX2_fittingKinds 16 = .ok (.aload_n 0, 1) := by decide +kernel
theorem dX2_fittingKinds_17 : decode cX2_fittingKinds 17 = .ok (.getfield 35, 3) := by decide +kernel
theorem dX2_fittingKinds_20 : decode cX2_fittingKinds 20 = .ok (.iload 4, 2) := by decide +kernel
theorem dX2_fittingKinds_22 : decode cX2_fittingKinds 22 = .ok (.putfield 130, 3) := by decide +kernel
theorem dX2_fittingKinds_25 : decode cX2_fittingKinds 25 = .ok (.iload_n 3, 1) := by decide +kernel
theorem dX2_fittingKinds_26 : decode cX2_fittingKinds 26 = .ok (.aload_n 0, 1) := by decide +kernel
theorem dX2_fittingKinds_27 : decode cX2_fittingKinds 27 = .ok (.aload_n 1, 1) := by decide +kernel
theorem dX2_fittingKinds_28 : decode cX2_fittingKinds 28 = .ok (.aload_n 2, 1) := by decide +kernel
theorem dX2_fittingKinds_29 : decode cX2_fittingKinds 29 = .ok (.iload 4, 2) := by decide +kernel
theorem dX2_fittingKinds_31 : decode cX2_fittingKinds 31 = .ok (.invokevirtual 133, 3) := by decide +kernel
theorem dX2_fittingKinds_34 : decode cX2_fittingKinds 34 = .ok (.ior, 1) := by decide +kernel
theorem dX2_fittingKinds_35 : decode cX2_fittingKinds 35 = .ok (.istore_n 3, 1) := by decide +kernel
theorem dX2_fittingKinds_36 : decode cX2_fittingKinds 36 = .ok (.iinc 4 1, 3) := by decide +kernel
theorem dX2_fittingKinds_39 : decode cX2_fittingKinds 39 = .ok (.goto (-34), 3) := by decide +kernel
theorem dX2_fittingKinds_42 : decode cX2_fittingKinds 42 = .ok (.iload_n 3, 1) := by decide +kernel
theorem dX2_fittingKinds_43 : decode cX2_fittingKinds 43 = .ok (.ireturn, 1) := by decide +kernel
theorem dX2_fittingStarts_0 : decode cX2_fittingStarts 0 = .ok (.iconst 0, 1) := by decide +kernel
theorem dX2_fittingStarts_1 : decode cX2_fittingStarts 1 = .ok (.istore_n 3, 1) := by decide +kernel
theorem dX2_fittingStarts_2 : decode cX2_fittingStarts 2 = .ok (.iconst 0, 1) := by decide +kernel
theorem dX2_fittingStarts_3 : decode cX2_fittingStarts 3 = .ok (.istore 4, 2) := by decide +kernel
theorem dX2_fittingStarts_5 : decode cX2_fittingStarts 5 = .ok (.iload 4, 2) := by decide +kernel
theorem dX2_fittingStarts_7 : decode cX2_fittingStarts 7 = .ok (.aload_n 1, 1) := by decide +kernel
theorem dX2_fittingStarts_8 : decode cX2_fittingStarts 8 = .ok (.getfield 92, 3) := by decide +kernel
theorem dX2_fittingStarts_11 : decode cX2_fittingStarts 11 = .ok (.if_icmp .ge 34, 3) := by decide +kernel
theorem dX2_fittingStarts_14 : decode cX2_fittingStarts 14 = .ok (.aload_n 0, 1) := by decide +kernel
theorem dX2_fittingStarts_15 : decode cX2_fittingStarts 15 = .ok (.aload_n 2, 1) := by decide +kernel
theorem dX2_fittingStarts_16 : decode cX2_fittingStarts 16 = .ok (.invokevirtual 126, 3) := by decide +kernel
theorem dX2_fittingStarts_19 : decode cX2_fittingStarts 19 = .ok (.aload_n 0, 1) := by decide +kernel
theorem dX2_fittingStarts_20 : decode cX2_fittingStarts 20 = .ok (.getfield 35, 3) := by decide +kernel
theorem dX2_fittingStarts_23 : decode cX2_fittingStarts 23 = .ok (.iload 4, 2) := by decide +kernel
theorem dX2_fittingStarts_25 : decode cX2_fittingStarts 25 = .ok (.invokevirtual 137, 3) := by decide +kernel
theorem dX2_fittingStarts_28 : decode cX2_fittingStarts 28 = .ok (.iload_n 3, 1) := by decide +kernel
theorem dX2_fittingStarts_29 : decode cX2_fittingStarts 29 = .ok (.aload_n 0, 1) := by decide +kernel
theorem dX2_fittingStarts_30 : decode cX2_fittingStarts 30 = .ok (.aload_n 1, 1) := by decide +kernel
theorem dX2_fittingStarts_31 : decode cX2_fittingStarts 31 = .ok (.aload_n 2, 1) := by decide +kernel
theorem dX2_fittingStarts_32 : decode cX2_fittingStarts 32 = .ok (.iload 4, 2) := by decide +kernel
theorem dX2_fittingStarts_34 : decode cX2_fittingStarts 34 = .ok (.invokevirtual 133, 3) := by decide +kernel
theorem dX2_fittingStarts_37 : decode cX2_fittingStarts 37 = .ok (.ior, 1) := by decide +kernel
theorem dX2_fittingStarts_38 : decode cX2_fittingStarts 38 = .ok (.istore_n 3, 1) := by decide +kernel
theorem dX2_fittingStarts_39 : decode cX2_fittingStarts 39 = .ok (.iinc 4 1, 3) := by decide +kernel
theorem dX2_fittingStarts_42 : decode cX2_fittingStarts 42 = .ok (.goto (-37), 3) := by decide +kernel
theorem dX2_fittingStarts_45 : decode cX2_fittingStarts 45 = .ok (.iload_n 3, 1) := by decide +kernel
theorem dX2_fittingStarts_46 : decode cX2_fittingStarts 46 = .ok (.ireturn, 1) := by decide +kernel
theorem dX2_fittingLeads_0 : decode cX2_fittingLeads 0 = .ok (.iconst 0, 1) := by decide +kernel
theorem dX2_fittingLeads_1 : decode cX2_fittingLeads 1 = .ok (.istore 4, 2) := by decide +kernel
theorem dX2_fittingLeads_3 : decode cX2_fittingLeads 3 = .ok (.aload_n 0, 1) := by decide +kernel
theorem dX2_fittingLeads_4 : decode cX2_fittingLeads 4 = .ok (.getfield 42, 3) := by decide +kernel
theorem dX2_fittingLeads_7 : decode cX2_fittingLeads 7 = .ok (.aload_n 1, 1) := by decide +kernel
theorem dX2_fittingLeads_8 : decode cX2_fittingLeads 8 = .ok (.invokevirtual 140, 3) := by decide +kernel
theorem dX2_fittingLeads_11 : decode cX2_fittingLeads 11 = .ok (.iconst 0, 1) := by decide +kernel
theorem dX2_fittingLeads_12 : decode cX2_fittingLeads 12 = .ok (.istore 5, 2) := by decide +kernel
theorem dX2_fittingLeads_14 : decode cX2_fittingLeads 14 = .ok (.iload 5, 2) := by decide +kernel
theorem dX2_fittingLeads_16 : decode cX2_fittingLeads 16 = .ok (.aload_n 1, 1) := by decide +kernel
theorem dX2_fittingLeads_17 : decode cX2_fittingLeads 17 = .ok (.getfield 92, 3) := by decide +kernel
theorem dX2_fittingLeads_20 : decode cX2_fittingLeads 20 = .ok (.if_icmp .ge 40, 3) := by decide +kernel
theorem dX2_fittingLeads_23 : decode cX2_fittingLeads 23 = .ok (.aload_n 0, 1) := by decide +kernel
theorem dX2_fittingLeads_24 : decode cX2_fittingLeads 24 = .ok (.aload_n 2, 1) := by decide +kernel
theorem dX2_fittingLeads_25 : decode cX2_fittingLeads 25 = .ok (.invokevirtual 126, 3) := by decide +kernel
theorem dX2_fittingLeads_28 : decode cX2_fittingLeads 28 = .ok (.aload_n 0, 1) := by decide +kernel
theorem dX2_fittingLeads_29 : decode cX2_fittingLeads 29 = .ok (.getfield 42, 3) := by decide +kernel
theorem dX2_fittingLeads_32 : decode cX2_fittingLeads 32 = .ok (.iload_n 3, 1) := by decide +kernel
theorem dX2_fittingLeads_33 : decode cX2_fittingLeads 33 = .ok (.iload 5, 2) := by decide +kernel
theorem dX2_fittingLeads_35 : decode cX2_fittingLeads 35 = .ok (.invokevirtual 143, 3) := by decide +kernel
theorem dX2_fittingLeads_38 : decode cX2_fittingLeads 38 = .ok (.iload 4, 2) := by decide +kernel
theorem dX2_fittingLeads_40 : decode cX2_fittingLeads 40 = .ok (.aload_n 0, 1) := by decide +kernel
theorem dX2_fittingLeads_41 : decode cX2_fittingLeads 41 = .ok (.aload_n 0, 1) := by decide +kernel
theorem dX2_fittingLeads_42 : decode cX2_fittingLeads 42 = .ok (.getfield 42, 3) := by decide +kernel
theorem dX2_fittingLeads_45 : decode cX2_fittingLeads 45 = .ok (.aload_n 2, 1) := by decide +kernel
theorem dX2_fittingLeads_46 : decode cX2_fittingLeads 46 = .ok (.iload 5, 2) := by decide +kernel
theorem dX2_fittingLeads_48 : decode cX2_fittingLeads 48 = .ok (.invokevirtual 133, 3) := by decide +kernel
theorem dX2_fittingLeads_51 : decode cX2_fittingLeads 51 = .ok (.ior, 1) := by decide +kernel
theorem dX2_fittingLeads_52 : decode cX2_fittingLeads 52 = .ok (.istore 4, 2) := by decide +kernel
theorem dX2_fittingLeads_54 : decode cX2_fittingLeads 54 = .ok (.iinc 5 1, 3) := by decide +kernel
theorem dX2_fittingLeads_57 : decode cX2_fittingLeads 57 = .ok (.goto (-43), 3) := by decide +kernel
theorem dX2_fittingLeads_60 : decode cX2_fittingLeads 60 = .ok (.iload 4, 2) := by decide +kernel
theorem dX2_fittingLeads_62 : decode cX2_fittingLeads 62 = .ok (.ireturn, 1) := by decide +kernel
theorem dX2_fittingHomes_0 : decode cX2_fittingHomes 0 = .ok (.iconst 0, 1) := by decide +kernel
theorem dX2_fittingHomes_1 : decode cX2_fittingHomes 1 = .ok (.istore_n 3, 1) := by decide +kernel
theorem dX2_fittingHomes_2 : decode cX2_fittingHomes 2 = .ok (.iconst 0, 1) := by decide +kernel
theorem dX2_fittingHomes_3 : decode cX2_fittingHomes 3 = .ok (.istore 4, 2) := by decide +kernel
theorem dX2_fittingHomes_5 : decode cX2_fittingHomes 5 = .ok (.iload 4, 2) := by decide +kernel
theorem dX2_fittingHomes_7 : decode cX2_fittingHomes 7 = .ok (.aload_n 1, 1) := by decide +kernel
theorem dX2_fittingHomes_8 : decode cX2_fittingHomes 8 = .ok (.getfield 92, 3) := by decide +kernel
theorem dX2_fittingHomes_11 : decode cX2_fittingHomes 11 = .ok (.if_icmp .ge 34, 3) := by decide +kernel
theorem dX2_fittingHomes_14 : decode cX2_fittingHomes 14 = .ok (.aload_n 0, 1) := by decide +kernel
theorem dX2_fittingHomes_15 : decode cX2_fittingHomes 15 = .ok (.aload_n 2, 1) := by decide +kernel
theorem dX2_fittingHomes_16 : decode cX2_fittingHomes 16 = .ok (.invokevirtual 126, 3) := by decide +kernel
theorem dX2_fittingHomes_19 : decode cX2_fittingHomes 19 = .ok (.aload_n 0, 1) := by decide +kernel
theorem dX2_fittingHomes_20 : decode cX2_fittingHomes 20 = .ok (.getfield 35, 3) := by decide +kernel
theorem dX2_fittingHomes_23 : decode cX2_fittingHomes 23 = .ok (.iload 4, 2) := by decide +kernel
theorem dX2_fittingHomes_25 : decode cX2_fittingHomes 25 = .ok (.putfield 147, 3) := by decide +kernel
theorem dX2_fittingHomes_28 : decode cX2_fittingHomes 28 = .ok (.iload_n 3, 1) := by decide +kernel
theorem dX2_fittingHomes_29 : decode cX2_fittingHomes 29 = .ok (.aload_n 0, 1) := by decide +kernel
theorem dX2_fittingHomes_30 : decode cX2_fittingHomes 30 = .ok (.aload_n 1, 1) := by decide +kernel
theorem dX2_fittingHomes_31 : decode cX2_fittingHomes 31 = .ok (.aload_n 2, 1) := by decide +kernel
theorem dX2_fittingHomes_32 : decode cX2_fittingHomes 32 = .ok (.iload 4, 2) := by decide +kernel
theorem dX2_fittingHomes_34 : decode cX2_fittingHomes 34 = .ok (.invokevirtual 133, 3) := by decide +kernel
theorem dX2_fittingHomes_37 : decode cX2_fittingHomes 37 = .ok (.ior, 1) := by decide +kernel
theorem dX2_fittingHomes_38 : decode cX2_fittingHomes 38 = .ok (.istore_n 3, 1) := by decide +kernel
theorem dX2_fittingHomes_39 : decode cX2_fittingHomes 39 = .ok (.iinc 4 1, 3) := by decide +kernel
theorem dX2_fittingHomes_42 : decode cX2_fittingHomes 42 = .ok (.goto (-37), 3) := by decide +kernel
theorem dX2_fittingHomes_45 : decode cX2_fittingHomes 45 = .ok (.iload_n 3, 1) := by decide +kernel
theorem dX2_fittingHomes_46 : decode cX2_fittingHomes 46 = .ok (.ireturn, 1) := by decide +kernel
theorem dX2_guessNow_0 : decode cX2_guessNow 0 = .ok (.aload_n 1, 1) := by decide +kernel
theorem dX2_guessNow_1 : decode cX2_guessNow 1 = .ok (.aload_n 1, 1) := by decide +kernel
theorem dX2_guessNow_2 : decode cX2_guessNow 2 = .ok (.getfield 53, 3) := by decide +kernel
theorem dX2_guessNow_5 : decode cX2_guessNow 5 = .ok (.invokevirtual 56, 3) := by decide +kernel
theorem dX2_guessNow_8 : decode cX2_guessNow 8 = .ok (.ifCond .eq 19, 3) := by decide +kernel
theorem dX2_guessNow_11 : decode cX2_guessNow 11 = .ok (.aload_n 0, 1) := by decide +kernel
theorem dX2_guessNow_12 : decode cX2_guessNow 12 = .ok (.getfield 35, 3) := by decide +kernel
theorem dX2_guessNow_15 : decode cX2_guessNow 15 = .ok (.aload_n 1, 1) := by decide +kernel
theorem dX2_guessNow_16 : decode cX2_guessNow 16 = .ok (.getfield 61, 3) := by decide +kernel
theorem dX2_guessNow_19 : decode cX2_guessNow 19 = .ok (.aload_n 1, 1) := by decide +kernel
theorem dX2_guessNow_20 : decode cX2_guessNow 20 = .ok (.getfield 53, 3) := by decide +kernel
theorem dX2_guessNow_23 : decode cX2_guessNow 23 = .ok (.aaload, 1) := by decide +kernel
theorem dX2_guessNow_24 : decode cX2_guessNow 24 = .ok (.invokevirtual 64, 3) := by decide +kernel
theorem dX2_guessNow_27 : decode cX2_guessNow 27 = .ok (.return_, 1) := by decide +kernel
theorem dX2_bitIfFits_0 : decode cX2_bitIfFits 0 = .ok (.iconst 0, 1) := by decide +kernel
theorem dX2_bitIfFits_1 : decode cX2_bitIfFits 1 = .ok (.istore 4, 2) := by decide +kernel
theorem dX2_bitIfFits_3 : decode cX2_bitIfFits 3 = .ok (.iload 4, 2) := by decide +kernel
theorem dX2_bitIfFits_5 : decode cX2_bitIfFits 5 = .ok (.aload_n 0, 1) := by decide +kernel
theorem dX2_bitIfFits_6 : decode cX2_bitIfFits 6 = .ok (.getfield 49, 3) := by decide +kernel
theorem dX2_bitIfFits_9 : decode cX2_bitIfFits 9 = .ok (.if_icmp .ge 42, 3) := by decide +kernel
theorem dX2_bitIfFits_12 : decode cX2_bitIfFits 12 = .ok (.aload_n 0, 1) := by decide +kernel
theorem dX2_bitIfFits_13 : decode cX2_bitIfFits 13 = .ok (.getfield 35, 3) := by decide +kernel
theorem dX2_bitIfFits_16 : decode cX2_bitIfFits 16 = .ok (.aload_n 1, 1) := by decide +kernel
theorem dX2_bitIfFits_17 : decode cX2_bitIfFits 17 = .ok (.iconst 2, 1) := by decide +kernel
theorem dX2_bitIfFits_18 : decode cX2_bitIfFits 18 = .ok (.aload_n 2, 1) := by decide +kernel
theorem dX2_bitIfFits_19 : decode cX2_bitIfFits 19 = .ok (.invokevirtual 68, 3) := by decide +kernel
theorem dX2_bitIfFits_22 : decode cX2_bitIfFits 22 = .ok (.invokevirtual 80, 3) := by decide +kernel
theorem dX2_bitIfFits_25 : decode cX2_bitIfFits 25 = .ok (.pop, 1) := by decide +kernel
theorem dX2_bitIfFits_26 : decode cX2_bitIfFits 26 = .ok (.aload_n 0, 1) := by decide +kernel
theorem dX2_bitIfFits_27 : decode cX2_bitIfFits 27 = .ok (.getfield 35, 3) := by decide +kernel
theorem dX2_bitIfFits_30 : decode cX2_bitIfFits 30 = .ok (.invokevirtual 76, 3) := by decide +kernel
theorem dX2_bitIfFits_33 : decode cX2_bitIfFits 33 = .ok (.aload_n 0, 1) := by decide +kernel
theorem dX2_bitIfFits_34 : decode cX2_bitIfFits 34 = .ok (.getfield 46, 3) := by decide +kernel
theorem dX2_bitIfFits_37 : decode cX2_bitIfFits 37 = .ok (.iload 4, 2) := by decide +kernel
theorem dX2_bitIfFits_39 : decode cX2_bitIfFits 39 = .ok (.iaload, 1) := by decide +kernel
theorem dX2_bitIfFits_40 : decode cX2_bitIfFits 40 = .ok (.if_icmp .eq 5, 3) := by decide +kernel
theorem dX2_bitIfFits_43 : decode cX2_bitIfFits 43 = .ok (.iconst 0, 1) := by decide +kernel
theorem dX2_bitIfFits_44 : decode cX2_bitIfFits 44 = .ok (.ireturn, 1) := by decide +kernel
theorem dX2_bitIfFits_45 : decode cX2_bitIfFits 45 = .ok (.iinc 4 1, 3) := by decide +kernel
theorem dX2_bitIfFits_48 : decode cX2_bitIfFits 48 = .ok (.goto (-45), 3) := by decide +kernel
theorem dX2_bitIfFits_51 : decode cX2_bitIfFits 51 = .ok (.iconst 1, 1) := by decide +kernel
theorem dX2_bitIfFits_52 : decode cX2_bitIfFits 52 = .ok (.iload_n 3, 1) := by decide +kernel
theorem dX2_bitIfFits_53 : decode cX2_bitIfFits 53 = .ok (.ishl, 1) := by decide +kernel
theorem dX2_bitIfFits_54 : decode cX2_bitIfFits 54 = .ok (.ireturn, 1) := by decide +kernel
theorem dX2_spendEvening_0 : decode cX2_spendEvening 0 = .ok (.aload_n 0, 1) := by decide +kernel
theorem dX2_spendEvening_1 : decode cX2_spendEvening 1 = .ok (.getfield 21, 3) := by decide +kernel
theorem dX2_spendEvening_4 : decode cX2_spendEvening 4 = .ok (.aload_n 2, 1) := by decide +kernel
theorem dX2_spendEvening_5 : decode cX2_spendEvening 5 = .ok (.invokevirtual 150, 3) := by decide +kernel
theorem dX2_spendEvening_8 : decode cX2_spendEvening 8 = .ok (.iload 4, 2) := by decide +kernel
theorem dX2_spendEvening_10 : decode cX2_spendEvening 10 = .ok (.i2l, 1) := by decide +kernel
theorem dX2_spendEvening_11 : decode cX2_spendEvening 11 = .ok (.lstore 5, 2) := by decide +kernel
theorem dX2_spendEvening_13 : decode cX2_spendEvening 13 = .ok (.iconst 0, 1) := by decide +kernel
theorem dX2_spendEvening_14 : decode cX2_spendEvening 14 = .ok (.istore 7, 2) := by decide +kernel
theorem dX2_spendEvening_16 : decode cX2_spendEvening 16 = .ok (.iconst 0, 1) := by decide +kernel
theorem dX2_spendEvening_17 : decode cX2_spendEvening 17 = .ok (.istore 8, 2) := by decide +kernel
theorem dX2_spendEvening_19 : decode cX2_spendEvening 19 = .ok (.iload 8, 2) := by decide +kernel
theorem dX2_spendEvening_21 : decode cX2_spendEvening 21 = .ok (.iload_n 3, 1) := by decide +kernel
theorem dX2_spendEvening_22 : decode cX2_spendEvening 22 = .ok (.if_icmp .ge 42, 3) := by decide +kernel
theorem dX2_spendEvening_25 : decode cX2_spendEvening 25 = .ok (.lload 5, 2) := by decide +kernel
theorem dX2_spendEvening_27 : decode cX2_spendEvening 27 = .ok (.ldc2_w 152, 3) := by decide +kernel
theorem dX2_spendEvening_30 : decode cX2_spendEvening 30 = .ok (.lmul, 1) := by decide +kernel
theorem dX2_spendEvening_31 : decode cX2_spendEvening 31 = .ok (.ldc2_w 154, 3) := by decide +kernel
theorem dX2_spendEvening_34 : decode cX2_spendEvening 34 = .ok (.lrem, 1) := by decide +kernel
theorem dX2_spendEvening_35 : decode cX2_spendEvening 35 = .ok (.lstore 5, 2) := by decide +kernel
theorem dX2_spendEvening_37 : decode cX2_spendEvening 37 = .ok (.iload 7, 2) := by decide +kernel
theorem dX2_spendEvening_39 : decode cX2_spendEvening 39 = .ok (.aload_n 0, 1) := by decide +kernel
theorem dX2_spendEvening_40 : decode cX2_spendEvening 40 = .ok (.aload_n 1, 1) := by decide +kernel
theorem dX2_spendEvening_41 : decode cX2_spendEvening 41 = .ok (.lload 5, 2) := by decide +kernel
theorem dX2_spendEvening_43 : decode cX2_spendEvening 43 = .ok (.l2i, 1) := by decide +kernel
theorem dX2_spendEvening_44 : decode cX2_spendEvening 44 = .ok (.invokevirtual 156, 3) := by decide +kernel
theorem dX2_spendEvening_47 : decode cX2_spendEvening 47 = .ok (.ifCond .eq 7, 3) := by decide +kernel
theorem dX2_spendEvening_50 : decode cX2_spendEvening 50 = .ok (.iconst 1, 1) := by decide +kernel
theorem dX2_spendEvening_51 : decode cX2_spendEvening 51 = .ok (.goto 4, 3) := by decide +kernel
theorem dX2_spendEvening_54 : decode cX2_spendEvening 54 = .ok (.iconst 0, 1) := by decide +kernel
theorem dX2_spendEvening_55 : decode cX2_spendEvening 55 = .ok (.iadd, 1) := by decide +kernel
theorem dX2_spendEvening_56 : decode cX2_spendEvening 56 = .ok (.istore 7, 2) := by decide +kernel
theorem dX2_spendEvening_58 : decode cX2_spendEvening 58 = .ok (.iinc 8 1, 3) := by decide +kernel
theorem dX2_spendEvening_61 : decode cX2_spendEvening 61 = .ok (.goto (-42), 3) := by decide +kernel
theorem dX2_spendEvening_64 : decode cX2_spendEvening 64 = .ok (.iload 7, 2) := by decide +kernel
theorem dX2_spendEvening_66 : decode cX2_spendEvening 66 = .ok (.ireturn, 1) := by decide +kernel
theorem dX2_drawnAct_0 : decode cX2_drawnAct 0 = .ok (.iload_n 2, 1) := by decide +kernel
theorem dX2_drawnAct_1 : decode cX2_drawnAct 1 = .ok (.ifCond .lt 20, 3) := by decide +kernel
theorem dX2_drawnAct_4 : decode cX2_drawnAct 4 = .ok (.aload_n 0, 1) := by decide +kernel
theorem dX2_drawnAct_5 : decode cX2_drawnAct 5 = .ok (.getfield 21, 3) := by decide +kernel
theorem dX2_drawnAct_8 : decode cX2_drawnAct 8 = .ok (.getfield 160, 3) := by decide +kernel
theorem dX2_drawnAct_11 : decode cX2_drawnAct 11 = .ok (.ifCond .le 10, 3) := by decide +kernel
theorem dX2_drawnAct_14 : decode cX2_drawnAct 14 = .ok (.aload_n 1, 1) := by decide +kernel
theorem dX2_drawnAct_15 : decode cX2_drawnAct 15 = .ok (.getfield 92, 3) := by decide +kernel
theorem dX2_drawnAct_18 : decode cX2_drawnAct 18 = .ok (.ifCond .gt 5, 3) := by decide +kernel
theorem dX2_drawnAct_21 : decode cX2_drawnAct 21 = .ok (.iconst 0, 1) := by decide +kernel
theorem dX2_drawnAct_22 : decode cX2_drawnAct 22 = .ok (.ireturn, 1) := by decide +kernel
theorem dX2_drawnAct_23 : decode cX2_drawnAct 23 = .ok (.iload_n 2, 1) := by decide +kernel
theorem dX2_drawnAct_24 : decode cX2_drawnAct 24 = .ok (.bipush 7, 2) := by decide +kernel
theorem dX2_drawnAct_26 : decode cX2_drawnAct 26 = .ok (.irem, 1) := by decide +kernel
theorem dX2_drawnAct_27 : decode cX2_drawnAct 27 = .ok (.istore_n 3, 1) := by decide +kernel
theorem dX2_drawnAct_28 : decode cX2_drawnAct 28 = .ok (.iload_n 3, 1) := by decide +kernel
theorem dX2_drawnAct_29 : decode cX2_drawnAct 29 = .ok (.tableswitch 84 3 6 #[31, 41, 60, 74], 31) := by decide +kernel
theorem dX2_drawnAct_60 : decode cX2_drawnAct 60 = .ok (.aload_n 0, 1) := by decide +kernel
theorem dX2_drawnAct_61 : decode cX2_drawnAct 61 = .ok (.getfield 21, 3) := by decide +kernel
theorem dX2_drawnAct_64 : decode cX2_drawnAct 64 = .ok (.invokevirtual 163, 3) := by decide +kernel
theorem dX2_drawnAct_67 : decode cX2_drawnAct 67 = .ok (.pop, 1) := by decide +kernel
theorem dX2_drawnAct_68 : decode cX2_drawnAct 68 = .ok (.iconst 0, 1) := by decide +kernel
theorem dX2_drawnAct_69 : decode cX2_drawnAct 69 = .ok (.ireturn, 1) := by decide +kernel
theorem dX2_drawnAct_70 : decode cX2_drawnAct 70 = .ok (.aload_n 0, 1) := by decide +kernel
theorem dX2_drawnAct_71 : decode cX2_drawnAct 71 = .ok (.getfield 21, 3) := by decide +kernel
theorem dX2_drawnAct_74 : decode cX2_drawnAct 74 = .ok (.iload_n 2, 1) := by decide +kernel
theorem dX2_drawnAct_75 : decode cX2_drawnAct 75 = .ok (.aload_n 0, 1) := by decide +kernel
theorem dX2_drawnAct_76 : decode cX2_drawnAct 76 = .ok (.getfield 21, 3) := by decide +kernel
theorem dX2_drawnAct_79 : decode cX2_drawnAct 79 = .ok (.getfield 160, 3) := by decide +kernel
theorem dX2_drawnAct_82 : decode cX2_drawnAct 82 = .ok (.irem, 1) := by decide +kernel
theorem dX2_drawnAct_83 : decode cX2_drawnAct 83 = .ok (.invokevirtual 166, 3) := by decide +kernel
theorem dX2_drawnAct_86 : decode cX2_drawnAct 86 = .ok (.pop, 1) := by decide +kernel
theorem dX2_drawnAct_87 : decode cX2_drawnAct 87 = .ok (.iconst 0, 1) := by decide +kernel
theorem dX2_drawnAct_88 : decode cX2_drawnAct 88 = .ok (.ireturn, 1) := by decide +kernel
theorem dX2_drawnAct_89 : decode cX2_drawnAct 89 = .ok (.aload_n 0, 1) := by decide +kernel
theorem dX2_drawnAct_90 : decode cX2_drawnAct 90 = .ok (.getfield 21, 3) := by decide +kernel
theorem dX2_drawnAct_93 : decode cX2_drawnAct 93 = .ok (.iload_n 2, 1) := by decide +kernel
theorem dX2_drawnAct_94 : decode cX2_drawnAct 94 = .ok (.aload_n 1, 1) := by decide +kernel
theorem dX2_drawnAct_95 : decode cX2_drawnAct 95 = .ok (.getfield 92, 3) := by decide +kernel
theorem dX2_drawnAct_98 : decode cX2_drawnAct 98 = .ok (.irem, 1) := by decide +kernel
theorem dX2_drawnAct_99 : decode cX2_drawnAct 99 = .ok (.invokevirtual 169, 3) := by decide +kernel
theorem dX2_drawnAct_102 : decode cX2_drawnAct 102 = .ok (.ireturn, 1) := by decide +kernel
theorem dX2_drawnAct_103 : decode cX2_drawnAct 103 = .ok (.aload_n 0, 1) := by decide +kernel
theorem dX2_drawnAct_104 : decode cX2_drawnAct 104 = .ok (.getfield 21, 3) := by decide +kernel
theorem dX2_drawnAct_107 : decode cX2_drawnAct 107 = .ok (.invokevirtual 172, 3) := by decide +kernel
theorem dX2_drawnAct_110 : decode cX2_drawnAct 110 = .ok (.pop, 1) := by decide +kernel
theorem dX2_drawnAct_111 : decode cX2_drawnAct 111 = .ok (.iconst 0, 1) := by decide +kernel
theorem dX2_drawnAct_112 : decode cX2_drawnAct 112 = .ok (.ireturn, 1) := by decide +kernel
theorem dX2_drawnAct_113 : decode cX2_drawnAct 113 = .ok (.aload_n 0, 1) := by decide +kernel
theorem dX2_drawnAct_114 : decode cX2_drawnAct 114 = .ok (.getfield 21, 3) := by decide +kernel
theorem dX2_drawnAct_117 : decode cX2_drawnAct 117 = .ok (.aload_n 1, 1) := by decide +kernel
theorem dX2_drawnAct_118 : decode cX2_drawnAct 118 = .ok (.iload_n 3, 1) := by decide +kernel
theorem dX2_drawnAct_119 : decode cX2_drawnAct 119 = .ok (.invokevirtual 175, 3) := by decide +kernel
theorem dX2_drawnAct_122 : decode cX2_drawnAct 122 = .ok (.ireturn, 1) := by decide +kernel
theorem dX3_init_0 : decode cX3_init 0 = .ok (.aload_n 0, 1) := by decide +kernel
theorem dX3_init_1 : decode cX3_init 1 = .ok (.invokespecial 3, 3) := by decide +kernel
theorem dX3_init_4 : decode cX3_init 4 = .ok (.aload_n 0, 1) := by decide +kernel
theorem dX3_init_5 : decode cX3_init 5 = .ok (.bipush 25, 2) := by decide +kernel
theorem dX3_init_7 : decode cX3_init 7 = .ok (.anewarray 11, 3) := by decide +kernel
theorem dX3_init_10 : decode cX3_init 10 = .ok (.putfield 13, 3) := by decide +kernel
theorem dX3_init_13 : decode cX3_init 13 = .ok (.aload_n 0, 1) := by decide +kernel
theorem dX3_init_14 : decode cX3_init 14 = .ok (.iconst 0, 1) := by decide +kernel
theorem dX3_init_15 : decode cX3_init 15 = .ok (.putfield 17, 3) := by decide +kernel
theorem dX3_init_18 : decode cX3_init 18 = .ok (.aload_n 0, 1) := by decide +kernel
theorem dX3_init_19 : decode cX3_init 19 = .ok (.iconst 0, 1) := by decide +kernel
theorem dX3_init_20 : decode cX3_init 20 = .ok (.putfield 21, 3) := by decide +kernel
theorem dX3_init_23 : decode cX3_init 23 = .ok (.iconst 0, 1) := by decide +kernel
theorem dX3_init_24 : decode cX3_init 24 = .ok (.istore_n 1, 1) := by decide +kernel
theorem dX3_init_25 : decode cX3_init 25 = .ok (.iload_n 1, 1) := by decide +kernel
theorem dX3_init_26 : decode cX3_init 26 = .ok (.aload_n 0, 1) := by decide +kernel
theorem dX3_init_27 : decode cX3_init 27 = .ok (.getfield 13, 3) := by decide +kernel
theorem dX3_init_30 : decode cX3_init 30 = .ok (.arraylength, 1) := by decide +kernel
theorem dX3_init_31 : decode cX3_init 31 = .ok (.if_icmp .ge 22, 3) := by decide +kernel
theorem dX3_init_34 : decode cX3_init 34 = .ok (.aload_n 0, 1) := by decide +kernel
theorem dX3_init_35 : decode cX3_init 35 = .ok (.getfield 13, 3) := by decide +kernel
theorem dX3_init_38 : decode cX3_init 38 = .ok (.iload_n 1, 1) := by decide +kernel
theorem dX3_init_39 : decode cX3_init 39 = .ok (.new 11, 3) := by decide +kernel
theorem dX3_init_42 : decode cX3_init 42 = .ok (.dup, 1) := by decide +kernel
theorem dX3_init_43 : decode cX3_init 43 = .ok (.invokespecial 24, 3) := by decide +kernel
theorem dX3_init_46 : decode cX3_init 46 = .ok (.aastore, 1) := by decide +kernel
theorem dX3_init_47 : decode cX3_init 47 = .ok (.iinc 1 1, 3) := by decide +kernel
theorem dX3_init_50 : decode cX3_init 50 = .ok (.goto (-25), 3) := by decide +kernel
theorem dX3_init_53 : decode cX3_init 53 = .ok (.return_, 1) := by decide +kernel
theorem dX3_forget_0 : decode cX3_forget 0 = .ok (.aload_n 0, 1) := by decide +kernel
theorem dX3_forget_1 : decode cX3_forget 1 = .ok (.iconst 0, 1) := by decide +kernel
theorem dX3_forget_2 : decode cX3_forget 2 = .ok (.putfield 21, 3) := by decide +kernel
theorem dX3_forget_5 : decode cX3_forget 5 = .ok (.return_, 1) := by decide +kernel
theorem dX3_prepare_0 : decode cX3_prepare 0 = .ok (.aload_n 0, 1) := by decide +kernel
theorem dX3_prepare_1 : decode cX3_prepare 1 = .ok (.getfield 13, 3) := by decide +kernel
theorem dX3_prepare_4 : decode cX3_prepare 4 = .ok (.aload_n 0, 1) := by decide +kernel
theorem dX3_prepare_5 : decode cX3_prepare 5 = .ok (.getfield 17, 3) := by decide +kernel
theorem dX3_prepare_8 : decode cX3_prepare 8 = .ok (.aaload, 1) := by decide +kernel
theorem dX3_prepare_9 : decode cX3_prepare 9 = .ok (.aload_n 1, 1) := by decide +kernel
theorem dX3_prepare_10 : decode cX3_prepare 10 = .ok (.invokevirtual 25, 3) := by decide +kernel
theorem dX3_prepare_13 : decode cX3_prepare 13 = .ok (.return_, 1) := by decide +kernel
theorem dX3_commit_0 : decode cX3_commit 0 = .ok (.aload_n 0, 1) := by decide +kernel
theorem dX3_commit_1 : decode cX3_commit 1 = .ok (.aload_n 0, 1) := by decide +kernel
theorem dX3_commit_2 : decode cX3_commit 2 = .ok (.getfield 17, 3) := by decide +kernel
theorem dX3_commit_5 : decode cX3_commit 5 = .ok (.iconst 1, 1) := by decide +kernel
theorem dX3_commit_6 : decode cX3_commit 6 = .ok (.iadd, 1) := by decide +kernel
theorem dX3_commit_7 : decode cX3_commit 7 = .ok (.bipush 25, 2) := by decide +kernel
theorem dX3_commit_9 : decode cX3_commit 9 = .ok (.irem, 1) := by decide +kernel
theorem dX3_commit_10 : decode cX3_commit 10 = .ok (.putfield 17, 3) := by decide +kernel
theorem dX3_commit_13 : decode cX3_commit 13 = .ok (.aload_n 0, 1) := by decide +kernel
theorem dX3_commit_14 : decode cX3_commit 14 = .ok (.aload_n 0, 1) := by decide +kernel
theorem dX3_commit_15 : decode cX3_commit 15 = .ok (.getfield 21, 3) := by decide +kernel
theorem dX3_commit_18 : decode cX3_commit 18 = .ok (.iconst 1, 1) := by decide +kernel
theorem dX3_commit_19 : decode cX3_commit 19 = .ok (.iadd, 1) := by decide +kernel
theorem dX3_commit_20 : decode cX3_commit 20 = .ok (.bipush 24, 2) := by decide +kernel
theorem dX3_commit_22 : decode cX3_commit 22 = .ok (.invokestatic 29, 3) := by decide +kernel
theorem dX3_commit_25 : decode cX3_commit 25 = .ok (.putfield 21, 3) := by decide +kernel
theorem dX3_commit_28 : decode cX3_commit 28 = .ok (.return_, 1) := by decide +kernel
theorem dX3_takeBack_0 : decode cX3_takeBack 0 = .ok (.aload_n 0, 1) := by decide +kernel
theorem dX3_takeBack_1 : decode cX3_takeBack 1 = .ok (.getfield 21, 3) := by decide +kernel
theorem dX3_takeBack_4 : decode cX3_takeBack 4 = .ok (.iconst 1, 1) := by decide +kernel
theorem dX3_takeBack_5 : decode cX3_takeBack 5 = .ok (.if_icmp .ge 5, 3) := by decide +kernel
theorem dX3_takeBack_8 : decode cX3_takeBack 8 = .ok (.iconst 0, 1) := by decide +kernel
theorem dX3_takeBack_9 : decode cX3_takeBack 9 = .ok (.ireturn, 1) := by decide +kernel
theorem dX3_takeBack_10 : decode cX3_takeBack 10 = .ok (.aload_n 0, 1) := by decide +kernel
theorem dX3_takeBack_11 : decode cX3_takeBack 11 = .ok (.dup, 1) := by decide +kernel
theorem dX3_takeBack_12 : decode cX3_takeBack 12 = .ok (.getfield 21, 3) := by decide +kernel
theorem dX3_takeBack_15 : decode cX3_takeBack 15 = .ok (.iconst 1, 1) := by decide +kernel
theorem dX3_takeBack_16 : decode cX3_takeBack 16 = .ok (.isub, 1) := by decide +kernel
theorem dX3_takeBack_17 : decode cX3_takeBack 17 = .ok (.putfield 21, 3) := by decide +kernel
theorem dX3_takeBack_20 : decode cX3_takeBack 20 = .ok (.aload_n 0, 1) := by decide +kernel
theorem dX3_takeBack_21 : decode cX3_takeBack 21 = .ok (.aload_n 0, 1) := by decide +kernel
theorem dX3_takeBack_22 : decode cX3_takeBack 22 = .ok (.getfield 17, 3) := by decide +kernel
theorem dX3_takeBack_25 : decode cX3_takeBack 25 = .ok (.bipush 25, 2) := by decide +kernel
theorem dX3_takeBack_27 : decode cX3_takeBack 27 = .ok (.iadd, 1) := by decide +kernel
theorem dX3_takeBack_28 : decode cX3_takeBack 28 = .ok (.iconst 1, 1) := by decide +kernel
theorem dX3_takeBack_29 : decode cX3_takeBack 29 = .ok (.isub, 1) := by decide +kernel
theorem dX3_takeBack_30 : decode cX3_takeBack 30 = .ok (.bipush 25, 2) := by decide +kernel
theorem dX3_takeBack_32 : decode cX3_takeBack 32 = .ok (.irem, 1) := by decide +kernel
theorem dX3_takeBack_33 : decode cX3_takeBack 33 = .ok (.putfield 17, 3) := by decide +kernel
theorem dX3_takeBack_36 : decode cX3_takeBack 36 = .ok (.aload_n 1, 1) := by decide +kernel
theorem dX3_takeBack_37 : decode cX3_takeBack 37 = .ok (.aload_n 0, 1) := by decide +kernel
theorem dX3_takeBack_38 : decode cX3_takeBack 38 = .ok (.getfield 13, 3) := by decide +kernel
theorem dX3_takeBack_41 : decode cX3_takeBack 41 = .ok (.aload_n 0, 1) := by decide +kernel
theorem dX3_takeBack_42 : decode cX3_takeBack 42 = .ok (.getfield 17, 3) := by decide +kernel
theorem dX3_takeBack_45 : decode cX3_takeBack 45 = .ok (.aaload, 1) := by decide +kernel
theorem dX3_takeBack_46 : decode cX3_takeBack 46 = .ok (.invokevirtual 25, 3) := by decide +kernel
theorem dX3_takeBack_49 : decode cX3_takeBack 49 = .ok (.iconst 1, 1) := by decide +kernel
theorem dX3_takeBack_50 : decode cX3_takeBack 50 = .ok (.ireturn, 1) := by decide +kernel
theorem dX4_init_0 : decode cX4_init 0 = .ok (.aload_n 0, 1) := by decide +kernel
theorem dX4_init_1 : decode cX4_init 1 = .ok (.invokespecial 1, 3) := by decide +kernel
theorem dX4_init_4 : decode cX4_init 4 = .ok (.aload_n 0, 1) := by decide +kernel
theorem dX4_init_5 : decode cX4_init 5 = .ok (.new 7, 3) := by decide +kernel
theorem dX4_init_8 : decode cX4_init 8 = .ok (.dup, 1) := by decide +kernel
theorem dX4_init_9 : decode cX4_init 9 = .ok (.invokespecial 9, 3) := by decide +kernel
theorem dX4_init_12 : decode cX4_init 12 = .ok (.putfield 10, 3) := by decide +kernel
theorem dX4_init_15 : decode cX4_init 15 = .ok (.aload_n 0, 1) := by decide +kernel
theorem dX4_init_16 : decode cX4_init 16 = .ok (.new 16, 3) := by decide +kernel
theorem dX4_init_19 : decode cX4_init 19 = .ok (.dup, 1) := by decide +kernel
theorem dX4_init_20 : decode cX4_init 20 = .ok (.invokespecial 18, 3) := by decide +kernel
theorem dX4_init_23 : decode cX4_init 23 = .ok (.putfield 19, 3) := by decide +kernel
theorem dX4_init_26 : decode cX4_init 26 = .ok (.aload_n 0, 1) := by decide +kernel
theorem dX4_init_27 : decode cX4_init 27 = .ok (.iconst 0, 1) := by decide +kernel
theorem dX4_init_28 : decode cX4_init 28 = .ok (.putfield 23, 3) := by decide +kernel
theorem dX4_init_31 : decode cX4_init 31 = .ok (.return_, 1) := by decide +kernel
theorem dX4_keep_0 : decode cX4_keep 0 = .ok (.aload_n 0, 1) := by decide +kernel
theorem dX4_keep_1 : decode cX4_keep 1 = .ok (.getfield 10, 3) := by decide +kernel
theorem dX4_keep_4 : decode cX4_keep 4 = .ok (.aload_n 1, 1) := by decide +kernel
theorem dX4_keep_5 : decode cX4_keep 5 = .ok (.invokevirtual 27, 3) := by decide +kernel
theorem dX4_keep_8 : decode cX4_keep 8 = .ok (.aload_n 0, 1) := by decide +kernel
theorem dX4_keep_9 : decode cX4_keep 9 = .ok (.getfield 19, 3) := by decide +kernel
theorem dX4_keep_12 : decode cX4_keep 12 = .ok (.aload_n 2, 1) := by decide +kernel
theorem dX4_keep_13 : decode cX4_keep 13 = .ok (.invokevirtual 31, 3) := by decide +kernel
theorem dX4_keep_16 : decode cX4_keep 16 = .ok (.aload_n 0, 1) := by decide +kernel
theorem dX4_keep_17 : decode cX4_keep 17 = .ok (.iconst 1, 1) := by decide +kernel
theorem dX4_keep_18 : decode cX4_keep 18 = .ok (.putfield 23, 3) := by decide +kernel
theorem dX4_keep_21 : decode cX4_keep 21 = .ok (.return_, 1) := by decide +kernel
end
section
theorem dX5_init_0 : decode cX5_init 0 = .ok (.aload_n 0, 1) := by decide +kernel
theorem dX5_init_1 : decode cX5_init 1 = .ok (.invokespecial 3, 3) := by decide +kernel
theorem dX5_init_4 : decode cX5_init 4 = .ok (.aload_n 0, 1) := by decide +kernel
theorem dX5_init_5 : decode cX5_init 5 = .ok (.bipush 80, 2) := by decide +kernel
theorem dX5_init_7 : decode cX5_init 7 = .ok (.newarray .int, 2) := by decide +kernel
theorem dX5_init_9 : decode cX5_init 9 = .ok (.putfield 9, 3) := by decide +kernel
theorem dX5_init_12 : decode cX5_init 12 = .ok (.aload_n 0, 1) := by decide +kernel
theorem dX5_init_13 : decode cX5_init 13 = .ok (.new 15, 3) := by decide +kernel
theorem dX5_init_16 : decode cX5_init 16 = .ok (.dup, 1) := by decide +kernel
theorem dX5_init_17 : decode cX5_init 17 = .ok (.invokespecial 17, 3) := by decide +kernel
theorem dX5_init_20 : decode cX5_init 20 = .ok (.putfield 18, 3) := by decide +kernel
theorem dX5_init_23 : decode cX5_init 23 = .ok (.aload_n 0, 1) := by decide +kernel
theorem dX5_init_24 : decode cX5_init 24 = .ok (.new 22, 3) := by decide +kernel
theorem dX5_init_27 : decode cX5_init 27 = .ok (.dup, 1) := by decide +kernel
theorem dX5_init_28 : decode cX5_init 28 = .ok (.invokespecial 24, 3) := by decide +kernel
theorem dX5_init_31 : decode cX5_init 31 = .ok (.putfield 25, 3) := by decide +kernel
theorem dX5_init_34 : decode cX5_init 34 = .ok (.aload_n 0, 1) := by decide +kernel
theorem dX5_init_35 : decode cX5_init 35 = .ok (.iconst 0, 1) := by decide +kernel
theorem dX5_init_36 : decode cX5_init 36 = .ok (.putfield 29, 3) := by decide +kernel
theorem dX5_init_39 : decode cX5_init 39 = .ok (.aload_n 0, 1) := by decide +kernel
theorem dX5_init_40 : decode cX5_init 40 = .ok (.iconst 0, 1) := by decide +kernel
theorem dX5_init_41 : decode cX5_init 41 = .ok (.putfield 33, 3) := by decide +kernel
theorem dX5_init_44 : decode cX5_init 44 = .ok (.aload_n 0, 1) := by decide +kernel
theorem dX5_init_45 : decode cX5_init 45 = .ok (.iconst 0, 1) := by decide +kernel
theorem dX5_init_46 : decode cX5_init 46 = .ok (.putfield 36, 3) := by decide +kernel
theorem dX5_init_49 : decode cX5_init 49 = .ok (.aload_n 0, 1) := by decide +kernel
theorem dX5_init_50 : decode cX5_init 50 = .ok (.iconst 0, 1) := by decide +kernel
theorem dX5_init_51 : decode cX5_init 51 = .ok (.putfield 39, 3) := by decide +kernel
theorem dX5_init_54 : decode cX5_init 54 = .ok (.aload_n 0, 1) := by decide +kernel
theorem dX5_init_55 : decode cX5_init 55 = .ok (.iconst (-1), 1) := by decide +kernel
theorem dX5_init_56 : decode cX5_init 56 = .ok (.putfield 42, 3) := by decide +kernel
theorem dX5_init_59 : decode cX5_init 59 = .ok (.aload_n 0, 1) := by decide +kernel
theorem dX5_init_60 : decode cX5_init 60 = .ok (.iconst 0, 1) := by decide +kernel
theorem dX5_init_61 : decode cX5_init 61 = .ok (.putfield 45, 3) := by decide +kernel
theorem dX5_init_64 : decode cX5_init 64 = .ok (.aload_n 0, 1) := by decide +kernel
theorem dX5_init_65 : decode cX5_init 65 = .ok (.iconst 0, 1) := by decide +kernel
theorem dX5_init_66 : decode cX5_init 66 = .ok (.putfield 48, 3) := by decide +kernel
theorem dX5_init_69 : decode cX5_init 69 = .ok (.aload_n 0, 1) := by decide +kernel
theorem dX5_init_70 : decode cX5_init 70 = .ok (.iconst 0, 1) := by decide +kernel
theorem dX5_init_71 : decode cX5_init 71 = .ok (.putfield 51, 3) := by decide +kernel
theorem dX5_init_74 : decode cX5_init 74 = .ok (.return_, 1) := by decide +kernel
theorem dX5_put_0 : decode cX5_put 0 = .ok (.aload_n 0, 1) := by decide +kernel
theorem dX5_put_1 : decode cX5_put 1 = .ok (.getfield 29, 3) := by decide +kernel
theorem dX5_put_4 : decode cX5_put 4 = .ok (.ifCond .lt 12, 3) := by decide +kernel
theorem dX5_put_7 : decode cX5_put 7 = .ok (.aload_n 0, 1) := by decide +kernel
theorem dX5_put_8 : decode cX5_put 8 = .ok (.getfield 29, 3) := by decide +kernel
theorem dX5_put_11 : decode cX5_put 11 = .ok (.bipush 80, 2) := by decide +kernel
theorem dX5_put_13 : decode cX5_put 13 = .ok (.if_icmp .lt 5, 3) := by decide +kernel
theorem dX5_put_16 : decode cX5_put 16 = .ok (.iconst 0, 1) := by decide +kernel
theorem dX5_put_17 : decode cX5_put 17 = .ok (.ireturn, 1) := by decide +kernel
theorem dX5_put_18 : decode cX5_put 18 = .ok (.aload_n 0, 1) := by decide +kernel
theorem dX5_put_19 : decode cX5_put 19 = .ok (.getfield 9, 3) := by decide +kernel
theorem dX5_put_22 : decode cX5_put 22 = .ok (.aload_n 0, 1) := by decide +kernel
theorem dX5_put_23 : decode cX5_put 23 = .ok (.getfield 29, 3) := by decide +kernel
theorem dX5_put_26 : decode cX5_put 26 = .ok (.iload_n 1, 1) := by decide +kernel
theorem dX5_put_27 : decode cX5_put 27 = .ok (.iastore, 1) := by decide +kernel
theorem dX5_put_28 : decode cX5_put 28 = .ok (.aload_n 0, 1) := by decide +kernel
theorem dX5_put_29 : decode cX5_put 29 = .ok (.dup, 1) := by decide +kernel
theorem dX5_put_30 : decode cX5_put 30 = .ok (.getfield 29, 3) := by decide +kernel
theorem dX5_put_33 : decode cX5_put 33 = .ok (.iconst 1, 1) := by decide +kernel
theorem dX5_put_34 : decode cX5_put 34 = .ok (.iadd, 1) := by decide +kernel
theorem dX5_put_35 : decode cX5_put 35 = .ok (.putfield 29, 3) := by decide +kernel
theorem dX5_put_38 : decode cX5_put 38 = .ok (.iconst 1, 1) := by decide +kernel
theorem dX5_put_39 : decode cX5_put 39 = .ok (.ireturn, 1) := by decide +kernel
theorem dX5_readTape_0 : decode cX5_readTape 0 = .ok (.aload_n 0, 1) := by decide +kernel
theorem dX5_readTape_1 : decode cX5_readTape 1 = .ok (.getfield 18, 3) := by decide +kernel
theorem dX5_readTape_4 : decode cX5_readTape 4 = .ok (.iconst 0, 1) := by decide +kernel
theorem dX5_readTape_5 : decode cX5_readTape 5 = .ok (.invokevirtual 54, 3) := by decide +kernel
theorem dX5_readTape_8 : decode cX5_readTape 8 = .ok (.aload_n 0, 1) := by decide +kernel
theorem dX5_readTape_9 : decode cX5_readTape 9 = .ok (.getfield 25, 3) := by decide +kernel
theorem dX5_readTape_12 : decode cX5_readTape 12 = .ok (.invokevirtual 58, 3) := by decide +kernel
theorem dX5_readTape_15 : decode cX5_readTape 15 = .ok (.aload_n 0, 1) := by decide +kernel
theorem dX5_readTape_16 : decode cX5_readTape 16 = .ok (.iconst 0, 1) := by decide +kernel
theorem dX5_readTape_17 : decode cX5_readTape 17 = .ok (.putfield 48, 3) := by decide +kernel
theorem dX5_readTape_20 : decode cX5_readTape 20 = .ok (.aload_n 0, 1) := by decide +kernel
theorem dX5_readTape_21 : decode cX5_readTape 21 = .ok (.invokevirtual 61, 3) := by decide +kernel
theorem dX5_readTape_24 : decode cX5_readTape 24 = .ok (.aload_n 0, 1) := by decide +kernel
theorem dX5_readTape_25 : decode cX5_readTape 25 = .ok (.invokevirtual 64, 3) := by decide +kernel
theorem dX5_readTape_28 : decode cX5_readTape 28 = .ok (.ifCond .eq 21, 3) := by decide +kernel
theorem dX5_readTape_31 : decode cX5_readTape 31 = .ok (.aload_n 0, 1) := by decide +kernel
theorem dX5_readTape_32 : decode cX5_readTape 32 = .ok (.invokevirtual 68, 3) := by decide +kernel
theorem dX5_readTape_35 : decode cX5_readTape 35 = .ok (.ifCond .eq 14, 3) := by decide +kernel
theorem dX5_readTape_38 : decode cX5_readTape 38 = .ok (.aload_n 0, 1) := by decide +kernel
theorem dX5_readTape_39 : decode cX5_readTape 39 = .ok (.invokevirtual 71, 3) := by decide +kernel
theorem dX5_readTape_42 : decode cX5_readTape 42 = .ok (.ifCond .eq 7, 3) := by decide +kernel
theorem dX5_readTape_45 : decode cX5_readTape 45 = .ok (.iconst 1, 1) := by decide +kernel
theorem dX5_readTape_46 : decode cX5_readTape 46 = .ok (.goto 4, 3) := by decide +kernel
theorem dX5_readTape_49 : decode cX5_readTape 49 = .ok (.iconst 0, 1) := by decide +kernel
theorem dX5_readTape_50 : decode cX5_readTape 50 = .ok (.ireturn, 1) := by decide +kernel
theorem dX5_readLaw_0 : decode cX5_readLaw 0 = .ok (.aload_n 0, 1) := by decide +kernel
theorem dX5_readLaw_1 : decode cX5_readLaw 1 = .ok (.bipush 119, 2) := by decide +kernel
theorem dX5_readLaw_3 : decode cX5_readLaw 3 = .ok (.invokevirtual 74, 3) := by decide +kernel
theorem dX5_readLaw_6 : decode cX5_readLaw 6 = .ok (.ifCond .eq 13, 3) := by decide +kernel
theorem dX5_readLaw_9 : decode cX5_readLaw 9 = .ok (.aload_n 0, 1) := by decide +kernel
theorem dX5_readLaw_10 : decode cX5_readLaw 10 = .ok (.iconst 2, 1) := by decide +kernel
theorem dX5_readLaw_11 : decode cX5_readLaw 11 = .ok (.bipush 8, 2) := by decide +kernel
theorem dX5_readLaw_13 : decode cX5_readLaw 13 = .ok (.invokevirtual 78, 3) := by decide +kernel
theorem dX5_readLaw_16 : decode cX5_readLaw 16 = .ok (.ifCond .ne 5, 3) := by decide +kernel
theorem dX5_readLaw_19 : decode cX5_readLaw 19 = .ok (.iconst 0, 1) := by decide +kernel
theorem dX5_readLaw_20 : decode cX5_readLaw 20 = .ok (.ireturn, 1) := by decide +kernel
theorem dX5_readLaw_21 : decode cX5_readLaw 21 = .ok (.aload_n 0, 1) := by decide +kernel
theorem dX5_readLaw_22 : decode cX5_readLaw 22 = .ok (.getfield 18, 3) := by decide +kernel
theorem dX5_readLaw_25 : decode cX5_readLaw 25 = .ok (.aload_n 0, 1) := by decide +kernel
theorem dX5_readLaw_26 : decode cX5_readLaw 26 = .ok (.getfield 51, 3) := by decide +kernel
theorem dX5_readLaw_29 : decode cX5_readLaw 29 = .ok (.invokevirtual 54, 3) := by decide +kernel
theorem dX5_readLaw_32 : decode cX5_readLaw 32 = .ok (.aload_n 0, 1) := by decide +kernel
theorem dX5_readLaw_33 : decode cX5_readLaw 33 = .ok (.bipush 59, 2) := by decide +kernel
theorem dX5_readLaw_35 : decode cX5_readLaw 35 = .ok (.invokevirtual 74, 3) := by decide +kernel
theorem dX5_readLaw_38 : decode cX5_readLaw 38 = .ok (.ireturn, 1) := by decide +kernel
theorem dX5_readPages_0 : decode cX5_readPages 0 = .ok (.iconst 0, 1) := by decide +kernel
theorem dX5_readPages_1 : decode cX5_readPages 1 = .ok (.istore_n 1, 1) := by decide +kernel
theorem dX5_readPages_2 : decode cX5_readPages 2 = .ok (.iload_n 1, 1) := by decide +kernel
theorem dX5_readPages_3 : decode cX5_readPages 3 = .ok (.aload_n 0, 1) := by decide +kernel
theorem dX5_readPages_4 : decode cX5_readPages 4 = .ok (.getfield 18, 3) := by decide +kernel
theorem dX5_readPages_7 : decode cX5_readPages 7 = .ok (.getfield 82, 3) := by decide +kernel
theorem dX5_readPages_10 : decode cX5_readPages 10 = .ok (.if_icmp .ge 37, 3) := by decide +kernel
theorem dX5_readPages_13 : decode cX5_readPages 13 = .ok (.aload_n 0, 1) := by decide +kernel
theorem dX5_readPages_14 : decode cX5_readPages 14 = .ok (.bipush 108, 2) := by decide +kernel
theorem dX5_readPages_16 : decode cX5_readPages 16 = .ok (.invokevirtual 74, 3) := by decide +kernel
theorem dX5_readPages_19 : decode cX5_readPages 19 = .ok (.ifCond .eq 20, 3) := by decide +kernel
theorem dX5_readPages_22 : decode cX5_readPages 22 = .ok (.aload_n 0, 1) := by decide +kernel
theorem dX5_readPages_23 : decode cX5_readPages 23 = .ok (.iload_n 1, 1) := by decide +kernel
theorem dX5_readPages_24 : decode cX5_readPages 24 = .ok (.invokevirtual 85, 3) := by decide +kernel
theorem dX5_readPages_27 : decode cX5_readPages 27 = .ok (.ifCond .eq 12, 3) := by decide +kernel
theorem dX5_readPages_30 : decode cX5_readPages 30 = .ok (.aload_n 0, 1) := by decide +kernel
theorem dX5_readPages_31 : decode cX5_readPages 31 = .ok (.bipush 59, 2) := by decide +kernel
theorem dX5_readPages_33 : decode cX5_readPages 33 = .ok (.invokevirtual 74, 3) := by decide +kernel
theorem dX5_readPages_36 : decode cX5_readPages 36 = .ok (.ifCond .ne 5, 3) := by decide +kernel
theorem dX5_readPages_39 : decode cX5_readPages 39 = .ok (.iconst 0, 1) := by decide +kernel
theorem dX5_readPages_40 : decode cX5_readPages 40 = .ok (.ireturn, 1) := by decide +kernel
theorem dX5_readPages_41 : decode cX5_readPages 41 = .ok (.iinc 1 1, 3) := by decide +kernel
theorem dX5_readPages_44 : decode cX5_readPages 44 = .ok (.goto (-42), 3) := by decide +kernel
theorem dX5_readPages_47 : decode cX5_readPages 47 = .ok (.iconst 1, 1) := by decide +kernel
theorem dX5_readPages_48 : decode cX5_readPages 48 = .ok (.ireturn, 1) := by decide +kernel
theorem dX5_readLinks_0 : decode cX5_readLinks 0 = .ok (.iconst 0, 1) := by decide +kernel
theorem dX5_readLinks_1 : decode cX5_readLinks 1 = .ok (.istore_n 2, 1) := by decide +kernel
theorem dX5_readLinks_2 : decode cX5_readLinks 2 = .ok (.iload_n 2, 1) := by decide +kernel
theorem dX5_readLinks_3 : decode cX5_readLinks 3 = .ok (.iconst 3, 1) := by decide +kernel
theorem dX5_readLinks_4 : decode cX5_readLinks 4 = .ok (.if_icmp .ge 68, 3) := by decide +kernel
theorem dX5_readLinks_7 : decode cX5_readLinks 7 = .ok (.iload_n 2, 1) := by decide +kernel
theorem dX5_readLinks_8 : decode cX5_readLinks 8 = .ok (.ifCond .le 14, 3) := by decide +kernel
theorem dX5_readLinks_11 : decode cX5_readLinks 11 = .ok (.aload_n 0, 1) := by decide +kernel
theorem dX5_readLinks_12 : decode cX5_readLinks 12 = .ok (.getfield 42, 3) := by decide +kernel
theorem dX5_readLinks_15 : decode cX5_readLinks 15 = .ok (.bipush 44, 2) := by decide +kernel
theorem dX5_readLinks_17 : decode cX5_readLinks 17 = .ok (.if_icmp .eq 5, 3) := by decide +kernel
theorem dX5_readLinks_20 : decode cX5_readLinks 20 = .ok (.iconst 1, 1) := by decide +kernel
theorem dX5_readLinks_21 : decode cX5_readLinks 21 = .ok (.ireturn, 1) := by decide +kernel
theorem dX5_readLinks_22 : decode cX5_readLinks 22 = .ok (.iload_n 2, 1) := by decide +kernel
theorem dX5_readLinks_23 : decode cX5_readLinks 23 = .ok (.ifCond .le 12, 3) := by decide +kernel
theorem dX5_readLinks_26 : decode cX5_readLinks 26 = .ok (.aload_n 0, 1) := by decide +kernel
theorem dX5_readLinks_27 : decode cX5_readLinks 27 = .ok (.bipush 44, 2) := by decide +kernel
theorem dX5_readLinks_29 : decode cX5_readLinks 29 = .ok (.invokevirtual 74, 3) := by decide +kernel
theorem dX5_readLinks_32 : decode cX5_readLinks 32 = .ok (.ifCond .eq 20, 3) := by decide +kernel
theorem dX5_readLinks_35 : decode cX5_readLinks 35 = .ok (.aload_n 0, 1) := by decide +kernel
theorem dX5_readLinks_36 : decode cX5_readLinks 36 = .ok (.iconst 0, 1) := by decide +kernel
theorem dX5_readLinks_37 : decode cX5_readLinks 37 = .ok (.aload_n 0, 1) := by decide +kernel
theorem dX5_readLinks_38 : decode cX5_readLinks 38 = .ok (.getfield 18, 3) := by decide +kernel
theorem dX5_readLinks_41 : decode cX5_readLinks 41 = .ok (.getfield 82, 3) := by decide +kernel
theorem dX5_readLinks_44 : decode cX5_readLinks 44 = .ok (.iconst 1, 1) := by decide +kernel
theorem dX5_readLinks_45 : decode cX5_readLinks 45 = .ok (.isub, 1) := by decide +kernel
theorem dX5_readLinks_46 : decode cX5_readLinks 46 = .ok (.invokevirtual 78, 3) := by decide +kernel
theorem dX5_readLinks_49 : decode cX5_readLinks 49 = .ok (.ifCond .ne 5, 3) := by decide +kernel
theorem dX5_readLinks_52 : decode cX5_readLinks 52 = .ok (.iconst 0, 1) := by decide +kernel
theorem dX5_readLinks_53 : decode cX5_readLinks 53 = .ok (.ireturn, 1) := by decide +kernel
theorem dX5_readLinks_54 : decode cX5_readLinks 54 = .ok (.aload_n 0, 1) := by decide +kernel
theorem dX5_readLinks_55 : decode cX5_readLinks 55 = .ok (.getfield 18, 3) := by decide +kernel
theorem dX5_readLinks_58 : decode cX5_readLinks 58 = .ok (.iload_n 1, 1) := by decide +kernel
theorem dX5_readLinks_59 : decode cX5_readLinks 59 = .ok (.aload_n 0, 1) := by decide +kernel
theorem dX5_readLinks_60 : decode cX5_readLinks 60 = .ok (.getfield 51, 3) := by decide +kernel
theorem dX5_readLinks_63 : decode cX5_readLinks 63 = .ok (.invokevirtual 88, 3) := by decide +kernel
theorem dX5_readLinks_66 : decode cX5_readLinks 66 = .ok (.iinc 2 1, 3) := by decide +kernel
theorem dX5_readLinks_69 : decode cX5_readLinks 69 = .ok (.goto (-67), 3) := by decide +kernel
theorem dX5_readLinks_72 : decode cX5_readLinks 72 = .ok (.iconst 1, 1) := by decide +kernel
theorem dX5_readLinks_73 : decode cX5_readLinks 73 = .ok (.ireturn, 1) := by decide +kernel
theorem dX5_readTabs_0 : decode cX5_readTabs 0 = .ok (.iconst 0, 1) := by decide +kernel
theorem dX5_readTabs_1 : decode cX5_readTabs 1 = .ok (.istore_n 1, 1) := by decide +kernel
theorem dX5_readTabs_2 : decode cX5_readTabs 2 = .ok (.iload_n 1, 1) := by decide +kernel
theorem dX5_readTabs_3 : decode cX5_readTabs 3 = .ok (.iconst 5, 1) := by decide +kernel
theorem dX5_readTabs_4 : decode cX5_readTabs 4 = .ok (.if_icmp .gt 32, 3) := by decide +kernel
theorem dX5_readTabs_7 : decode cX5_readTabs 7 = .ok (.iload_n 1, 1) := by decide +kernel
theorem dX5_readTabs_8 : decode cX5_readTabs 8 = .ok (.ifCond .le 13, 3) := by decide +kernel
theorem dX5_readTabs_11 : decode cX5_readTabs 11 = .ok (.aload_n 0, 1) := by decide +kernel
theorem dX5_readTabs_12 : decode cX5_readTabs 12 = .ok (.getfield 42, 3) := by decide +kernel
theorem dX5_readTabs_15 : decode cX5_readTabs 15 = .ok (.iconst (-1), 1) := by decide +kernel
theorem dX5_readTabs_16 : decode cX5_readTabs 16 = .ok (.if_icmp .ne 5, 3) := by decide +kernel
theorem dX5_readTabs_19 : decode cX5_readTabs 19 = .ok (.iconst 1, 1) := by decide +kernel
theorem dX5_readTabs_20 : decode cX5_readTabs 20 = .ok (.ireturn, 1) := by decide +kernel
theorem dX5_readTabs_21 : decode cX5_readTabs 21 = .ok (.aload_n 0, 1) := by decide +kernel
theorem dX5_readTabs_22 : decode cX5_readTabs 22 = .ok (.invokevirtual 92, 3) := by decide +kernel
theorem dX5_readTabs_25 : decode cX5_readTabs 25 = .ok (.ifCond .ne 5, 3) := by decide +kernel
theorem dX5_readTabs_28 : decode cX5_readTabs 28 = .ok (.iconst 0, 1) := by decide +kernel
theorem dX5_readTabs_29 : decode cX5_readTabs 29 = .ok (.ireturn, 1) := by decide +kernel
theorem dX5_readTabs_30 : decode cX5_readTabs 30 = .ok (.iinc 1 1, 3) := by decide +kernel
theorem dX5_readTabs_33 : decode cX5_readTabs 33 = .ok (.goto (-31), 3) := by decide +kernel
theorem dX5_readTabs_36 : decode cX5_readTabs 36 = .ok (.iconst 1, 1) := by decide +kernel
theorem dX5_readTabs_37 : decode cX5_readTabs 37 = .ok (.ireturn, 1) := by decide +kernel
theorem dX5_readTab_0 : decode cX5_readTab 0 = .ok (.aload_n 0, 1) := by decide +kernel
theorem dX5_readTab_1 : decode cX5_readTab 1 = .ok (.getfield 42, 3) := by decide +kernel
theorem dX5_readTab_4 : decode cX5_readTab 4 = .ok (.invokestatic 95, 3) := by decide +kernel
theorem dX5_readTab_7 : decode cX5_readTab 7 = .ok (.istore_n 1, 1) := by decide +kernel
theorem dX5_readTab_8 : decode cX5_readTab 8 = .ok (.iload_n 1, 1) := by decide +kernel
theorem dX5_readTab_9 : decode cX5_readTab 9 = .ok (.ldc 99, 2) := by decide +kernel
theorem dX5_readTab_11 : decode cX5_readTab 11 = .ok (.if_icmp .ne 9, 3) := by decide +kernel
theorem dX5_readTab_14 : decode cX5_readTab 14 = .ok (.aload_n 0, 1) := by decide +kernel
theorem dX5_readTab_15 : decode cX5_readTab 15 = .ok (.iconst 1, 1) := by decide +kernel
theorem dX5_readTab_16 : decode cX5_readTab 16 = .ok (.invokevirtual 100, 3) := by decide +kernel
theorem dX5_readTab_19 : decode cX5_readTab 19 = .ok (.ireturn, 1) := by decide +kernel
theorem dX5_readTab_20 : decode cX5_readTab 20 = .ok (.aload_n 0, 1) := by decide +kernel
theorem dX5_readTab_21 : decode cX5_readTab 21 = .ok (.getfield 25, 3) := by decide +kernel
theorem dX5_readTab_24 : decode cX5_readTab 24 = .ok (.invokevirtual 103, 3) := by decide +kernel
theorem dX5_readTab_27 : decode cX5_readTab 27 = .ok (.ifCond .ne 9, 3) := by decide +kernel
theorem dX5_readTab_30 : decode cX5_readTab 30 = .ok (.aload_n 0, 1) := by decide +kernel
theorem dX5_readTab_31 : decode cX5_readTab 31 = .ok (.iconst 3, 1) := by decide +kernel
theorem dX5_readTab_32 : decode cX5_readTab 32 = .ok (.invokevirtual 100, 3) := by decide +kernel
theorem dX5_readTab_35 : decode cX5_readTab 35 = .ok (.ireturn, 1) := by decide +kernel
theorem dX5_readTab_36 : decode cX5_readTab 36 = .ok (.aload_n 0, 1) := by decide +kernel
theorem dX5_readTab_37 : decode cX5_readTab 37 = .ok (.invokevirtual 61, 3) := by decide +kernel
theorem dX5_readTab_40 : decode cX5_readTab 40 = .ok (.aload_n 0, 1) := by decide +kernel
theorem dX5_readTab_41 : decode cX5_readTab 41 = .ok (.iconst 0, 1) := by decide +kernel
theorem dX5_readTab_42 : decode cX5_readTab 42 = .ok (.aload_n 0, 1) := by decide +kernel
theorem dX5_readTab_43 : decode cX5_readTab 43 = .ok (.getfield 18, 3) := by decide +kernel
theorem dX5_readTab_46 : decode cX5_readTab 46 = .ok (.getfield 82, 3) := by decide +kernel
theorem dX5_readTab_49 : decode cX5_readTab 49 = .ok (.iconst 1, 1) := by decide +kernel
theorem dX5_readTab_50 : decode cX5_readTab 50 = .ok (.isub, 1) := by decide +kernel
theorem dX5_readTab_51 : decode cX5_readTab 51 = .ok (.invokevirtual 78, 3) := by decide +kernel
theorem dX5_readTab_54 : decode cX5_readTab 54 = .ok (.ifCond .ne 5, 3) := by decide +kernel
theorem dX5_readTab_57 : decode cX5_readTab 57 = .ok (.iconst 0, 1) := by decide +kernel
theorem dX5_readTab_58 : decode cX5_readTab 58 = .ok (.ireturn, 1) := by decide +kernel
theorem dX5_readTab_59 : decode cX5_readTab 59 = .ok (.aload_n 0, 1) := by decide +kernel
theorem dX5_readTab_60 : decode cX5_readTab 60 = .ok (.getfield 25, 3) := by decide +kernel
theorem dX5_readTab_63 : decode cX5_readTab 63 = .ok (.getfield 106, 3) := by decide +kernel
theorem dX5_readTab_66 : decode cX5_readTab 66 = .ok (.aload_n 0, 1) := by decide +kernel
theorem dX5_readTab_67 : decode cX5_readTab 67 = .ok (.getfield 25, 3) := by decide +kernel
theorem dX5_readTab_70 : decode cX5_readTab 70 = .ok (.getfield 110, 3) := by decide +kernel
theorem dX5_readTab_73 : decode cX5_readTab 73 = .ok (.aaload, 1) := by decide +kernel
theorem dX5_readTab_74 : decode cX5_readTab 74 = .ok (.iload_n 1, 1) := by decide +kernel
theorem dX5_readTab_75 : decode cX5_readTab 75 = .ok (.aload_n 0, 1) := by decide +kernel
theorem dX5_readTab_76 : decode cX5_readTab 76 = .ok (.getfield 51, 3) := by decide +kernel
theorem dX5_readTab_79 : decode cX5_readTab 79 = .ok (.invokevirtual 113, 3) := by decide +kernel
theorem dX5_readTab_82 : decode cX5_readTab 82 = .ok (.aload_n 0, 1) := by decide +kernel
theorem dX5_readTab_83 : decode cX5_readTab 83 = .ok (.getfield 25, 3) := by decide +kernel
theorem dX5_readTab_86 : decode cX5_readTab 86 = .ok (.dup, 1) := by decide +kernel
theorem dX5_readTab_87 : decode cX5_readTab 87 = .ok (.getfield 110, 3) := by decide +kernel
theorem dX5_readTab_90 : decode cX5_readTab 90 = .ok (.iconst 1, 1) := by decide +kernel
theorem dX5_readTab_91 : decode cX5_readTab 91 = .ok (.iadd, 1) := by decide +kernel
theorem dX5_readTab_92 : decode cX5_readTab 92 = .ok (.putfield 110, 3) := by decide +kernel
theorem dX5_readTab_95 : decode cX5_readTab 95 = .ok (.aload_n 0, 1) := by decide +kernel
theorem dX5_readTab_96 : decode cX5_readTab 96 = .ok (.bipush 59, 2) := by decide +kernel
theorem dX5_readTab_98 : decode cX5_readTab 98 = .ok (.invokevirtual 74, 3) := by decide +kernel
theorem dX5_readTab_101 : decode cX5_readTab 101 = .ok (.ireturn, 1) := by decide +kernel
theorem dX5_sortOf_0 : decode cX5_sortOf 0 = .ok (.iload_n 0, 1) := by decide +kernel
theorem dX5_sortOf_1 : decode cX5_sortOf 1 = .ok (.tableswitch 77 103 115 #[73, 77, 77, 77, 75, 77, 77, 71, 77, 67, 77, 77, 69], 67) := by decide +kernel
theorem dX5_sortOf_68 : decode cX5_sortOf 68 = .ok (.iconst 1, 1) := by decide +kernel
theorem dX5_sortOf_69 : decode cX5_sortOf 69 = .ok (.ireturn, 1) := by decide +kernel
theorem dX5_sortOf_70 : decode cX5_sortOf 70 = .ok (.iconst 2, 1) := by decide +kernel
theorem dX5_sortOf_71 : decode cX5_sortOf 71 = .ok (.ireturn, 1) := by decide +kernel
theorem dX5_sortOf_72 : decode cX5_sortOf 72 = .ok (.iconst 3, 1) := by decide +kernel
theorem dX5_sortOf_73 : decode cX5_sortOf 73 = .ok (.ireturn, 1) := by decide +kernel
theorem dX5_sortOf_74 : decode cX5_sortOf 74 = .ok (.iconst 4, 1) := by decide +kernel
theorem dX5_sortOf_75 : decode cX5_sortOf 75 = .ok (.ireturn, 1) := by decide +kernel
theorem dX5_sortOf_76 : decode cX5_sortOf 76 = .ok (.iconst 5, 1) := by decide +kernel
theorem dX5_sortOf_77 : decode cX5_sortOf 77 = .ok (.ireturn, 1) := by decide +kernel
theorem dX5_sortOf_78 : decode cX5_sortOf 78 = .ok (.ldc 99, 2) := by decide +kernel
theorem dX5_sortOf_80 : decode cX5_sortOf 80 = .ok (.ireturn, 1) := by decide +kernel
theorem dX5_take_0 : decode cX5_take 0 = .ok (.aload_n 0, 1) := by decide +kernel
theorem dX5_take_1 : decode cX5_take 1 = .ok (.getfield 42, 3) := by decide +kernel
theorem dX5_take_4 : decode cX5_take 4 = .ok (.iload_n 1, 1) := by decide +kernel
theorem dX5_take_5 : decode cX5_take 5 = .ok (.if_icmp .eq 9, 3) := by decide +kernel
theorem dX5_take_8 : decode cX5_take 8 = .ok (.aload_n 0, 1) := by decide +kernel
theorem dX5_take_9 : decode cX5_take 9 = .ok (.iconst 1, 1) := by decide +kernel
theorem dX5_take_10 : decode cX5_take 10 = .ok (.invokevirtual 100, 3) := by decide +kernel
theorem dX5_take_13 : decode cX5_take 13 = .ok (.ireturn, 1) := by decide +kernel
theorem dX5_take_14 : decode cX5_take 14 = .ok (.aload_n 0, 1) := by decide +kernel
theorem dX5_take_15 : decode cX5_take 15 = .ok (.invokevirtual 61, 3) := by decide +kernel
theorem dX5_take_18 : decode cX5_take 18 = .ok (.iconst 1, 1) := by decide +kernel
theorem dX5_take_19 : decode cX5_take 19 = .ok (.ireturn, 1) := by decide +kernel
theorem dX5_takeNumber_0 : decode cX5_takeNumber 0 = .ok (.aload_n 0, 1) := by decide +kernel
theorem dX5_takeNumber_1 : decode cX5_takeNumber 1 = .ok (.getfield 42, 3) := by decide +kernel
theorem dX5_takeNumber_4 : decode cX5_takeNumber 4 = .ok (.bipush (-2), 2) := by decide +kernel
theorem dX5_takeNumber_6 : decode cX5_takeNumber 6 = .ok (.if_icmp .eq 9, 3) := by decide +kernel
theorem dX5_takeNumber_9 : decode cX5_takeNumber 9 = .ok (.aload_n 0, 1) := by decide +kernel
theorem dX5_takeNumber_10 : decode cX5_takeNumber 10 = .ok (.iconst 1, 1) := by decide +kernel
theorem dX5_takeNumber_11 : decode cX5_takeNumber 11 = .ok (.invokevirtual 100, 3) := by decide +kernel
theorem dX5_takeNumber_14 : decode cX5_takeNumber 14 = .ok (.ireturn, 1) := by decide +kernel
theorem dX5_takeNumber_15 : decode cX5_takeNumber 15 = .ok (.aload_n 0, 1) := by decide +kernel
theorem dX5_takeNumber_16 : decode cX5_takeNumber 16 = .ok (.getfield 45, 3) := by decide +kernel
theorem dX5_takeNumber_19 : decode cX5_takeNumber 19 = .ok (.iload_n 1, 1) := by decide +kernel
theorem dX5_takeNumber_20 : decode cX5_takeNumber 20 = .ok (.if_icmp .lt 11, 3) := by decide +kernel
theorem dX5_takeNumber_23 : decode cX5_takeNumber 23 = .ok (.aload_n 0, 1) := by decide +kernel
theorem dX5_takeNumber_24 : decode cX5_takeNumber 24 = .ok (.getfield 45, 3) := by decide +kernel
theorem dX5_takeNumber_27 : decode cX5_takeNumber 27 = .ok (.iload_n 2, 1) := by decide +kernel
theorem dX5_takeNumber_28 : decode cX5_takeNumber 28 = .ok (.if_icmp .le 9, 3) := by decide +kernel
theorem dX5_takeNumber_31 : decode cX5_takeNumber 31 = .ok (.aload_n 0, 1) := by decide +kernel
theorem dX5_takeNumber_32 : decode cX5_takeNumber 32 = .ok (.iconst 2, 1) := by decide +kernel
theorem dX5_takeNumber_33 : decode cX5_takeNumber 33 = .ok (.invokevirtual 100, 3) := by decide +kernel
theorem dX5_takeNumber_36 : decode cX5_takeNumber 36 = .ok (.ireturn, 1) := by decide +kernel
theorem dX5_takeNumber_37 : decode cX5_takeNumber 37 = .ok (.aload_n 0, 1) := by decide +kernel
theorem dX5_takeNumber_38 : decode cX5_takeNumber 38 = .ok (.aload_n 0, 1) := by decide +kernel
theorem dX5_takeNumber_39 : decode cX5_takeNumber 39 = .ok (.getfield 45, 3) := by decide +kernel
theorem dX5_takeNumber_42 : decode cX5_takeNumber 42 = .ok (.putfield 51, 3) := by decide +kernel
theorem dX5_takeNumber_45 : decode cX5_takeNumber 45 = .ok (.aload_n 0, 1) := by decide +kernel
theorem dX5_takeNumber_46 : decode cX5_takeNumber 46 = .ok (.invokevirtual 61, 3) := by decide +kernel
theorem dX5_takeNumber_49 : decode cX5_takeNumber 49 = .ok (.iconst 1, 1) := by decide +kernel
theorem dX5_takeNumber_50 : decode cX5_takeNumber 50 = .ok (.ireturn, 1) := by decide +kernel
theorem dX5_wrong_0 : decode cX5_wrong 0 = .ok (.aload_n 0, 1) := by decide +kernel
theorem dX5_wrong_1 : decode cX5_wrong 1 = .ok (.iload_n 1, 1) := by decide +kernel
theorem dX5_wrong_2 : decode cX5_wrong 2 = .ok (.putfield 33, 3) := by decide +kernel
theorem dX5_wrong_5 : decode cX5_wrong 5 = .ok (.aload_n 0, 1) := by decide +kernel
theorem dX5_wrong_6 : decode cX5_wrong 6 = .ok (.aload_n 0, 1) := by decide +kernel
theorem dX5_wrong_7 : decode cX5_wrong 7 = .ok (.getfield 39, 3) := by decide +kernel
theorem dX5_wrong_10 : decode cX5_wrong 10 = .ok (.putfield 36, 3) := by decide +kernel
theorem dX5_wrong_13 : decode cX5_wrong 13 = .ok (.iconst 0, 1) := by decide +kernel
theorem dX5_wrong_14 : decode cX5_wrong 14 = .ok (.ireturn, 1) := by decide +kernel
theorem dX5_advance_0 : decode cX5_advance 0 = .ok (.aload_n 0, 1) := by decide +kernel
theorem dX5_advance_1 : decode cX5_advance 1 = .ok (.aload_n 0, 1) := by decide +kernel
theorem dX5_advance_2 : decode cX5_advance 2 = .ok (.getfield 48, 3) := by decide +kernel
theorem dX5_advance_5 : decode cX5_advance 5 = .ok (.putfield 39, 3) := by decide +kernel
theorem dX5_advance_8 : decode cX5_advance 8 = .ok (.aload_n 0, 1) := by decide +kernel
theorem dX5_advance_9 : decode cX5_advance 9 = .ok (.iconst 0, 1) := by decide +kernel
theorem dX5_advance_10 : decode cX5_advance 10 = .ok (.putfield 45, 3) := by decide +kernel
theorem dX5_advance_13 : decode cX5_advance 13 = .ok (.iconst 0, 1) := by decide +kernel
theorem dX5_advance_14 : decode cX5_advance 14 = .ok (.istore_n 1, 1) := by decide +kernel
theorem dX5_advance_15 : decode cX5_advance 15 = .ok (.iload_n 1, 1) := by decide +kernel
theorem dX5_advance_16 : decode cX5_advance 16 = .ok (.bipush 80, 2) := by decide +kernel
theorem dX5_advance_18 : decode cX5_advance 18 = .ok (.if_icmp .ge 59, 3) := by decide +kernel
theorem dX5_advance_21 : decode cX5_advance 21 = .ok (.aload_n 0, 1) := by decide +kernel
theorem dX5_advance_22 : decode cX5_advance 22 = .ok (.aload_n 0, 1) := by decide +kernel
theorem dX5_advance_23 : decode cX5_advance 23 = .ok (.getfield 48, 3) := by decide +kernel
theorem dX5_advance_26 : decode cX5_advance 26 = .ok (.invokevirtual 117, 3) := by decide +kernel
theorem dX5_advance_29 : decode cX5_advance 29 = .ok (.invokestatic 120, 3) := by decide +kernel
theorem dX5_advance_32 : decode cX5_advance 32 = .ok (.ifCond .eq 45, 3) := by decide +kernel
theorem dX5_advance_35 : decode cX5_advance 35 = .ok (.aload_n 0, 1) := by decide +kernel
theorem dX5_advance_36 : decode cX5_advance 36 = .ok (.aload_n 0, 1) := by decide +kernel
theorem dX5_advance_37 : decode cX5_advance 37 = .ok (.getfield 45, 3) := by decide +kernel
theorem dX5_advance_40 : decode cX5_advance 40 = .ok (.bipush 10, 2) := by decide +kernel
theorem dX5_advance_42 : decode cX5_advance 42 = .ok (.imul, 1) := by decide +kernel
theorem dX5_advance_43 : decode cX5_advance 43 = .ok (.aload_n 0, 1) := by decide +kernel
theorem dX5_advance_44 : decode cX5_advance 44 = .ok (.aload_n 0, 1) := by decide +kernel
theorem dX5_advance_45 : decode cX5_advance 45 = .ok (.getfield 48, 3) := by decide +kernel
theorem dX5_advance_48 : decode cX5_advance 48 = .ok (.invokevirtual 117, 3) := by decide +kernel
theorem dX5_advance_51 : decode cX5_advance 51 = .ok (.iadd, 1) := by decide +kernel
theorem dX5_advance_52 : decode cX5_advance 52 = .ok (.bipush 48, 2) := by decide +kernel
theorem dX5_advance_54 : decode cX5_advance 54 = .ok (.isub, 1) := by decide +kernel
theorem dX5_advance_55 : decode cX5_advance 55 = .ok (.bipush 100, 2) := by decide +kernel
theorem dX5_advance_57 : decode cX5_advance 57 = .ok (.irem, 1) := by decide +kernel
theorem dX5_advance_58 : decode cX5_advance 58 = .ok (.putfield 45, 3) := by decide +kernel
theorem dX5_advance_61 : decode cX5_advance 61 = .ok (.aload_n 0, 1) := by decide +kernel
theorem dX5_advance_62 : decode cX5_advance 62 = .ok (.dup, 1) := by decide +kernel
theorem dX5_advance_63 : decode cX5_advance 63 = .ok (.getfield 48, 3) := by decide +kernel
theorem dX5_advance_66 : decode cX5_advance 66 = .ok (.iconst 1, 1) := by decide +kernel
theorem dX5_advance_67 : decode cX5_advance 67 = .ok (.iadd, 1) := by decide +kernel
theorem dX5_advance_68 : decode cX5_advance 68 = .ok (.putfield 48, 3) := by decide +kernel
theorem dX5_advance_71 : decode cX5_advance 71 = .ok (.iinc 1 1, 3) := by decide +kernel
theorem dX5_advance_74 : decode cX5_advance 74 = .ok (.goto (-59), 3) := by decide +kernel
theorem dX5_advance_77 : decode cX5_advance 77 = .ok (.aload_n 0, 1) := by decide +kernel
theorem dX5_advance_78 : decode cX5_advance 78 = .ok (.getfield 48, 3) := by decide +kernel
theorem dX5_advance_81 : decode cX5_advance 81 = .ok (.aload_n 0, 1) := by decide +kernel
theorem dX5_advance_82 : decode cX5_advance 82 = .ok (.getfield 39, 3) := by decide +kernel
theorem dX5_advance_85 : decode cX5_advance 85 = .ok (.if_icmp .le 28, 3) := by decide +kernel
theorem dX5_advance_88 : decode cX5_advance 88 = .ok (.aload_n 0, 1) := by decide +kernel
theorem dX5_advance_89 : decode cX5_advance 89 = .ok (.aload_n 0, 1) := by decide +kernel
theorem dX5_advance_90 : decode cX5_advance 90 = .ok (.getfield 48, 3) := by decide +kernel
theorem dX5_advance_93 : decode cX5_advance 93 = .ok (.aload_n 0, 1) := by decide +kernel
theorem dX5_advance_94 : decode cX5_advance 94 = .ok (.getfield 39, 3) := by decide +kernel
theorem dX5_advance_97 : decode cX5_advance 97 = .ok (.isub, 1) := by decide +kernel
theorem dX5_advance_98 : decode cX5_advance 98 = .ok (.iconst 2, 1) := by decide +kernel
theorem dX5_advance_99 : decode cX5_advance 99 = .ok (.if_icmp .gt 8, 3) := by decide +kernel
theorem dX5_advance_102 : decode cX5_advance 102 = .ok (.bipush (-2), 2) := by decide +kernel
theorem dX5_advance_104 : decode cX5_advance 104 = .ok (.goto 5, 3) := by decide +kernel
theorem dX5_advance_107 : decode cX5_advance 107 = .ok (.bipush (-3), 2) := by decide +kernel
theorem dX5_advance_109 : decode cX5_advance 109 = .ok (.putfield 42, 3) := by decide +kernel
theorem dX5_advance_112 : decode cX5_advance 112 = .ok (.return_, 1) := by decide +kernel
theorem dX5_advance_113 : decode cX5_advance 113 = .ok (.aload_n 0, 1) := by decide +kernel
theorem dX5_advance_114 : decode cX5_advance 114 = .ok (.aload_n 0, 1) := by decide +kernel
theorem dX5_advance_115 : decode cX5_advance 115 = .ok (.aload_n 0, 1) := by decide +kernel
theorem dX5_advance_116 : decode cX5_advance 116 = .ok (.getfield 48, 3) := by decide +kernel
theorem dX5_advance_119 : decode cX5_advance 119 = .ok (.invokevirtual 117, 3) := by decide +kernel
theorem dX5_advance_122 : decode cX5_advance 122 = .ok (.putfield 42, 3) := by decide +kernel
theorem dX5_advance_125 : decode cX5_advance 125 = .ok (.aload_n 0, 1) := by decide +kernel
theorem dX5_advance_126 : decode cX5_advance 126 = .ok (.dup, 1) := by decide +kernel
theorem dX5_advance_127 : decode cX5_advance 127 = .ok (.getfield 48, 3) := by decide +kernel
theorem dX5_advance_130 : decode cX5_advance 130 = .ok (.iconst 1, 1) := by decide +kernel
theorem dX5_advance_131 : decode cX5_advance 131 = .ok (.iadd, 1) := by decide +kernel
theorem dX5_advance_132 : decode cX5_advance 132 = .ok (.putfield 48, 3) := by decide +kernel
theorem dX5_advance_135 : decode cX5_advance 135 = .ok (.return_, 1) := by decide +kernel
theorem dX5_byteAt_0 : decode cX5_byteAt 0 = .ok (.iload_n 1, 1) := by decide +kernel
theorem dX5_byteAt_1 : decode cX5_byteAt 1 = .ok (.ifCond .lt 26, 3) := by decide +kernel
theorem dX5_byteAt_4 : decode cX5_byteAt 4 = .ok (.iload_n 1, 1) := by decide +kernel
theorem dX5_byteAt_5 : decode cX5_byteAt 5 = .ok (.aload_n 0, 1) := by decide +kernel
theorem dX5_byteAt_6 : decode cX5_byteAt 6 = .ok (.getfield 29, 3) := by decide +kernel
theorem dX5_byteAt_9 : decode cX5_byteAt 9 = .ok (.if_icmp .ge 18, 3) := by decide +kernel
theorem dX5_byteAt_12 : decode cX5_byteAt 12 = .ok (.iload_n 1, 1) := by decide +kernel
theorem dX5_byteAt_13 : decode cX5_byteAt 13 = .ok (.bipush 80, 2) := by decide +kernel
theorem dX5_byteAt_15 : decode cX5_byteAt 15 = .ok (.if_icmp .ge 12, 3) := by decide +kernel
theorem dX5_byteAt_18 : decode cX5_byteAt 18 = .ok (.aload_n 0, 1) := by decide +kernel
theorem dX5_byteAt_19 : decode cX5_byteAt 19 = .ok (.getfield 9, 3) := by decide +kernel
theorem dX5_byteAt_22 : decode cX5_byteAt 22 = .ok (.iload_n 1, 1) := by decide +kernel
theorem dX5_byteAt_23 : decode cX5_byteAt 23 = .ok (.iaload, 1) := by decide +kernel
theorem dX5_byteAt_24 : decode cX5_byteAt 24 = .ok (.goto 4, 3) := by decide +kernel
theorem dX5_byteAt_27 : decode cX5_byteAt 27 = .ok (.iconst (-1), 1) := by decide +kernel
theorem dX5_byteAt_28 : decode cX5_byteAt 28 = .ok (.ireturn, 1) := by decide +kernel
theorem dX5_isFigure_0 : decode cX5_isFigure 0 = .ok (.iload_n 0, 1) := by decide +kernel
theorem dX5_isFigure_1 : decode cX5_isFigure 1 = .ok (.bipush 48, 2) := by decide +kernel
theorem dX5_isFigure_3 : decode cX5_isFigure 3 = .ok (.if_icmp .lt 13, 3) := by decide +kernel
theorem dX5_isFigure_6 : decode cX5_isFigure 6 = .ok (.iload_n 0, 1) := by decide +kernel
theorem dX5_isFigure_7 : decode cX5_isFigure 7 = .ok (.bipush 57, 2) := by decide +kernel
theorem dX5_isFigure_9 : decode cX5_isFigure 9 = .ok (.if_icmp .gt 7, 3) := by decide +kernel
theorem dX5_isFigure_12 : decode cX5_isFigure 12 = .ok (.iconst 1, 1) := by decide +kernel
theorem dX5_isFigure_13 : decode cX5_isFigure 13 = .ok (.goto 4, 3) := by decide +kernel
theorem dX5_isFigure_16 : decode cX5_isFigure 16 = .ok (.iconst 0, 1) := by decide +kernel
theorem dX5_isFigure_17 : decode cX5_isFigure 17 = .ok (.ireturn, 1) := by decide +kernel
theorem dX6_init_0 : decode cX6_init 0 = .ok (.aload_n 0, 1) := by decide +kernel
theorem dX6_init_1 : decode cX6_init 1 = .ok (.invokespecial 3, 3) := by decide +kernel
theorem dX6_init_4 : decode cX6_init 4 = .ok (.aload_n 0, 1) := by decide +kernel
theorem dX6_init_5 : decode cX6_init 5 = .ok (.bipush 40, 2) := by decide +kernel
theorem dX6_init_7 : decode cX6_init 7 = .ok (.newarray .int, 2) := by decide +kernel
theorem dX6_init_9 : decode cX6_init 9 = .ok (.putfield 9, 3) := by decide +kernel
theorem dX6_init_12 : decode cX6_init 12 = .ok (.aload_n 0, 1) := by decide +kernel
theorem dX6_init_13 : decode cX6_init 13 = .ok (.iconst 0, 1) := by decide +kernel
theorem dX6_init_14 : decode cX6_init 14 = .ok (.putfield 15, 3) := by decide +kernel
theorem dX6_init_17 : decode cX6_init 17 = .ok (.aload_n 0, 1) := by decide +kernel
theorem dX6_init_18 : decode cX6_init 18 = .ok (.iconst 0, 1) := by decide +kernel
theorem dX6_init_19 : decode cX6_init 19 = .ok (.putfield 19, 3) := by decide +kernel
theorem dX6_init_22 : decode cX6_init 22 = .ok (.aload_n 0, 1) := by decide +kernel
theorem dX6_init_23 : decode cX6_init 23 = .ok (.iconst 0, 1) := by decide +kernel
theorem dX6_init_24 : decode cX6_init 24 = .ok (.putfield 23, 3) := by decide +kernel
theorem dX6_init_27 : decode cX6_init 27 = .ok (.return_, 1) := by decide +kernel
theorem dX6_make_0 : decode cX6_make 0 = .ok (.aload_n 0, 1) := by decide +kernel
theorem dX6_make_1 : decode cX6_make 1 = .ok (.iconst 1, 1) := by decide +kernel
theorem dX6_make_2 : decode cX6_make 2 = .ok (.putfield 15, 3) := by decide +kernel
theorem dX6_make_5 : decode cX6_make 5 = .ok (.aload_n 0, 1) := by decide +kernel
theorem dX6_make_6 : decode cX6_make 6 = .ok (.iload_n 1, 1) := by decide +kernel
theorem dX6_make_7 : decode cX6_make 7 = .ok (.putfield 19, 3) := by decide +kernel
theorem dX6_make_10 : decode cX6_make 10 = .ok (.aload_n 0, 1) := by decide +kernel
theorem dX6_make_11 : decode cX6_make 11 = .ok (.iload_n 2, 1) := by decide +kernel
theorem dX6_make_12 : decode cX6_make 12 = .ok (.putfield 23, 3) := by decide +kernel
theorem dX6_make_15 : decode cX6_make 15 = .ok (.iconst 0, 1) := by decide +kernel
theorem dX6_make_16 : decode cX6_make 16 = .ok (.istore_n 3, 1) := by decide +kernel
theorem dX6_make_17 : decode cX6_make 17 = .ok (.iload_n 3, 1) := by decide +kernel
theorem dX6_make_18 : decode cX6_make 18 = .ok (.aload_n 0, 1) := by decide +kernel
theorem dX6_make_19 : decode cX6_make 19 = .ok (.getfield 9, 3) := by decide +kernel
theorem dX6_make_22 : decode cX6_make 22 = .ok (.arraylength, 1) := by decide +kernel
theorem dX6_make_23 : decode cX6_make 23 = .ok (.if_icmp .ge 16, 3) := by decide +kernel
theorem dX6_make_26 : decode cX6_make 26 = .ok (.aload_n 0, 1) := by decide +kernel
theorem dX6_make_27 : decode cX6_make 27 = .ok (.getfield 9, 3) := by decide +kernel
theorem dX6_make_30 : decode cX6_make 30 = .ok (.iload_n 3, 1) := by decide +kernel
theorem dX6_make_31 : decode cX6_make 31 = .ok (.iconst 0, 1) := by decide +kernel
theorem dX6_make_32 : decode cX6_make 32 = .ok (.iastore, 1) := by decide +kernel
theorem dX6_make_33 : decode cX6_make 33 = .ok (.iinc 3 1, 3) := by decide +kernel
theorem dX6_make_36 : decode cX6_make 36 = .ok (.goto (-19), 3) := by decide +kernel
theorem dX6_make_39 : decode cX6_make 39 = .ok (.return_, 1) := by decide +kernel
theorem dX6_hasPlaces_0 : decode cX6_hasPlaces 0 = .ok (.iload_n 1, 1) := by decide +kernel
theorem dX6_hasPlaces_1 : decode cX6_hasPlaces 1 = .ok (.ifCond .lt 29, 3) := by decide +kernel
theorem dX6_hasPlaces_4 : decode cX6_hasPlaces 4 = .ok (.iload_n 2, 1) := by decide +kernel
theorem dX6_hasPlaces_5 : decode cX6_hasPlaces 5 = .ok (.ifCond .lt 25, 3) := by decide +kernel
theorem dX6_hasPlaces_8 : decode cX6_hasPlaces 8 = .ok (.iload_n 2, 1) := by decide +kernel
theorem dX6_hasPlaces_9 : decode cX6_hasPlaces 9 = .ok (.aload_n 0, 1) := by decide +kernel
theorem dX6_hasPlaces_10 : decode cX6_hasPlaces 10 = .ok (.getfield 23, 3) := by decide +kernel
theorem dX6_hasPlaces_13 : decode cX6_hasPlaces 13 = .ok (.if_icmp .gt 17, 3) := by decide +kernel
theorem dX6_hasPlaces_16 : decode cX6_hasPlaces 16 = .ok (.iload_n 1, 1) := by decide +kernel
theorem dX6_hasPlaces_17 : decode cX6_hasPlaces 17 = .ok (.aload_n 0, 1) := by decide +kernel
theorem dX6_hasPlaces_18 : decode cX6_hasPlaces 18 = .ok (.getfield 23, 3) := by decide +kernel
theorem dX6_hasPlaces_21 : decode cX6_hasPlaces 21 = .ok (.iload_n 2, 1) := by decide +kernel
theorem dX6_hasPlaces_22 : decode cX6_hasPlaces 22 = .ok (.isub, 1) := by decide +kernel
theorem dX6_hasPlaces_23 : decode cX6_hasPlaces 23 = .ok (.if_icmp .gt 7, 3) := by decide +kernel
theorem dX6_hasPlaces_26 : decode cX6_hasPlaces 26 = .ok (.iconst 1, 1) := by decide +kernel
theorem dX6_hasPlaces_27 : decode cX6_hasPlaces 27 = .ok (.goto 4, 3) := by decide +kernel
theorem dX6_hasPlaces_30 : decode cX6_hasPlaces 30 = .ok (.iconst 0, 1) := by decide +kernel
theorem dX6_hasPlaces_31 : decode cX6_hasPlaces 31 = .ok (.ireturn, 1) := by decide +kernel
theorem dX6_put_0 : decode cX6_put 0 = .ok (.aload_n 0, 1) := by decide +kernel
theorem dX6_put_1 : decode cX6_put 1 = .ok (.getfield 19, 3) := by decide +kernel
theorem dX6_put_4 : decode cX6_put 4 = .ok (.ifCond .ne 8, 3) := by decide +kernel
theorem dX6_put_7 : decode cX6_put 7 = .ok (.iload_n 2, 1) := by decide +kernel
theorem dX6_put_8 : decode cX6_put 8 = .ok (.i2b, 1) := by decide +kernel
theorem dX6_put_9 : decode cX6_put 9 = .ok (.goto 17, 3) := by decide +kernel
theorem dX6_put_12 : decode cX6_put 12 = .ok (.aload_n 0, 1) := by decide +kernel
theorem dX6_put_13 : decode cX6_put 13 = .ok (.getfield 19, 3) := by decide +kernel
theorem dX6_put_16 : decode cX6_put 16 = .ok (.iconst 1, 1) := by decide +kernel
theorem dX6_put_17 : decode cX6_put 17 = .ok (.if_icmp .ne 8, 3) := by decide +kernel
theorem dX6_put_20 : decode cX6_put 20 = .ok (.iload_n 2, 1) := by decide +kernel
theorem dX6_put_21 : decode cX6_put 21 = .ok (.i2s, 1) := by decide +kernel
theorem dX6_put_22 : decode cX6_put 22 = .ok (.goto 4, 3) := by decide +kernel
theorem dX6_put_25 : decode cX6_put 25 = .ok (.iload_n 2, 1) := by decide +kernel
theorem dX6_put_26 : decode cX6_put 26 = .ok (.istore_n 3, 1) := by decide +kernel
theorem dX6_put_27 : decode cX6_put 27 = .ok (.iload_n 1, 1) := by decide +kernel
theorem dX6_put_28 : decode cX6_put 28 = .ok (.ifCond .lt 19, 3) := by decide +kernel
theorem dX6_put_31 : decode cX6_put 31 = .ok (.iload_n 1, 1) := by decide +kernel
theorem dX6_put_32 : decode cX6_put 32 = .ok (.aload_n 0, 1) := by decide +kernel
theorem dX6_put_33 : decode cX6_put 33 = .ok (.getfield 9, 3) := by decide +kernel
theorem dX6_put_36 : decode cX6_put 36 = .ok (.arraylength, 1) := by decide +kernel
theorem dX6_put_37 : decode cX6_put 37 = .ok (.if_icmp .ge 10, 3) := by decide +kernel
theorem dX6_put_40 : decode cX6_put 40 = .ok (.aload_n 0, 1) := by decide +kernel
theorem dX6_put_41 : decode cX6_put 41 = .ok (.getfield 9, 3) := by decide +kernel
theorem dX6_put_44 : decode cX6_put 44 = .ok (.iload_n 1, 1) := by decide +kernel
theorem dX6_put_45 : decode cX6_put 45 = .ok (.iload_n 3, 1) := by decide +kernel
theorem dX6_put_46 : decode cX6_put 46 = .ok (.iastore, 1) := by decide +kernel
theorem dX6_put_47 : decode cX6_put 47 = .ok (.iload_n 3, 1) := by decide +kernel
theorem dX6_put_48 : decode cX6_put 48 = .ok (.ireturn, 1) := by decide +kernel
theorem dX7_init_0 : decode cX7_init 0 = .ok (.aload_n 0, 1) := by decide +kernel
theorem dX7_init_1 : decode cX7_init 1 = .ok (.invokespecial 3, 3) := by decide +kernel
theorem dX7_init_4 : decode cX7_init 4 = .ok (.aload_n 0, 1) := by decide +kernel
theorem dX7_init_5 : decode cX7_init 5 = .ok (.bipush 6, 2) := by decide +kernel
theorem dX7_init_7 : decode cX7_init 7 = .ok (.newarray .int, 2) := by decide +kernel
theorem dX7_init_9 : decode cX7_init 9 = .ok (.putfield 9, 3) := by decide +kernel
theorem dX7_init_12 : decode cX7_init 12 = .ok (.aload_n 0, 1) := by decide +kernel
theorem dX7_init_13 : decode cX7_init 13 = .ok (.iconst 1, 1) := by decide +kernel
theorem dX7_init_14 : decode cX7_init 14 = .ok (.putfield 15, 3) := by decide +kernel
theorem dX7_init_17 : decode cX7_init 17 = .ok (.aload_n 0, 1) := by decide +kernel
theorem dX7_init_18 : decode cX7_init 18 = .ok (.iconst 0, 1) := by decide +kernel
theorem dX7_init_19 : decode cX7_init 19 = .ok (.putfield 19, 3) := by decide +kernel
theorem dX7_init_22 : decode cX7_init 22 = .ok (.aload_n 0, 1) := by decide +kernel
theorem dX7_init_23 : decode cX7_init 23 = .ok (.iconst 1, 1) := by decide +kernel
theorem dX7_init_24 : decode cX7_init 24 = .ok (.putfield 22, 3) := by decide +kernel
theorem dX7_init_27 : decode cX7_init 27 = .ok (.aload_n 0, 1) := by decide +kernel
theorem dX7_init_28 : decode cX7_init 28 = .ok (.iconst 0, 1) := by decide +kernel
theorem dX7_init_29 : decode cX7_init 29 = .ok (.putfield 25, 3) := by decide +kernel
theorem dX7_init_32 : decode cX7_init 32 = .ok (.return_, 1) := by decide +kernel
theorem dX7_begin_0 : decode cX7_begin 0 = .ok (.aload_n 0, 1) := by decide +kernel
theorem dX7_begin_1 : decode cX7_begin 1 = .ok (.iload_n 1, 1) := by decide +kernel
theorem dX7_begin_2 : decode cX7_begin 2 = .ok (.putfield 15, 3) := by decide +kernel
theorem dX7_begin_5 : decode cX7_begin 5 = .ok (.aload_n 0, 1) := by decide +kernel
theorem dX7_begin_6 : decode cX7_begin 6 = .ok (.iload_n 2, 1) := by decide +kernel
theorem dX7_begin_7 : decode cX7_begin 7 = .ok (.putfield 19, 3) := by decide +kernel
theorem dX7_begin_10 : decode cX7_begin 10 = .ok (.aload_n 0, 1) := by decide +kernel
theorem dX7_begin_11 : decode cX7_begin 11 = .ok (.invokevirtual 28, 3) := by decide +kernel
theorem dX7_begin_14 : decode cX7_begin 14 = .ok (.return_, 1) := by decide +kernel
theorem dX7_become_0 : decode cX7_become 0 = .ok (.aload_n 0, 1) := by decide +kernel
theorem dX7_become_1 : decode cX7_become 1 = .ok (.aload_n 1, 1) := by decide +kernel
theorem dX7_become_2 : decode cX7_become 2 = .ok (.getfield 15, 3) := by decide +kernel
theorem dX7_become_5 : decode cX7_become 5 = .ok (.putfield 15, 3) := by decide +kernel
theorem dX7_become_8 : decode cX7_become 8 = .ok (.aload_n 0, 1) := by decide +kernel
theorem dX7_become_9 : decode cX7_become 9 = .ok (.aload_n 1, 1) := by decide +kernel
theorem dX7_become_10 : decode cX7_become 10 = .ok (.getfield 19, 3) := by decide +kernel
theorem dX7_become_13 : decode cX7_become 13 = .ok (.putfield 19, 3) := by decide +kernel
theorem dX7_become_16 : decode cX7_become 16 = .ok (.aload_n 0, 1) := by decide +kernel
theorem dX7_become_17 : decode cX7_become 17 = .ok (.aload_n 1, 1) := by decide +kernel
theorem dX7_become_18 : decode cX7_become 18 = .ok (.getfield 22, 3) := by decide +kernel
theorem dX7_become_21 : decode cX7_become 21 = .ok (.putfield 22, 3) := by decide +kernel
theorem dX7_become_24 : decode cX7_become 24 = .ok (.aload_n 0, 1) := by decide +kernel
theorem dX7_become_25 : decode cX7_become 25 = .ok (.aload_n 1, 1) := by decide +kernel
theorem dX7_become_26 : decode cX7_become 26 = .ok (.getfield 25, 3) := by decide +kernel
theorem dX7_become_29 : decode cX7_become 29 = .ok (.putfield 25, 3) := by decide +kernel
theorem dX7_become_32 : decode cX7_become 32 = .ok (.aload_n 1, 1) := by decide +kernel
theorem dX7_become_33 : decode cX7_become 33 = .ok (.getfield 9, 3) := by decide +kernel
theorem dX7_become_36 : decode cX7_become 36 = .ok (.iconst 0, 1) := by decide +kernel
theorem dX7_become_37 : decode cX7_become 37 = .ok (.aload_n 0, 1) := by decide +kernel
theorem dX7_become_38 : decode cX7_become 38 = .ok (.getfield 9, 3) := by decide +kernel
theorem dX7_become_41 : decode cX7_become 41 = .ok (.iconst 0, 1) := by decide +kernel
theorem dX7_become_42 : decode cX7_become 42 = .ok (.bipush 6, 2) := by decide +kernel
theorem dX7_become_44 : decode cX7_become 44 = .ok (.invokestatic 31, 3) := by decide +kernel
theorem dX7_become_47 : decode cX7_become 47 = .ok (.return_, 1) := by decide +kernel
theorem dX7_isOf_0 : decode cX7_isOf 0 = .ok (.aload_n 0, 1) := by decide +kernel
theorem dX7_isOf_1 : decode cX7_isOf 1 = .ok (.getfield 15, 3) := by decide +kernel
theorem dX7_isOf_4 : decode cX7_isOf 4 = .ok (.istore_n 2, 1) := by decide +kernel
theorem dX7_isOf_5 : decode cX7_isOf 5 = .ok (.iconst 0, 1) := by decide +kernel
theorem dX7_isOf_6 : decode cX7_isOf 6 = .ok (.istore_n 3, 1) := by decide +kernel
theorem dX7_isOf_7 : decode cX7_isOf 7 = .ok (.iload_n 3, 1) := by decide +kernel
theorem dX7_isOf_8 : decode cX7_isOf 8 = .ok (.getstatic 37, 3) := by decide +kernel
theorem dX7_isOf_11 : decode cX7_isOf 11 = .ok (.arraylength, 1) := by decide +kernel
theorem dX7_isOf_12 : decode cX7_isOf 12 = .ok (.if_icmp .ge 34, 3) := by decide +kernel
theorem dX7_isOf_15 : decode cX7_isOf 15 = .ok (.iload_n 2, 1) := by decide +kernel
theorem dX7_isOf_16 : decode cX7_isOf 16 = .ok (.ifCond .lt 30, 3) := by decide +kernel
theorem dX7_isOf_19 : decode cX7_isOf 19 = .ok (.iload_n 2, 1) := by decide +kernel
theorem dX7_isOf_20 : decode cX7_isOf 20 = .ok (.getstatic 37, 3) := by decide +kernel
theorem dX7_isOf_23 : decode cX7_isOf 23 = .ok (.arraylength, 1) := by decide +kernel
theorem dX7_isOf_24 : decode cX7_isOf 24 = .ok (.if_icmp .ge 22, 3) := by decide +kernel
theorem dX7_isOf_27 : decode cX7_isOf 27 = .ok (.iload_n 2, 1) := by decide +kernel
theorem dX7_isOf_28 : decode cX7_isOf 28 = .ok (.iload_n 1, 1) := by decide +kernel
theorem dX7_isOf_29 : decode cX7_isOf 29 = .ok (.if_icmp .ne 5, 3) := by decide +kernel
theorem dX7_isOf_32 : decode cX7_isOf 32 = .ok (.iconst 1, 1) := by decide +kernel
theorem dX7_isOf_33 : decode cX7_isOf 33 = .ok (.ireturn, 1) := by decide +kernel
theorem dX7_isOf_34 : decode cX7_isOf 34 = .ok (.getstatic 37, 3) := by decide +kernel
theorem dX7_isOf_37 : decode cX7_isOf 37 = .ok (.iload_n 2, 1) := by decide +kernel
theorem dX7_isOf_38 : decode cX7_isOf 38 = .ok (.iaload, 1) := by decide +kernel
theorem dX7_isOf_39 : decode cX7_isOf 39 = .ok (.istore_n 2, 1) := by decide +kernel
theorem dX7_isOf_40 : decode cX7_isOf 40 = .ok (.iinc 3 1, 3) := by decide +kernel
theorem dX7_isOf_43 : decode cX7_isOf 43 = .ok (.goto (-36), 3) := by decide +kernel
theorem dX7_isOf_46 : decode cX7_isOf 46 = .ok (.iconst 0, 1) := by decide +kernel
theorem dX7_isOf_47 : decode cX7_isOf 47 = .ok (.ireturn, 1) := by decide +kernel
theorem dX7_shownPage_0 : decode cX7_shownPage 0 = .ok (.aload_n 0, 1) := by decide +kernel
theorem dX7_shownPage_1 : decode cX7_shownPage 1 = .ok (.getfield 25, 3) := by decide +kernel
theorem dX7_shownPage_4 : decode cX7_shownPage 4 = .ok (.ifCond .lt 24, 3) := by decide +kernel
theorem dX7_shownPage_7 : decode cX7_shownPage 7 = .ok (.aload_n 0, 1) := by decide +kernel
theorem dX7_shownPage_8 : decode cX7_shownPage 8 = .ok (.getfield 25, 3) := by decide +kernel
theorem dX7_shownPage_11 : decode cX7_shownPage 11 = .ok (.bipush 6, 2) := by decide +kernel
theorem dX7_shownPage_13 : decode cX7_shownPage 13 = .ok (.if_icmp .ge 15, 3) := by decide +kernel
theorem dX7_shownPage_16 : decode cX7_shownPage 16 = .ok (.aload_n 0, 1) := by decide +kernel
theorem dX7_shownPage_17 : decode cX7_shownPage 17 = .ok (.getfield 9, 3) := by decide +kernel
theorem dX7_shownPage_20 : decode cX7_shownPage 20 = .ok (.aload_n 0, 1) := by decide +kernel
theorem dX7_shownPage_21 : decode cX7_shownPage 21 = .ok (.getfield 25, 3) := by decide +kernel
theorem dX7_shownPage_24 : decode cX7_shownPage 24 = .ok (.iaload, 1) := by decide +kernel
theorem dX7_shownPage_25 : decode cX7_shownPage 25 = .ok (.goto 5, 3) := by decide +kernel
theorem dX7_shownPage_28 : decode cX7_shownPage 28 = .ok (.ldc 40, 2) := by decide +kernel
theorem dX7_shownPage_30 : decode cX7_shownPage 30 = .ok (.ireturn, 1) := by decide +kernel
theorem dX7_showInstead_0 : decode cX7_showInstead 0 = .ok (.aload_n 0, 1) := by decide +kernel
theorem dX7_showInstead_1 : decode cX7_showInstead 1 = .ok (.getfield 25, 3) := by decide +kernel
theorem dX7_showInstead_4 : decode cX7_showInstead 4 = .ok (.ifCond .lt 22, 3) := by decide +kernel
theorem dX7_showInstead_7 : decode cX7_showInstead 7 = .ok (.aload_n 0, 1) := by decide +kernel
theorem dX7_showInstead_8 : decode cX7_showInstead 8 = .ok (.getfield 25, 3) := by decide +kernel
theorem dX7_showInstead_11 : decode cX7_showInstead 11 = .ok (.bipush 6, 2) := by decide +kernel
theorem dX7_showInstead_13 : decode cX7_showInstead 13 = .ok (.if_icmp .ge 13, 3) := by decide +kernel
theorem dX7_showInstead_16 : decode cX7_showInstead 16 = .ok (.aload_n 0, 1) := by decide +kernel
theorem dX7_showInstead_17 : decode cX7_showInstead 17 = .ok (.getfield 9, 3) := by decide +kernel
theorem dX7_showInstead_20 : decode cX7_showInstead 20 = .ok (.aload_n 0, 1) := by decide +kernel
theorem dX7_showInstead_21 : decode cX7_showInstead 21 = .ok (.getfield 25, 3) := by decide +kernel
theorem dX7_showInstead_24 : decode cX7_showInstead 24 = .ok (.iload_n 1, 1) := by decide +kernel
theorem dX7_showInstead_25 : decode cX7_showInstead 25 = .ok (.iastore, 1) := by decide +kernel
theorem dX7_showInstead_26 : decode cX7_showInstead 26 = .ok (.return_, 1) := by decide +kernel
theorem dX7_stepBack_0 : decode cX7_stepBack 0 = .ok (.aload_n 0, 1) := by decide +kernel
theorem dX7_stepBack_1 : decode cX7_stepBack 1 = .ok (.getfield 15, 3) := by decide +kernel
theorem dX7_stepBack_4 : decode cX7_stepBack 4 = .ok (.iconst 5, 1) := by decide +kernel
theorem dX7_stepBack_5 : decode cX7_stepBack 5 = .ok (.if_icmp .eq 10, 3) := by decide +kernel
theorem dX7_stepBack_8 : decode cX7_stepBack 8 = .ok (.aload_n 0, 1) := by decide +kernel
theorem dX7_stepBack_9 : decode cX7_stepBack 9 = .ok (.getfield 25, 3) := by decide +kernel
theorem dX7_stepBack_12 : decode cX7_stepBack 12 = .ok (.ifCond .gt 5, 3) := by decide +kernel
theorem dX7_stepBack_15 : decode cX7_stepBack 15 = .ok (.iconst 0, 1) := by decide +kernel
theorem dX7_stepBack_16 : decode cX7_stepBack 16 = .ok (.ireturn, 1) := by decide +kernel
theorem dX7_stepBack_17 : decode cX7_stepBack 17 = .ok (.aload_n 0, 1) := by decide +kernel
theorem dX7_stepBack_18 : decode cX7_stepBack 18 = .ok (.dup, 1) := by decide +kernel
theorem dX7_stepBack_19 : decode cX7_stepBack 19 = .ok (.getfield 25, 3) := by decide +kernel
theorem dX7_stepBack_22 : decode cX7_stepBack 22 = .ok (.iconst 1, 1) := by decide +kernel
theorem dX7_stepBack_23 : decode cX7_stepBack 23 = .ok (.isub, 1) := by decide +kernel
theorem dX7_stepBack_24 : decode cX7_stepBack 24 = .ok (.putfield 25, 3) := by decide +kernel
theorem dX7_stepBack_27 : decode cX7_stepBack 27 = .ok (.iconst 1, 1) := by decide +kernel
theorem dX7_stepBack_28 : decode cX7_stepBack 28 = .ok (.ireturn, 1) := by decide +kernel
theorem dX7_stepForward_0 : decode cX7_stepForward 0 = .ok (.aload_n 0, 1) := by decide +kernel
theorem dX7_stepForward_1 : decode cX7_stepForward 1 = .ok (.getfield 15, 3) := by decide +kernel
theorem dX7_stepForward_4 : decode cX7_stepForward 4 = .ok (.iconst 5, 1) := by decide +kernel
theorem dX7_stepForward_5 : decode cX7_stepForward 5 = .ok (.if_icmp .eq 16, 3) := by decide +kernel
theorem dX7_stepForward_8 : decode cX7_stepForward 8 = .ok (.aload_n 0, 1) := by decide +kernel
theorem dX7_stepForward_9 : decode cX7_stepForward 9 = .ok (.getfield 25, 3) := by decide +kernel
theorem dX7_stepForward_12 : decode cX7_stepForward 12 = .ok (.iconst 1, 1) := by decide +kernel
theorem dX7_stepForward_13 : decode cX7_stepForward 13 = .ok (.iadd, 1) := by decide +kernel
theorem dX7_stepForward_14 : decode cX7_stepForward 14 = .ok (.aload_n 0, 1) := by decide +kernel
theorem dX7_stepForward_15 : decode cX7_stepForward 15 = .ok (.getfield 22, 3) := by decide +kernel
theorem dX7_stepForward_18 : decode cX7_stepForward 18 = .ok (.if_icmp .lt 5, 3) := by decide +kernel
theorem dX7_stepForward_21 : decode cX7_stepForward 21 = .ok (.iconst 0, 1) := by decide +kernel
theorem dX7_stepForward_22 : decode cX7_stepForward 22 = .ok (.ireturn, 1) := by decide +kernel
theorem dX7_stepForward_23 : decode cX7_stepForward 23 = .ok (.aload_n 0, 1) := by decide +kernel
theorem dX7_stepForward_24 : decode cX7_stepForward 24 = .ok (.dup, 1) := by decide +kernel
theorem dX7_stepForward_25 : decode cX7_stepForward 25 = .ok (.getfield 25, 3) := by decide +kernel
theorem dX7_stepForward_28 : decode cX7_stepForward 28 = .ok (.iconst 1, 1) := by decide +kernel
theorem dX7_stepForward_29 : decode cX7_stepForward 29 = .ok (.iadd, 1) := by decide +kernel
theorem dX7_stepForward_30 : decode cX7_stepForward 30 = .ok (.putfield 25, 3) := by decide +kernel
theorem dX7_stepForward_33 : decode cX7_stepForward 33 = .ok (.iconst 1, 1) := by decide +kernel
theorem dX7_stepForward_34 : decode cX7_stepForward 34 = .ok (.ireturn, 1) := by decide +kernel
theorem dX7_moveOn_0 : decode cX7_moveOn 0 = .ok (.aload_n 0, 1) := by decide +kernel
theorem dX7_moveOn_1 : decode cX7_moveOn 1 = .ok (.aload_n 0, 1) := by decide +kernel
theorem dX7_moveOn_2 : decode cX7_moveOn 2 = .ok (.getfield 25, 3) := by decide +kernel
theorem dX7_moveOn_5 : decode cX7_moveOn 5 = .ok (.iconst 1, 1) := by decide +kernel
theorem dX7_moveOn_6 : decode cX7_moveOn 6 = .ok (.iadd, 1) := by decide +kernel
theorem dX7_moveOn_7 : decode cX7_moveOn 7 = .ok (.putfield 22, 3) := by decide +kernel
theorem dX7_moveOn_10 : decode cX7_moveOn 10 = .ok (.aload_n 0, 1) := by decide +kernel
theorem dX7_moveOn_11 : decode cX7_moveOn 11 = .ok (.getfield 15, 3) := by decide +kernel
theorem dX7_moveOn_14 : decode cX7_moveOn 14 = .ok (.iconst 5, 1) := by decide +kernel
theorem dX7_moveOn_15 : decode cX7_moveOn 15 = .ok (.if_icmp .ne 16, 3) := by decide +kernel
theorem dX7_moveOn_18 : decode cX7_moveOn 18 = .ok (.aload_n 0, 1) := by decide +kernel
theorem dX7_moveOn_19 : decode cX7_moveOn 19 = .ok (.getfield 22, 3) := by decide +kernel
theorem dX7_moveOn_22 : decode cX7_moveOn 22 = .ok (.iconst 3, 1) := by decide +kernel
theorem dX7_moveOn_23 : decode cX7_moveOn 23 = .ok (.if_icmp .lt 8, 3) := by decide +kernel
theorem dX7_moveOn_26 : decode cX7_moveOn 26 = .ok (.aload_n 0, 1) := by decide +kernel
theorem dX7_moveOn_27 : decode cX7_moveOn 27 = .ok (.invokevirtual 28, 3) := by decide +kernel
theorem dX7_moveOn_30 : decode cX7_moveOn 30 = .ok (.return_, 1) := by decide +kernel
theorem dX7_moveOn_31 : decode cX7_moveOn 31 = .ok (.aload_n 0, 1) := by decide +kernel
theorem dX7_moveOn_32 : decode cX7_moveOn 32 = .ok (.getfield 22, 3) := by decide +kernel
theorem dX7_moveOn_35 : decode cX7_moveOn 35 = .ok (.aload_n 0, 1) := by decide +kernel
theorem dX7_moveOn_36 : decode cX7_moveOn 36 = .ok (.getfield 15, 3) := by decide +kernel
theorem dX7_moveOn_39 : decode cX7_moveOn 39 = .ok (.iconst 2, 1) := by decide +kernel
theorem dX7_moveOn_40 : decode cX7_moveOn 40 = .ok (.if_icmp .ne 7, 3) := by decide +kernel
theorem dX7_moveOn_43 : decode cX7_moveOn 43 = .ok (.iconst 3, 1) := by decide +kernel
theorem dX7_moveOn_44 : decode cX7_moveOn 44 = .ok (.goto 5, 3) := by decide +kernel
theorem dX7_moveOn_47 : decode cX7_moveOn 47 = .ok (.bipush 6, 2) := by decide +kernel
theorem dX7_moveOn_49 : decode cX7_moveOn 49 = .ok (.if_icmp .lt 7, 3) := by decide +kernel
theorem dX7_moveOn_52 : decode cX7_moveOn 52 = .ok (.aload_n 0, 1) := by decide +kernel
theorem dX7_moveOn_53 : decode cX7_moveOn 53 = .ok (.invokevirtual 41, 3) := by decide +kernel
theorem dX7_moveOn_56 : decode cX7_moveOn 56 = .ok (.aload_n 0, 1) := by decide +kernel
theorem dX7_moveOn_57 : decode cX7_moveOn 57 = .ok (.getfield 22, 3) := by decide +kernel
theorem dX7_moveOn_60 : decode cX7_moveOn 60 = .ok (.ifCond .lt 40, 3) := by decide +kernel
theorem dX7_moveOn_63 : decode cX7_moveOn 63 = .ok (.aload_n 0, 1) := by decide +kernel
theorem dX7_moveOn_64 : decode cX7_moveOn 64 = .ok (.getfield 22, 3) := by decide +kernel
theorem dX7_moveOn_67 : decode cX7_moveOn 67 = .ok (.bipush 6, 2) := by decide +kernel
theorem dX7_moveOn_69 : decode cX7_moveOn 69 = .ok (.if_icmp .ge 31, 3) := by decide +kernel
theorem dX7_moveOn_72 : decode cX7_moveOn 72 = .ok (.aload_n 0, 1) := by decide +kernel
theorem dX7_moveOn_73 : decode cX7_moveOn 73 = .ok (.getfield 9, 3) := by decide +kernel
theorem dX7_moveOn_76 : decode cX7_moveOn 76 = .ok (.aload_n 0, 1) := by decide +kernel
theorem dX7_moveOn_77 : decode cX7_moveOn 77 = .ok (.getfield 22, 3) := by decide +kernel
theorem dX7_moveOn_80 : decode cX7_moveOn 80 = .ok (.iload_n 1, 1) := by decide +kernel
theorem dX7_moveOn_81 : decode cX7_moveOn 81 = .ok (.iastore, 1) := by decide +kernel
theorem dX7_moveOn_82 : decode cX7_moveOn 82 = .ok (.aload_n 0, 1) := by decide +kernel
theorem dX7_moveOn_83 : decode cX7_moveOn 83 = .ok (.aload_n 0, 1) := by decide +kernel
theorem dX7_moveOn_84 : decode cX7_moveOn 84 = .ok (.getfield 22, 3) := by decide +kernel
theorem dX7_moveOn_87 : decode cX7_moveOn 87 = .ok (.putfield 25, 3) := by decide +kernel
theorem dX7_moveOn_90 : decode cX7_moveOn 90 = .ok (.aload_n 0, 1) := by decide +kernel
theorem dX7_moveOn_91 : decode cX7_moveOn 91 = .ok (.dup, 1) := by decide +kernel
theorem dX7_moveOn_92 : decode cX7_moveOn 92 = .ok (.getfield 22, 3) := by decide +kernel
theorem dX7_moveOn_95 : decode cX7_moveOn 95 = .ok (.iconst 1, 1) := by decide +kernel
theorem dX7_moveOn_96 : decode cX7_moveOn 96 = .ok (.iadd, 1) := by decide +kernel
theorem dX7_moveOn_97 : decode cX7_moveOn 97 = .ok (.putfield 22, 3) := by decide +kernel
theorem dX7_moveOn_100 : decode cX7_moveOn 100 = .ok (.return_, 1) := by decide +kernel
theorem dX7_press_0 : decode cX7_press 0 = .ok (.iload_n 2, 1) := by decide +kernel
theorem dX7_press_1 : decode cX7_press 1 = .ok (.ifCond .ne 8, 3) := by decide +kernel
theorem dX7_press_4 : decode cX7_press 4 = .ok (.aload_n 0, 1) := by decide +kernel
theorem dX7_press_5 : decode cX7_press 5 = .ok (.invokevirtual 44, 3) := by decide +kernel
theorem dX7_press_8 : decode cX7_press 8 = .ok (.ireturn, 1) := by decide +kernel
theorem dX7_press_9 : decode cX7_press 9 = .ok (.iload_n 2, 1) := by decide +kernel
theorem dX7_press_10 : decode cX7_press 10 = .ok (.iconst 1, 1) := by decide +kernel
theorem dX7_press_11 : decode cX7_press 11 = .ok (.if_icmp .ne 8, 3) := by decide +kernel
theorem dX7_press_14 : decode cX7_press 14 = .ok (.aload_n 0, 1) := by decide +kernel
theorem dX7_press_15 : decode cX7_press 15 = .ok (.invokevirtual 48, 3) := by decide +kernel
theorem dX7_press_18 : decode cX7_press 18 = .ok (.ireturn, 1) := by decide +kernel
theorem dX7_press_19 : decode cX7_press 19 = .ok (.aload_n 1, 1) := by decide +kernel
theorem dX7_press_20 : decode cX7_press 20 = .ok (.aload_n 0, 1) := by decide +kernel
theorem dX7_press_21 : decode cX7_press 21 = .ok (.invokevirtual 51, 3) := by decide +kernel
theorem dX7_press_24 : decode cX7_press 24 = .ok (.iload_n 2, 1) := by decide +kernel
theorem dX7_press_25 : decode cX7_press 25 = .ok (.iconst 2, 1) := by decide +kernel
theorem dX7_press_26 : decode cX7_press 26 = .ok (.isub, 1) := by decide +kernel
theorem dX7_press_27 : decode cX7_press 27 = .ok (.invokevirtual 55, 3) := by decide +kernel
theorem dX7_press_30 : decode cX7_press 30 = .ok (.istore 4, 2) := by decide +kernel
theorem dX7_press_32 : decode cX7_press 32 = .ok (.iload 4, 2) := by decide +kernel
theorem dX7_press_34 : decode cX7_press 34 = .ok (.ldc 40, 2) := by decide +kernel
theorem dX7_press_36 : decode cX7_press 36 = .ok (.if_icmp .eq 15, 3) := by decide +kernel
theorem dX7_press_39 : decode cX7_press 39 = .ok (.aload_n 0, 1) := by decide +kernel
theorem dX7_press_40 : decode cX7_press 40 = .ok (.getfield 15, 3) := by decide +kernel
theorem dX7_press_43 : decode cX7_press 43 = .ok (.iconst 3, 1) := by decide +kernel
theorem dX7_press_44 : decode cX7_press 44 = .ok (.if_icmp .ne 9, 3) := by decide +kernel
theorem dX7_press_47 : decode cX7_press 47 = .ok (.iload_n 3, 1) := by decide +kernel
theorem dX7_press_48 : decode cX7_press 48 = .ok (.ifCond .ne 5, 3) := by decide +kernel
theorem dX7_press_51 : decode cX7_press 51 = .ok (.iconst 0, 1) := by decide +kernel
theorem dX7_press_52 : decode cX7_press 52 = .ok (.ireturn, 1) := by decide +kernel
theorem dX7_press_53 : decode cX7_press 53 = .ok (.aload_n 0, 1) := by decide +kernel
theorem dX7_press_54 : decode cX7_press 54 = .ok (.getfield 15, 3) := by decide +kernel
theorem dX7_press_57 : decode cX7_press 57 = .ok (.iconst 3, 1) := by decide +kernel
theorem dX7_press_58 : decode cX7_press 58 = .ok (.if_icmp .ne 13, 3) := by decide +kernel
theorem dX7_press_61 : decode cX7_press 61 = .ok (.aload_n 0, 1) := by decide +kernel
theorem dX7_press_62 : decode cX7_press 62 = .ok (.iconst 1, 1) := by decide +kernel
theorem dX7_press_63 : decode cX7_press 63 = .ok (.iload 4, 2) := by decide +kernel
theorem dX7_press_65 : decode cX7_press 65 = .ok (.invokevirtual 61, 3) := by decide +kernel
theorem dX7_press_68 : decode cX7_press 68 = .ok (.goto 9, 3) := by decide +kernel
theorem dX7_press_71 : decode cX7_press 71 = .ok (.aload_n 0, 1) := by decide +kernel
theorem dX7_press_72 : decode cX7_press 72 = .ok (.iload 4, 2) := by decide +kernel
theorem dX7_press_74 : decode cX7_press 74 = .ok (.invokevirtual 65, 3) := by decide +kernel
theorem dX7_press_77 : decode cX7_press 77 = .ok (.iconst 1, 1) := by decide +kernel
theorem dX7_press_78 : decode cX7_press 78 = .ok (.ireturn, 1) := by decide +kernel
theorem dX7_goHome_0 : decode cX7_goHome 0 = .ok (.aload_n 0, 1) := by decide +kernel
theorem dX7_goHome_1 : decode cX7_goHome 1 = .ok (.getfield 9, 3) := by decide +kernel
theorem dX7_goHome_4 : decode cX7_goHome 4 = .ok (.iconst 0, 1) := by decide +kernel
theorem dX7_goHome_5 : decode cX7_goHome 5 = .ok (.aload_n 0, 1) := by decide +kernel
theorem dX7_goHome_6 : decode cX7_goHome 6 = .ok (.getfield 19, 3) := by decide +kernel
theorem dX7_goHome_9 : decode cX7_goHome 9 = .ok (.iastore, 1) := by decide +kernel
theorem dX7_goHome_10 : decode cX7_goHome 10 = .ok (.aload_n 0, 1) := by decide +kernel
theorem dX7_goHome_11 : decode cX7_goHome 11 = .ok (.iconst 1, 1) := by decide +kernel
theorem dX7_goHome_12 : decode cX7_goHome 12 = .ok (.putfield 22, 3) := by decide +kernel
theorem dX7_goHome_15 : decode cX7_goHome 15 = .ok (.aload_n 0, 1) := by decide +kernel
theorem dX7_goHome_16 : decode cX7_goHome 16 = .ok (.iconst 0, 1) := by decide +kernel
theorem dX7_goHome_17 : decode cX7_goHome 17 = .ok (.putfield 25, 3) := by decide +kernel
theorem dX7_goHome_20 : decode cX7_goHome 20 = .ok (.return_, 1) := by decide +kernel
theorem dX7_forgetFirst_0 : decode cX7_forgetFirst 0 = .ok (.iconst 1, 1) := by decide +kernel
theorem dX7_forgetFirst_1 : decode cX7_forgetFirst 1 = .ok (.istore_n 1, 1) := by decide +kernel
theorem dX7_forgetFirst_2 : decode cX7_forgetFirst 2 = .ok (.iload_n 1, 1) := by decide +kernel
theorem dX7_forgetFirst_3 : decode cX7_forgetFirst 3 = .ok (.bipush 6, 2) := by decide +kernel
theorem dX7_forgetFirst_5 : decode cX7_forgetFirst 5 = .ok (.if_icmp .ge 23, 3) := by decide +kernel
theorem dX7_forgetFirst_8 : decode cX7_forgetFirst 8 = .ok (.aload_n 0, 1) := by decide +kernel
theorem dX7_forgetFirst_9 : decode cX7_forgetFirst 9 = .ok (.getfield 9, 3) := by decide +kernel
theorem dX7_forgetFirst_12 : decode cX7_forgetFirst 12 = .ok (.iload_n 1, 1) := by decide +kernel
theorem dX7_forgetFirst_13 : decode cX7_forgetFirst 13 = .ok (.iconst 1, 1) := by decide +kernel
theorem dX7_forgetFirst_14 : decode cX7_forgetFirst 14 = .ok (.isub, 1) := by decide +kernel
theorem dX7_forgetFirst_15 : decode cX7_forgetFirst 15 = .ok (.aload_n 0, 1) := by decide +kernel
theorem dX7_forgetFirst_16 : decode cX7_forgetFirst 16 = .ok (.getfield 9, 3) := by decide +kernel
theorem dX7_forgetFirst_19 : decode cX7_forgetFirst 19 = .ok (.iload_n 1, 1) := by decide +kernel
theorem dX7_forgetFirst_20 : decode cX7_forgetFirst 20 = .ok (.iaload, 1) := by decide +kernel
theorem dX7_forgetFirst_21 : decode cX7_forgetFirst 21 = .ok (.iastore, 1) := by decide +kernel
theorem dX7_forgetFirst_22 : decode cX7_forgetFirst 22 = .ok (.iinc 1 1, 3) := by decide +kernel
theorem dX7_forgetFirst_25 : decode cX7_forgetFirst 25 = .ok (.goto (-23), 3) := by decide +kernel
theorem dX7_forgetFirst_28 : decode cX7_forgetFirst 28 = .ok (.aload_n 0, 1) := by decide +kernel
theorem dX7_forgetFirst_29 : decode cX7_forgetFirst 29 = .ok (.dup, 1) := by decide +kernel
theorem dX7_forgetFirst_30 : decode cX7_forgetFirst 30 = .ok (.getfield 22, 3) := by decide +kernel
theorem dX7_forgetFirst_33 : decode cX7_forgetFirst 33 = .ok (.iconst 1, 1) := by decide +kernel
theorem dX7_forgetFirst_34 : decode cX7_forgetFirst 34 = .ok (.isub, 1) := by decide +kernel
theorem dX7_forgetFirst_35 : decode cX7_forgetFirst 35 = .ok (.putfield 22, 3) := by decide +kernel
theorem dX7_forgetFirst_38 : decode cX7_forgetFirst 38 = .ok (.return_, 1) := by decide +kernel
theorem dX8_init_0 : decode cX8_init 0 = .ok (.aload_n 0, 1) := by decide +kernel
theorem dX8_init_1 : decode cX8_init 1 = .ok (.invokespecial 3, 3) := by decide +kernel
theorem dX8_init_4 : decode cX8_init 4 = .ok (.aload_n 0, 1) := by decide +kernel
theorem dX8_init_5 : decode cX8_init 5 = .ok (.bipush 8, 2) := by decide +kernel
theorem dX8_init_7 : decode cX8_init 7 = .ok (.newarray .int, 2) := by decide +kernel
theorem dX8_init_9 : decode cX8_init 9 = .ok (.putfield 9, 3) := by decide +kernel
theorem dX8_init_12 : decode cX8_init 12 = .ok (.aload_n 0, 1) := by decide +kernel
theorem dX8_init_13 : decode cX8_init 13 = .ok (.bipush 24, 2) := by decide +kernel
theorem dX8_init_15 : decode cX8_init 15 = .ok (.newarray .int, 2) := by decide +kernel
theorem dX8_init_17 : decode cX8_init 17 = .ok (.putfield 15, 3) := by decide +kernel
theorem dX8_init_20 : decode cX8_init 20 = .ok (.aload_n 0, 1) := by decide +kernel
theorem dX8_init_21 : decode cX8_init 21 = .ok (.iconst 0, 1) := by decide +kernel
theorem dX8_init_22 : decode cX8_init 22 = .ok (.putfield 18, 3) := by decide +kernel
theorem dX8_init_25 : decode cX8_init 25 = .ok (.return_, 1) := by decide +kernel
theorem dX8_become_0 : decode cX8_become 0 = .ok (.aload_n 0, 1) := by decide +kernel
theorem dX8_become_1 : decode cX8_become 1 = .ok (.aload_n 1, 1) := by decide +kernel
theorem dX8_become_2 : decode cX8_become 2 = .ok (.getfield 18, 3) := by decide +kernel
theorem dX8_become_5 : decode cX8_become 5 = .ok (.putfield 18, 3) := by decide +kernel
theorem dX8_become_8 : decode cX8_become 8 = .ok (.aload_n 1, 1) := by decide +kernel
theorem dX8_become_9 : decode cX8_become 9 = .ok (.getfield 9, 3) := by decide +kernel
theorem dX8_become_12 : decode cX8_become 12 = .ok (.iconst 0, 1) := by decide +kernel
theorem dX8_become_13 : decode cX8_become 13 = .ok (.aload_n 0, 1) := by decide +kernel
theorem dX8_become_14 : decode cX8_become 14 = .ok (.getfield 9, 3) := by decide +kernel
theorem dX8_become_17 : decode cX8_become 17 = .ok (.iconst 0, 1) := by decide +kernel
theorem dX8_become_18 : decode cX8_become 18 = .ok (.bipush 8, 2) := by decide +kernel
theorem dX8_become_20 : decode cX8_become 20 = .ok (.invokestatic 22, 3) := by decide +kernel
theorem dX8_become_23 : decode cX8_become 23 = .ok (.aload_n 1, 1) := by decide +kernel
theorem dX8_become_24 : decode cX8_become 24 = .ok (.getfield 15, 3) := by decide +kernel
theorem dX8_become_27 : decode cX8_become 27 = .ok (.iconst 0, 1) := by decide +kernel
theorem dX8_become_28 : decode cX8_become 28 = .ok (.aload_n 0, 1) := by decide +kernel
theorem dX8_become_29 : decode cX8_become 29 = .ok (.getfield 15, 3) := by decide +kernel
theorem dX8_become_32 : decode cX8_become 32 = .ok (.iconst 0, 1) := by decide +kernel
theorem dX8_become_33 : decode cX8_become 33 = .ok (.bipush 24, 2) := by decide +kernel
theorem dX8_become_35 : decode cX8_become 35 = .ok (.invokestatic 22, 3) := by decide +kernel
theorem dX8_become_38 : decode cX8_become 38 = .ok (.return_, 1) := by decide +kernel
theorem dX8_begin_0 : decode cX8_begin 0 = .ok (.aload_n 0, 1) := by decide +kernel
theorem dX8_begin_1 : decode cX8_begin 1 = .ok (.iload_n 1, 1) := by decide +kernel
theorem dX8_begin_2 : decode cX8_begin 2 = .ok (.putfield 18, 3) := by decide +kernel
theorem dX8_begin_5 : decode cX8_begin 5 = .ok (.iconst 0, 1) := by decide +kernel
theorem dX8_begin_6 : decode cX8_begin 6 = .ok (.istore_n 2, 1) := by decide +kernel
theorem dX8_begin_7 : decode cX8_begin 7 = .ok (.iload_n 2, 1) := by decide +kernel
theorem dX8_begin_8 : decode cX8_begin 8 = .ok (.bipush 8, 2) := by decide +kernel
theorem dX8_begin_10 : decode cX8_begin 10 = .ok (.if_icmp .ge 16, 3) := by decide +kernel
theorem dX8_begin_13 : decode cX8_begin 13 = .ok (.aload_n 0, 1) := by decide +kernel
theorem dX8_begin_14 : decode cX8_begin 14 = .ok (.getfield 9, 3) := by decide +kernel
theorem dX8_begin_17 : decode cX8_begin 17 = .ok (.iload_n 2, 1) := by decide +kernel
theorem dX8_begin_18 : decode cX8_begin 18 = .ok (.iconst 0, 1) := by decide +kernel
theorem dX8_begin_19 : decode cX8_begin 19 = .ok (.iastore, 1) := by decide +kernel
theorem dX8_begin_20 : decode cX8_begin 20 = .ok (.iinc 2 1, 3) := by decide +kernel
theorem dX8_begin_23 : decode cX8_begin 23 = .ok (.goto (-16), 3) := by decide +kernel
theorem dX8_begin_26 : decode cX8_begin 26 = .ok (.return_, 1) := by decide +kernel
theorem dX8_hasPage_0 : decode cX8_hasPage 0 = .ok (.iload_n 1, 1) := by decide +kernel
theorem dX8_hasPage_1 : decode cX8_hasPage 1 = .ok (.ifCond .lt 15, 3) := by decide +kernel
theorem dX8_hasPage_4 : decode cX8_hasPage 4 = .ok (.iload_n 1, 1) := by decide +kernel
theorem dX8_hasPage_5 : decode cX8_hasPage 5 = .ok (.aload_n 0, 1) := by decide +kernel
theorem dX8_hasPage_6 : decode cX8_hasPage 6 = .ok (.getfield 18, 3) := by decide +kernel
theorem dX8_hasPage_9 : decode cX8_hasPage 9 = .ok (.if_icmp .ge 7, 3) := by decide +kernel
theorem dX8_hasPage_12 : decode cX8_hasPage 12 = .ok (.iconst 1, 1) := by decide +kernel
theorem dX8_hasPage_13 : decode cX8_hasPage 13 = .ok (.goto 4, 3) := by decide +kernel
theorem dX8_hasPage_16 : decode cX8_hasPage 16 = .ok (.iconst 0, 1) := by decide +kernel
theorem dX8_hasPage_17 : decode cX8_hasPage 17 = .ok (.ireturn, 1) := by decide +kernel
theorem dX8_linksOf_0 : decode cX8_linksOf 0 = .ok (.aload_n 0, 1) := by decide +kernel
theorem dX8_linksOf_1 : decode cX8_linksOf 1 = .ok (.iload_n 1, 1) := by decide +kernel
theorem dX8_linksOf_2 : decode cX8_linksOf 2 = .ok (.invokevirtual 28, 3) := by decide +kernel
theorem dX8_linksOf_5 : decode cX8_linksOf 5 = .ok (.ifCond .eq 12, 3) := by decide +kernel
theorem dX8_linksOf_8 : decode cX8_linksOf 8 = .ok (.aload_n 0, 1) := by decide +kernel
theorem dX8_linksOf_9 : decode cX8_linksOf 9 = .ok (.getfield 9, 3) := by decide +kernel
theorem dX8_linksOf_12 : decode cX8_linksOf 12 = .ok (.iload_n 1, 1) := by decide +kernel
theorem dX8_linksOf_13 : decode cX8_linksOf 13 = .ok (.iaload, 1) := by decide +kernel
theorem dX8_linksOf_14 : decode cX8_linksOf 14 = .ok (.goto 4, 3) := by decide +kernel
theorem dX8_linksOf_17 : decode cX8_linksOf 17 = .ok (.iconst 0, 1) := by decide +kernel
theorem dX8_linksOf_18 : decode cX8_linksOf 18 = .ok (.ireturn, 1) := by decide +kernel
theorem dX8_target_0 : decode cX8_target 0 = .ok (.iload_n 2, 1) := by decide +kernel
theorem dX8_target_1 : decode cX8_target 1 = .ok (.ifCond .lt 25, 3) := by decide +kernel
theorem dX8_target_4 : decode cX8_target 4 = .ok (.iload_n 2, 1) := by decide +kernel
theorem dX8_target_5 : decode cX8_target 5 = .ok (.aload_n 0, 1) := by decide +kernel
theorem dX8_target_6 : decode cX8_target 6 = .ok (.iload_n 1, 1) := by decide +kernel
theorem dX8_target_7 : decode cX8_target 7 = .ok (.invokevirtual 32, 3) := by decide +kernel
theorem dX8_target_10 : decode cX8_target 10 = .ok (.if_icmp .ge 16, 3) := by decide +kernel
theorem dX8_target_13 : decode cX8_target 13 = .ok (.aload_n 0, 1) := by decide +kernel
theorem dX8_target_14 : decode cX8_target 14 = .ok (.getfield 15, 3) := by decide +kernel
theorem dX8_target_17 : decode cX8_target 17 = .ok (.iload_n 1, 1) := by decide +kernel
theorem dX8_target_18 : decode cX8_target 18 = .ok (.iconst 3, 1) := by decide +kernel
theorem dX8_target_19 : decode cX8_target 19 = .ok (.imul, 1) := by decide +kernel
theorem dX8_target_20 : decode cX8_target 20 = .ok (.iload_n 2, 1) := by decide +kernel
theorem dX8_target_21 : decode cX8_target 21 = .ok (.iadd, 1) := by decide +kernel
theorem dX8_target_22 : decode cX8_target 22 = .ok (.iaload, 1) := by decide +kernel
theorem dX8_target_23 : decode cX8_target 23 = .ok (.goto 5, 3) := by decide +kernel
theorem dX8_target_26 : decode cX8_target 26 = .ok (.ldc 36, 2) := by decide +kernel
theorem dX8_target_28 : decode cX8_target 28 = .ok (.ireturn, 1) := by decide +kernel
theorem dX8_addLink_0 : decode cX8_addLink 0 = .ok (.aload_n 0, 1) := by decide +kernel
theorem dX8_addLink_1 : decode cX8_addLink 1 = .ok (.iload_n 1, 1) := by decide +kernel
theorem dX8_addLink_2 : decode cX8_addLink 2 = .ok (.invokevirtual 28, 3) := by decide +kernel
theorem dX8_addLink_5 : decode cX8_addLink 5 = .ok (.ifCond .eq 39, 3) := by decide +kernel
theorem dX8_addLink_8 : decode cX8_addLink 8 = .ok (.aload_n 0, 1) := by decide +kernel
theorem dX8_addLink_9 : decode cX8_addLink 9 = .ok (.getfield 9, 3) := by decide +kernel
theorem dX8_addLink_12 : decode cX8_addLink 12 = .ok (.iload_n 1, 1) := by decide +kernel
theorem dX8_addLink_13 : decode cX8_addLink 13 = .ok (.iaload, 1) := by decide +kernel
theorem dX8_addLink_14 : decode cX8_addLink 14 = .ok (.iconst 3, 1) := by decide +kernel
theorem dX8_addLink_15 : decode cX8_addLink 15 = .ok (.if_icmp .ge 29, 3) := by decide +kernel
theorem dX8_addLink_18 : decode cX8_addLink 18 = .ok (.aload_n 0, 1) := by decide +kernel
theorem dX8_addLink_19 : decode cX8_addLink 19 = .ok (.getfield 15, 3) := by decide +kernel
theorem dX8_addLink_22 : decode cX8_addLink 22 = .ok (.iload_n 1, 1) := by decide +kernel
theorem dX8_addLink_23 : decode cX8_addLink 23 = .ok (.iconst 3, 1) := by decide +kernel
theorem dX8_addLink_24 : decode cX8_addLink 24 = .ok (.imul, 1) := by decide +kernel
theorem dX8_addLink_25 : decode cX8_addLink 25 = .ok (.aload_n 0, 1) := by decide +kernel
theorem dX8_addLink_26 : decode cX8_addLink 26 = .ok (.getfield 9, 3) := by decide +kernel
theorem dX8_addLink_29 : decode cX8_addLink 29 = .ok (.iload_n 1, 1) := by decide +kernel
theorem dX8_addLink_30 : decode cX8_addLink 30 = .ok (.iaload, 1) := by decide +kernel
theorem dX8_addLink_31 : decode cX8_addLink 31 = .ok (.iadd, 1) := by decide +kernel
theorem dX8_addLink_32 : decode cX8_addLink 32 = .ok (.iload_n 2, 1) := by decide +kernel
theorem dX8_addLink_33 : decode cX8_addLink 33 = .ok (.iastore, 1) := by decide +kernel
theorem dX8_addLink_34 : decode cX8_addLink 34 = .ok (.aload_n 0, 1) := by decide +kernel
theorem dX8_addLink_35 : decode cX8_addLink 35 = .ok (.getfield 9, 3) := by decide +kernel
theorem dX8_addLink_38 : decode cX8_addLink 38 = .ok (.iload_n 1, 1) := by decide +kernel
theorem dX8_addLink_39 : decode cX8_addLink 39 = .ok (.dup2, 1) := by decide +kernel
theorem dX8_addLink_40 : decode cX8_addLink 40 = .ok (.iaload, 1) := by decide +kernel
theorem dX8_addLink_41 : decode cX8_addLink 41 = .ok (.iconst 1, 1) := by decide +kernel
theorem dX8_addLink_42 : decode cX8_addLink 42 = .ok (.iadd, 1) := by decide +kernel
theorem dX8_addLink_43 : decode cX8_addLink 43 = .ok (.iastore, 1) := by decide +kernel
theorem dX8_addLink_44 : decode cX8_addLink 44 = .ok (.return_, 1) := by decide +kernel
theorem dX8_turnFirstLink_0 : decode cX8_turnFirstLink 0 = .ok (.aload_n 0, 1) := by decide +kernel
theorem dX8_turnFirstLink_1 : decode cX8_turnFirstLink 1 = .ok (.iload_n 1, 1) := by decide +kernel
theorem dX8_turnFirstLink_2 : decode cX8_turnFirstLink 2 = .ok (.invokevirtual 28, 3) := by decide +kernel
theorem dX8_turnFirstLink_5 : decode cX8_turnFirstLink 5 = .ok (.ifCond .eq 12, 3) := by decide +kernel
theorem dX8_turnFirstLink_8 : decode cX8_turnFirstLink 8 = .ok (.aload_n 0, 1) := by decide +kernel
theorem dX8_turnFirstLink_9 : decode cX8_turnFirstLink 9 = .ok (.getfield 15, 3) := by decide +kernel
theorem dX8_turnFirstLink_12 : decode cX8_turnFirstLink 12 = .ok (.iload_n 1, 1) := by decide +kernel
theorem dX8_turnFirstLink_13 : decode cX8_turnFirstLink 13 = .ok (.iconst 3, 1) := by decide +kernel
theorem dX8_turnFirstLink_14 : decode cX8_turnFirstLink 14 = .ok (.imul, 1) := by decide +kernel
theorem dX8_turnFirstLink_15 : decode cX8_turnFirstLink 15 = .ok (.iload_n 2, 1) := by decide +kernel
theorem dX8_turnFirstLink_16 : decode cX8_turnFirstLink 16 = .ok (.iastore, 1) := by decide +kernel
theorem dX8_turnFirstLink_17 : decode cX8_turnFirstLink 17 = .ok (.return_, 1) := by decide +kernel
theorem dX8_walkedTo_0 : decode cX8_walkedTo 0 = .ok (.iload_n 1, 1) := by decide +kernel
theorem dX8_walkedTo_1 : decode cX8_walkedTo 1 = .ok (.istore 4, 2) := by decide +kernel
theorem dX8_walkedTo_3 : decode cX8_walkedTo 3 = .ok (.iconst 0, 1) := by decide +kernel
theorem dX8_walkedTo_4 : decode cX8_walkedTo 4 = .ok (.istore 5, 2) := by decide +kernel
theorem dX8_walkedTo_6 : decode cX8_walkedTo 6 = .ok (.iload 5, 2) := by decide +kernel
theorem dX8_walkedTo_8 : decode cX8_walkedTo 8 = .ok (.iload_n 2, 1) := by decide +kernel
theorem dX8_walkedTo_9 : decode cX8_walkedTo 9 = .ok (.if_icmp .ge 29, 3) := by decide +kernel
theorem dX8_walkedTo_12 : decode cX8_walkedTo 12 = .ok (.aload_n 0, 1) := by decide +kernel
theorem dX8_walkedTo_13 : decode cX8_walkedTo 13 = .ok (.iload 4, 2) := by decide +kernel
theorem dX8_walkedTo_15 : decode cX8_walkedTo 15 = .ok (.iload_n 3, 1) := by decide +kernel
theorem dX8_walkedTo_16 : decode cX8_walkedTo 16 = .ok (.aload_n 0, 1) := by decide +kernel
theorem dX8_walkedTo_17 : decode cX8_walkedTo 17 = .ok (.iload 4, 2) := by decide +kernel
theorem dX8_walkedTo_19 : decode cX8_walkedTo 19 = .ok (.invokevirtual 32, 3) := by decide +kernel
theorem dX8_walkedTo_22 : decode cX8_walkedTo 22 = .ok (.iconst 1, 1) := by decide +kernel
theorem dX8_walkedTo_23 : decode cX8_walkedTo 23 = .ok (.isub, 1) := by decide +kernel
theorem dX8_walkedTo_24 : decode cX8_walkedTo 24 = .ok (.invokestatic 37, 3) := by decide +kernel
theorem dX8_walkedTo_27 : decode cX8_walkedTo 27 = .ok (.invokevirtual 43, 3) := by decide +kernel
theorem dX8_walkedTo_30 : decode cX8_walkedTo 30 = .ok (.istore 4, 2) := by decide +kernel
theorem dX8_walkedTo_32 : decode cX8_walkedTo 32 = .ok (.iinc 5 1, 3) := by decide +kernel
theorem dX8_walkedTo_35 : decode cX8_walkedTo 35 = .ok (.goto (-29), 3) := by decide +kernel
theorem dX8_walkedTo_38 : decode cX8_walkedTo 38 = .ok (.iload 4, 2) := by decide +kernel
theorem dX8_walkedTo_40 : decode cX8_walkedTo 40 = .ok (.ireturn, 1) := by decide +kernel
theorem dX8_distance_0 : decode cX8_distance 0 = .ok (.iconst 1, 1) := by decide +kernel
theorem dX8_distance_1 : decode cX8_distance 1 = .ok (.iload_n 1, 1) := by decide +kernel
theorem dX8_distance_2 : decode cX8_distance 2 = .ok (.ishl, 1) := by decide +kernel
theorem dX8_distance_3 : decode cX8_distance 3 = .ok (.istore_n 3, 1) := by decide +kernel
theorem dX8_distance_4 : decode cX8_distance 4 = .ok (.iconst 0, 1) := by decide +kernel
theorem dX8_distance_5 : decode cX8_distance 5 = .ok (.istore 4, 2) := by decide +kernel
theorem dX8_distance_7 : decode cX8_distance 7 = .ok (.iload 4, 2) := by decide +kernel
theorem dX8_distance_9 : decode cX8_distance 9 = .ok (.aload_n 0, 1) := by decide +kernel
theorem dX8_distance_10 : decode cX8_distance 10 = .ok (.getfield 18, 3) := by decide +kernel
theorem dX8_distance_13 : decode cX8_distance 13 = .ok (.if_icmp .ge 26, 3) := by decide +kernel
theorem dX8_distance_16 : decode cX8_distance 16 = .ok (.iload_n 3, 1) := by decide +kernel
theorem dX8_distance_17 : decode cX8_distance 17 = .ok (.iload_n 2, 1) := by decide +kernel
theorem dX8_distance_18 : decode cX8_distance 18 = .ok (.ishr, 1) := by decide +kernel
theorem dX8_distance_19 : decode cX8_distance 19 = .ok (.iconst 1, 1) := by decide +kernel
theorem dX8_distance_20 : decode cX8_distance 20 = .ok (.iand, 1) := by decide +kernel
theorem dX8_distance_21 : decode cX8_distance 21 = .ok (.ifCond .eq 6, 3) := by decide +kernel
theorem dX8_distance_24 : decode cX8_distance 24 = .ok (.iload 4, 2) := by decide +kernel
theorem dX8_distance_26 : decode cX8_distance 26 = .ok (.ireturn, 1) := by decide +kernel
theorem dX8_distance_27 : decode cX8_distance 27 = .ok (.aload_n 0, 1) := by decide +kernel
theorem dX8_distance_28 : decode cX8_distance 28 = .ok (.iload_n 3, 1) := by decide +kernel
theorem dX8_distance_29 : decode cX8_distance 29 = .ok (.invokevirtual 46, 3) := by decide +kernel
theorem dX8_distance_32 : decode cX8_distance 32 = .ok (.istore_n 3, 1) := by decide +kernel
theorem dX8_distance_33 : decode cX8_distance 33 = .ok (.iinc 4 1, 3) := by decide +kernel
theorem dX8_distance_36 : decode cX8_distance 36 = .ok (.goto (-29), 3) := by decide +kernel
theorem dX8_distance_39 : decode cX8_distance 39 = .ok (.ldc 36, 2) := by decide +kernel
theorem dX8_distance_41 : decode cX8_distance 41 = .ok (.ireturn, 1) := by decide +kernel
theorem dX8_circle_0 : decode cX8_circle 0 = .ok (.iconst 0, 1) := by decide +kernel
theorem dX8_circle_1 : decode cX8_circle 1 = .ok (.istore_n 2, 1) := by decide +kernel
theorem dX8_circle_2 : decode cX8_circle 2 = .ok (.iconst 0, 1) := by decide +kernel
theorem dX8_circle_3 : decode cX8_circle 3 = .ok (.istore_n 3, 1) := by decide +kernel
theorem dX8_circle_4 : decode cX8_circle 4 = .ok (.iload_n 3, 1) := by decide +kernel
theorem dX8_circle_5 : decode cX8_circle 5 = .ok (.aload_n 0, 1) := by decide +kernel
theorem dX8_circle_6 : decode cX8_circle 6 = .ok (.getfield 18, 3) := by decide +kernel
theorem dX8_circle_9 : decode cX8_circle 9 = .ok (.if_icmp .ge 37, 3) := by decide +kernel
theorem dX8_circle_12 : decode cX8_circle 12 = .ok (.aload_n 0, 1) := by decide +kernel
theorem dX8_circle_13 : decode cX8_circle 13 = .ok (.iload_n 1, 1) := by decide +kernel
theorem dX8_circle_14 : decode cX8_circle 14 = .ok (.iload_n 3, 1) := by decide +kernel
theorem dX8_circle_15 : decode cX8_circle 15 = .ok (.invokevirtual 49, 3) := by decide +kernel
theorem dX8_circle_18 : decode cX8_circle 18 = .ok (.ldc 36, 2) := by decide +kernel
theorem dX8_circle_20 : decode cX8_circle 20 = .ok (.if_icmp .eq 20, 3) := by decide +kernel
theorem dX8_circle_23 : decode cX8_circle 23 = .ok (.aload_n 0, 1) := by decide +kernel
theorem dX8_circle_24 : decode cX8_circle 24 = .ok (.iload_n 3, 1) := by decide +kernel
theorem dX8_circle_25 : decode cX8_circle 25 = .ok (.iload_n 1, 1) := by decide +kernel
theorem dX8_circle_26 : decode cX8_circle 26 = .ok (.invokevirtual 49, 3) := by decide +kernel
theorem dX8_circle_29 : decode cX8_circle 29 = .ok (.ldc 36, 2) := by decide +kernel
theorem dX8_circle_31 : decode cX8_circle 31 = .ok (.if_icmp .eq 9, 3) := by decide +kernel
theorem dX8_circle_34 : decode cX8_circle 34 = .ok (.iload_n 2, 1) := by decide +kernel
theorem dX8_circle_35 : decode cX8_circle 35 = .ok (.iconst 1, 1) := by decide +kernel
theorem dX8_circle_36 : decode cX8_circle 36 = .ok (.iload_n 3, 1) := by decide +kernel
theorem dX8_circle_37 : decode cX8_circle 37 = .ok (.ishl, 1) := by decide +kernel
theorem dX8_circle_38 : decode cX8_circle 38 = .ok (.ior, 1) := by decide +kernel
theorem dX8_circle_39 : decode cX8_circle 39 = .ok (.istore_n 2, 1) := by decide +kernel
theorem dX8_circle_40 : decode cX8_circle 40 = .ok (.iinc 3 1, 3) := by decide +kernel
theorem dX8_circle_43 : decode cX8_circle 43 = .ok (.goto (-39), 3) := by decide +kernel
theorem dX8_circle_46 : decode cX8_circle 46 = .ok (.iload_n 2, 1) := by decide +kernel
theorem dX8_circle_47 : decode cX8_circle 47 = .ok (.ireturn, 1) := by decide +kernel
theorem dX8_withNeighbours_0 : decode cX8_withNeighbours 0 = .ok (.iload_n 1, 1) := by decide +kernel
theorem dX8_withNeighbours_1 : decode cX8_withNeighbours 1 = .ok (.istore_n 2, 1) := by decide +kernel
theorem dX8_withNeighbours_2 : decode cX8_withNeighbours 2 = .ok (.iconst 0, 1) := by decide +kernel
theorem dX8_withNeighbours_3 : decode cX8_withNeighbours 3 = .ok (.istore_n 3, 1) := by decide +kernel
theorem dX8_withNeighbours_4 : decode cX8_withNeighbours 4 = .ok (.iload_n 3, 1) := by decide +kernel
theorem dX8_withNeighbours_5 : decode cX8_withNeighbours 5 = .ok (.aload_n 0, 1) := by decide +kernel
theorem dX8_withNeighbours_6 : decode cX8_withNeighbours 6 = .ok (.getfield 18, 3) := by decide +kernel
theorem dX8_withNeighbours_9 : decode cX8_withNeighbours 9 = .ok (.if_icmp .ge 48, 3) := by decide +kernel
theorem dX8_withNeighbours_12 : decode cX8_withNeighbours 12 = .ok (.iconst 0, 1) := by decide +kernel
theorem dX8_withNeighbours_13 : decode cX8_withNeighbours 13 = .ok (.istore 4, 2) := by decide +kernel
theorem dX8_withNeighbours_15 : decode cX8_withNeighbours 15 = .ok (.iload 4, 2) := by decide +kernel
theorem dX8_withNeighbours_17 : decode cX8_withNeighbours 17 = .ok (.aload_n 0, 1) := by decide +kernel
theorem dX8_withNeighbours_18 : decode cX8_withNeighbours 18 = .ok (.iload_n 3, 1) := by decide +kernel
theorem dX8_withNeighbours_19 : decode cX8_withNeighbours 19 = .ok (.invokevirtual 32, 3) := by decide +kernel
theorem dX8_withNeighbours_22 : decode cX8_withNeighbours 22 = .ok (.if_icmp .ge 29, 3) := by decide +kernel
theorem dX8_withNeighbours_25 : decode cX8_withNeighbours 25 = .ok (.iload_n 1, 1) := by decide +kernel
theorem dX8_withNeighbours_26 : decode cX8_withNeighbours 26 = .ok (.iload_n 3, 1) := by decide +kernel
theorem dX8_withNeighbours_27 : decode cX8_withNeighbours 27 = .ok (.ishr, 1) := by decide +kernel
theorem dX8_withNeighbours_28 : decode cX8_withNeighbours 28 = .ok (.iconst 1, 1) := by decide +kernel
theorem dX8_withNeighbours_29 : decode cX8_withNeighbours 29 = .ok (.iand, 1) := by decide +kernel
theorem dX8_withNeighbours_30 : decode cX8_withNeighbours 30 = .ok (.ifCond .eq 15, 3) := by decide +kernel
theorem dX8_withNeighbours_33 : decode cX8_withNeighbours 33 = .ok (.iload_n 2, 1) := by decide +kernel
theorem dX8_withNeighbours_34 : decode cX8_withNeighbours 34 = .ok (.iconst 1, 1) := by decide +kernel
theorem dX8_withNeighbours_35 : decode cX8_withNeighbours 35 = .ok (.aload_n 0, 1) := by decide +kernel
theorem dX8_withNeighbours_36 : decode cX8_withNeighbours 36 = .ok (.iload_n 3, 1) := by decide +kernel
theorem dX8_withNeighbours_37 : decode cX8_withNeighbours 37 = .ok (.iload 4, 2) := by decide +kernel
theorem dX8_withNeighbours_39 : decode cX8_withNeighbours 39 = .ok (.invokevirtual 43, 3) := by decide +kernel
theorem dX8_withNeighbours_42 : decode cX8_withNeighbours 42 = .ok (.ishl, 1) := by decide +kernel
theorem dX8_withNeighbours_43 : decode cX8_withNeighbours 43 = .ok (.ior, 1) := by decide +kernel
theorem dX8_withNeighbours_44 : decode cX8_withNeighbours 44 = .ok (.istore_n 2, 1) := by decide +kernel
theorem dX8_withNeighbours_45 : decode cX8_withNeighbours 45 = .ok (.iinc 4 1, 3) := by decide +kernel
theorem dX8_withNeighbours_48 : decode cX8_withNeighbours 48 = .ok (.goto (-33), 3) := by decide +kernel
theorem dX8_withNeighbours_51 : decode cX8_withNeighbours 51 = .ok (.iinc 3 1, 3) := by decide +kernel
theorem dX8_withNeighbours_54 : decode cX8_withNeighbours 54 = .ok (.goto (-50), 3) := by decide +kernel
theorem dX8_withNeighbours_57 : decode cX8_withNeighbours 57 = .ok (.iload_n 2, 1) := by decide +kernel
theorem dX8_withNeighbours_58 : decode cX8_withNeighbours 58 = .ok (.ireturn, 1) := by decide +kernel
end
section
theorem dX9_init_0 : decode cX9_init 0 = .ok (.aload_n 0, 1) := by decide +kernel
theorem dX9_init_1 : decode cX9_init 1 = .ok (.invokespecial 1, 3) := by decide +kernel
theorem dX9_init_4 : decode cX9_init 4 = .ok (.aload_n 0, 1) := by decide +kernel
theorem dX9_init_5 : decode cX9_init 5 = .ok (.bipush 8, 2) := by decide +kernel
theorem dX9_init_7 : decode cX9_init 7 = .ok (.anewarray 9, 3) := by decide +kernel
theorem dX9_init_10 : decode cX9_init 10 = .ok (.putfield 11, 3) := by decide +kernel
theorem dX9_init_13 : decode cX9_init 13 = .ok (.aload_n 0, 1) := by decide +kernel
theorem dX9_init_14 : decode cX9_init 14 = .ok (.new 15, 3) := by decide +kernel
theorem dX9_init_17 : decode cX9_init 17 = .ok (.dup, 1) := by decide +kernel
theorem dX9_init_18 : decode cX9_init 18 = .ok (.invokespecial 17, 3) := by decide +kernel
theorem dX9_init_21 : decode cX9_init 21 = .ok (.putfield 18, 3) := by decide +kernel
theorem dX9_init_24 : decode cX9_init 24 = .ok (.aload_n 0, 1) := by decide +kernel
theorem dX9_init_25 : decode cX9_init 25 = .ok (.new 22, 3) := by decide +kernel
theorem dX9_init_28 : decode cX9_init 28 = .ok (.dup, 1) := by decide +kernel
theorem dX9_init_29 : decode cX9_init 29 = .ok (.invokespecial 24, 3) := by decide +kernel
theorem dX9_init_32 : decode cX9_init 32 = .ok (.putfield 25, 3) := by decide +kernel
theorem dX9_init_35 : decode cX9_init 35 = .ok (.aload_n 0, 1) := by decide +kernel
theorem dX9_init_36 : decode cX9_init 36 = .ok (.new 29, 3) := by decide +kernel
theorem dX9_init_39 : decode cX9_init 39 = .ok (.dup, 1) := by decide +kernel
theorem dX9_init_40 : decode cX9_init 40 = .ok (.invokespecial 31, 3) := by decide +kernel
theorem dX9_init_43 : decode cX9_init 43 = .ok (.putfield 32, 3) := by decide +kernel
theorem dX9_init_46 : decode cX9_init 46 = .ok (.aload_n 0, 1) := by decide +kernel
theorem dX9_init_47 : decode cX9_init 47 = .ok (.new 36, 3) := by decide +kernel
theorem dX9_init_50 : decode cX9_init 50 = .ok (.dup, 1) := by decide +kernel
theorem dX9_init_51 : decode cX9_init 51 = .ok (.invokespecial 38, 3) := by decide +kernel
theorem dX9_init_54 : decode cX9_init 54 = .ok (.putfield 39, 3) := by decide +kernel
theorem dX9_init_57 : decode cX9_init 57 = .ok (.aload_n 0, 1) := by decide +kernel
theorem dX9_init_58 : decode cX9_init 58 = .ok (.iconst 2, 1) := by decide +kernel
theorem dX9_init_59 : decode cX9_init 59 = .ok (.anewarray 43, 3) := by decide +kernel
theorem dX9_init_62 : decode cX9_init 62 = .ok (.putfield 45, 3) := by decide +kernel
theorem dX9_init_65 : decode cX9_init 65 = .ok (.aload_n 0, 1) := by decide +kernel
theorem dX9_init_66 : decode cX9_init 66 = .ok (.new 49, 3) := by decide +kernel
theorem dX9_init_69 : decode cX9_init 69 = .ok (.dup, 1) := by decide +kernel
theorem dX9_init_70 : decode cX9_init 70 = .ok (.invokespecial 51, 3) := by decide +kernel
theorem dX9_init_73 : decode cX9_init 73 = .ok (.putfield 52, 3) := by decide +kernel
theorem dX9_init_76 : decode cX9_init 76 = .ok (.aload_n 0, 1) := by decide +kernel
theorem dX9_init_77 : decode cX9_init 77 = .ok (.new 56, 3) := by decide +kernel
theorem dX9_init_80 : decode cX9_init 80 = .ok (.dup, 1) := by decide +kernel
theorem dX9_init_81 : decode cX9_init 81 = .ok (.invokespecial 58, 3) := by decide +kernel
theorem dX9_init_84 : decode cX9_init 84 = .ok (.putfield 59, 3) := by decide +kernel
theorem dX9_init_87 : decode cX9_init 87 = .ok (.aload_n 0, 1) := by decide +kernel
theorem dX9_init_88 : decode cX9_init 88 = .ok (.iconst 0, 1) := by decide +kernel
theorem dX9_init_89 : decode cX9_init 89 = .ok (.putfield 63, 3) := by decide +kernel
theorem dX9_init_92 : decode cX9_init 92 = .ok (.iconst 0, 1) := by decide +kernel
theorem dX9_init_93 : decode cX9_init 93 = .ok (.istore_n 1, 1) := by decide +kernel
theorem dX9_init_94 : decode cX9_init 94 = .ok (.iload_n 1, 1) := by decide +kernel
theorem dX9_init_95 : decode cX9_init 95 = .ok (.aload_n 0, 1) := by decide +kernel
theorem dX9_init_96 : decode cX9_init 96 = .ok (.getfield 11, 3) := by decide +kernel
theorem dX9_init_99 : decode cX9_init 99 = .ok (.arraylength, 1) := by decide +kernel
theorem dX9_init_100 : decode cX9_init 100 = .ok (.if_icmp .ge 22, 3) := by decide +kernel
theorem dX9_init_103 : decode cX9_init 103 = .ok (.aload_n 0, 1) := by decide +kernel
theorem dX9_init_104 : decode cX9_init 104 = .ok (.getfield 11, 3) := by decide +kernel
theorem dX9_init_107 : decode cX9_init 107 = .ok (.iload_n 1, 1) := by decide +kernel
theorem dX9_init_108 : decode cX9_init 108 = .ok (.new 9, 3) := by decide +kernel
theorem dX9_init_111 : decode cX9_init 111 = .ok (.dup, 1) := by decide +kernel
theorem dX9_init_112 : decode cX9_init 112 = .ok (.invokespecial 67, 3) := by decide +kernel
theorem dX9_init_115 : decode cX9_init 115 = .ok (.aastore, 1) := by decide +kernel
theorem dX9_init_116 : decode cX9_init 116 = .ok (.iinc 1 1, 3) := by decide +kernel
theorem dX9_init_119 : decode cX9_init 119 = .ok (.goto (-25), 3) := by decide +kernel
theorem dX9_init_122 : decode cX9_init 122 = .ok (.iconst 0, 1) := by decide +kernel
theorem dX9_init_123 : decode cX9_init 123 = .ok (.istore_n 1, 1) := by decide +kernel
theorem dX9_init_124 : decode cX9_init 124 = .ok (.iload_n 1, 1) := by decide +kernel
theorem dX9_init_125 : decode cX9_init 125 = .ok (.aload_n 0, 1) := by decide +kernel
theorem dX9_init_126 : decode cX9_init 126 = .ok (.getfield 45, 3) := by decide +kernel
theorem dX9_init_129 : decode cX9_init 129 = .ok (.arraylength, 1) := by decide +kernel
theorem dX9_init_130 : decode cX9_init 130 = .ok (.if_icmp .ge 22, 3) := by decide +kernel
theorem dX9_init_133 : decode cX9_init 133 = .ok (.aload_n 0, 1) := by decide +kernel
theorem dX9_init_134 : decode cX9_init 134 = .ok (.getfield 45, 3) := by decide +kernel
theorem dX9_init_137 : decode cX9_init 137 = .ok (.iload_n 1, 1) := by decide +kernel
theorem dX9_init_138 : decode cX9_init 138 = .ok (.new 43, 3) := by decide +kernel
theorem dX9_init_141 : decode cX9_init 141 = .ok (.dup, 1) := by decide +kernel
theorem dX9_init_142 : decode cX9_init 142 = .ok (.invokespecial 68, 3) := by decide +kernel
theorem dX9_init_145 : decode cX9_init 145 = .ok (.aastore, 1) := by decide +kernel
theorem dX9_init_146 : decode cX9_init 146 = .ok (.iinc 1 1, 3) := by decide +kernel
theorem dX9_init_149 : decode cX9_init 149 = .ok (.goto (-25), 3) := by decide +kernel
theorem dX9_init_152 : decode cX9_init 152 = .ok (.return_, 1) := by decide +kernel
theorem dX9_row_0 : decode cX9_row 0 = .ok (.iload_n 1, 1) := by decide +kernel
theorem dX9_row_1 : decode cX9_row 1 = .ok (.invokestatic 69, 3) := by decide +kernel
theorem dX9_row_4 : decode cX9_row 4 = .ok (.ifCond .eq 18, 3) := by decide +kernel
theorem dX9_row_7 : decode cX9_row 7 = .ok (.iload_n 2, 1) := by decide +kernel
theorem dX9_row_8 : decode cX9_row 8 = .ok (.ifCond .lt 14, 3) := by decide +kernel
theorem dX9_row_11 : decode cX9_row 11 = .ok (.iload_n 2, 1) := by decide +kernel
theorem dX9_row_12 : decode cX9_row 12 = .ok (.iconst 2, 1) := by decide +kernel
theorem dX9_row_13 : decode cX9_row 13 = .ok (.if_icmp .gt 9, 3) := by decide +kernel
theorem dX9_row_16 : decode cX9_row 16 = .ok (.iload_n 3, 1) := by decide +kernel
theorem dX9_row_17 : decode cX9_row 17 = .ok (.bipush 40, 2) := by decide +kernel
theorem dX9_row_19 : decode cX9_row 19 = .ok (.if_icmp .le 6, 3) := by decide +kernel
theorem dX9_row_22 : decode cX9_row 22 = .ok (.ldc 73, 2) := by decide +kernel
theorem dX9_row_24 : decode cX9_row 24 = .ok (.ireturn, 1) := by decide +kernel
theorem dX9_row_25 : decode cX9_row 25 = .ok (.iload_n 3, 1) := by decide +kernel
theorem dX9_row_26 : decode cX9_row 26 = .ok (.ifCond .ge 9, 3) := by decide +kernel
theorem dX9_row_29 : decode cX9_row 29 = .ok (.aload_n 0, 1) := by decide +kernel
theorem dX9_row_30 : decode cX9_row 30 = .ok (.iconst 4, 1) := by decide +kernel
theorem dX9_row_31 : decode cX9_row 31 = .ok (.invokevirtual 74, 3) := by decide +kernel
theorem dX9_row_34 : decode cX9_row 34 = .ok (.ireturn, 1) := by decide +kernel
theorem dX9_row_35 : decode cX9_row 35 = .ok (.aload_n 0, 1) := by decide +kernel
theorem dX9_row_36 : decode cX9_row 36 = .ok (.iconst 0, 1) := by decide +kernel
theorem dX9_row_37 : decode cX9_row 37 = .ok (.putfield 63, 3) := by decide +kernel
theorem dX9_row_40 : decode cX9_row 40 = .ok (.aload_n 0, 1) := by decide +kernel
theorem dX9_row_41 : decode cX9_row 41 = .ok (.getfield 11, 3) := by decide +kernel
theorem dX9_row_44 : decode cX9_row 44 = .ok (.iload_n 1, 1) := by decide +kernel
theorem dX9_row_45 : decode cX9_row 45 = .ok (.aaload, 1) := by decide +kernel
theorem dX9_row_46 : decode cX9_row 46 = .ok (.iload_n 2, 1) := by decide +kernel
theorem dX9_row_47 : decode cX9_row 47 = .ok (.iload_n 3, 1) := by decide +kernel
theorem dX9_row_48 : decode cX9_row 48 = .ok (.invokevirtual 78, 3) := by decide +kernel
theorem dX9_row_51 : decode cX9_row 51 = .ok (.iload_n 3, 1) := by decide +kernel
theorem dX9_row_52 : decode cX9_row 52 = .ok (.ireturn, 1) := by decide +kernel
theorem dX9_set_0 : decode cX9_set 0 = .ok (.iload_n 1, 1) := by decide +kernel
theorem dX9_set_1 : decode cX9_set 1 = .ok (.invokestatic 69, 3) := by decide +kernel
theorem dX9_set_4 : decode cX9_set 4 = .ok (.ifCond .ne 6, 3) := by decide +kernel
theorem dX9_set_7 : decode cX9_set 7 = .ok (.ldc 73, 2) := by decide +kernel
theorem dX9_set_9 : decode cX9_set 9 = .ok (.ireturn, 1) := by decide +kernel
theorem dX9_set_10 : decode cX9_set 10 = .ok (.aload_n 0, 1) := by decide +kernel
theorem dX9_set_11 : decode cX9_set 11 = .ok (.getfield 11, 3) := by decide +kernel
theorem dX9_set_14 : decode cX9_set 14 = .ok (.iload_n 1, 1) := by decide +kernel
theorem dX9_set_15 : decode cX9_set 15 = .ok (.aaload, 1) := by decide +kernel
theorem dX9_set_16 : decode cX9_set 16 = .ok (.astore 4, 2) := by decide +kernel
theorem dX9_set_18 : decode cX9_set 18 = .ok (.aload 4, 2) := by decide +kernel
theorem dX9_set_20 : decode cX9_set 20 = .ok (.getfield 82, 3) := by decide +kernel
theorem dX9_set_23 : decode cX9_set 23 = .ok (.ifCond .ne 9, 3) := by decide +kernel
theorem dX9_set_26 : decode cX9_set 26 = .ok (.aload_n 0, 1) := by decide +kernel
theorem dX9_set_27 : decode cX9_set 27 = .ok (.iconst 1, 1) := by decide +kernel
theorem dX9_set_28 : decode cX9_set 28 = .ok (.invokevirtual 74, 3) := by decide +kernel
theorem dX9_set_31 : decode cX9_set 31 = .ok (.ireturn, 1) := by decide +kernel
theorem dX9_set_32 : decode cX9_set 32 = .ok (.aload 4, 2) := by decide +kernel
theorem dX9_set_34 : decode cX9_set 34 = .ok (.iload_n 2, 1) := by decide +kernel
theorem dX9_set_35 : decode cX9_set 35 = .ok (.iconst 1, 1) := by decide +kernel
theorem dX9_set_36 : decode cX9_set 36 = .ok (.invokevirtual 86, 3) := by decide +kernel
theorem dX9_set_39 : decode cX9_set 39 = .ok (.ifCond .ne 9, 3) := by decide +kernel
theorem dX9_set_42 : decode cX9_set 42 = .ok (.aload_n 0, 1) := by decide +kernel
theorem dX9_set_43 : decode cX9_set 43 = .ok (.iconst 2, 1) := by decide +kernel
theorem dX9_set_44 : decode cX9_set 44 = .ok (.invokevirtual 74, 3) := by decide +kernel
theorem dX9_set_47 : decode cX9_set 47 = .ok (.ireturn, 1) := by decide +kernel
theorem dX9_set_48 : decode cX9_set 48 = .ok (.aload_n 0, 1) := by decide +kernel
theorem dX9_set_49 : decode cX9_set 49 = .ok (.iconst 0, 1) := by decide +kernel
theorem dX9_set_50 : decode cX9_set 50 = .ok (.putfield 63, 3) := by decide +kernel
theorem dX9_set_53 : decode cX9_set 53 = .ok (.aload 4, 2) := by decide +kernel
theorem dX9_set_55 : decode cX9_set 55 = .ok (.iload_n 2, 1) := by decide +kernel
theorem dX9_set_56 : decode cX9_set 56 = .ok (.iload_n 3, 1) := by decide +kernel
theorem dX9_set_57 : decode cX9_set 57 = .ok (.invokevirtual 90, 3) := by decide +kernel
theorem dX9_set_60 : decode cX9_set 60 = .ok (.ireturn, 1) := by decide +kernel
theorem dX9_copy_0 : decode cX9_copy 0 = .ok (.iload_n 1, 1) := by decide +kernel
theorem dX9_copy_1 : decode cX9_copy 1 = .ok (.invokestatic 69, 3) := by decide +kernel
theorem dX9_copy_4 : decode cX9_copy 4 = .ok (.ifCond .eq 10, 3) := by decide +kernel
theorem dX9_copy_7 : decode cX9_copy 7 = .ok (.iload_n 3, 1) := by decide +kernel
theorem dX9_copy_8 : decode cX9_copy 8 = .ok (.invokestatic 69, 3) := by decide +kernel
theorem dX9_copy_11 : decode cX9_copy 11 = .ok (.ifCond .ne 6, 3) := by decide +kernel
theorem dX9_copy_14 : decode cX9_copy 14 = .ok (.ldc 73, 2) := by decide +kernel
theorem dX9_copy_16 : decode cX9_copy 16 = .ok (.ireturn, 1) := by decide +kernel
theorem dX9_copy_17 : decode cX9_copy 17 = .ok (.aload_n 0, 1) := by decide +kernel
theorem dX9_copy_18 : decode cX9_copy 18 = .ok (.getfield 11, 3) := by decide +kernel
theorem dX9_copy_21 : decode cX9_copy 21 = .ok (.iload_n 1, 1) := by decide +kernel
theorem dX9_copy_22 : decode cX9_copy 22 = .ok (.aaload, 1) := by decide +kernel
theorem dX9_copy_23 : decode cX9_copy 23 = .ok (.astore 6, 2) := by decide +kernel
theorem dX9_copy_25 : decode cX9_copy 25 = .ok (.aload_n 0, 1) := by decide +kernel
theorem dX9_copy_26 : decode cX9_copy 26 = .ok (.getfield 11, 3) := by decide +kernel
theorem dX9_copy_29 : decode cX9_copy 29 = .ok (.iload_n 3, 1) := by decide +kernel
theorem dX9_copy_30 : decode cX9_copy 30 = .ok (.aaload, 1) := by decide +kernel
theorem dX9_copy_31 : decode cX9_copy 31 = .ok (.astore 7, 2) := by decide +kernel
theorem dX9_copy_33 : decode cX9_copy 33 = .ok (.aload 6, 2) := by decide +kernel
theorem dX9_copy_35 : decode cX9_copy 35 = .ok (.getfield 82, 3) := by decide +kernel
theorem dX9_copy_38 : decode cX9_copy 38 = .ok (.ifCond .eq 11, 3) := by decide +kernel
theorem dX9_copy_41 : decode cX9_copy 41 = .ok (.aload 7, 2) := by decide +kernel
theorem dX9_copy_43 : decode cX9_copy 43 = .ok (.getfield 82, 3) := by decide +kernel
theorem dX9_copy_46 : decode cX9_copy 46 = .ok (.ifCond .ne 9, 3) := by decide +kernel
theorem dX9_copy_49 : decode cX9_copy 49 = .ok (.aload_n 0, 1) := by decide +kernel
theorem dX9_copy_50 : decode cX9_copy 50 = .ok (.iconst 1, 1) := by decide +kernel
theorem dX9_copy_51 : decode cX9_copy 51 = .ok (.invokevirtual 74, 3) := by decide +kernel
theorem dX9_copy_54 : decode cX9_copy 54 = .ok (.ireturn, 1) := by decide +kernel
theorem dX9_copy_55 : decode cX9_copy 55 = .ok (.aload 6, 2) := by decide +kernel
theorem dX9_copy_57 : decode cX9_copy 57 = .ok (.getfield 94, 3) := by decide +kernel
theorem dX9_copy_60 : decode cX9_copy 60 = .ok (.aload 7, 2) := by decide +kernel
theorem dX9_copy_62 : decode cX9_copy 62 = .ok (.getfield 94, 3) := by decide +kernel
theorem dX9_copy_65 : decode cX9_copy 65 = .ok (.if_icmp .eq 9, 3) := by decide +kernel
theorem dX9_copy_68 : decode cX9_copy 68 = .ok (.aload_n 0, 1) := by decide +kernel
theorem dX9_copy_69 : decode cX9_copy 69 = .ok (.iconst 5, 1) := by decide +kernel
theorem dX9_copy_70 : decode cX9_copy 70 = .ok (.invokevirtual 74, 3) := by decide +kernel
theorem dX9_copy_73 : decode cX9_copy 73 = .ok (.ireturn, 1) := by decide +kernel
theorem dX9_copy_74 : decode cX9_copy 74 = .ok (.aload 6, 2) := by decide +kernel
theorem dX9_copy_76 : decode cX9_copy 76 = .ok (.iload_n 2, 1) := by decide +kernel
theorem dX9_copy_77 : decode cX9_copy 77 = .ok (.iload 5, 2) := by decide +kernel
theorem dX9_copy_79 : decode cX9_copy 79 = .ok (.invokevirtual 86, 3) := by decide +kernel
theorem dX9_copy_82 : decode cX9_copy 82 = .ok (.ifCond .eq 15, 3) := by decide +kernel
theorem dX9_copy_85 : decode cX9_copy 85 = .ok (.aload 7, 2) := by decide +kernel
theorem dX9_copy_87 : decode cX9_copy 87 = .ok (.iload 4, 2) := by decide +kernel
theorem dX9_copy_89 : decode cX9_copy 89 = .ok (.iload 5, 2) := by decide +kernel
theorem dX9_copy_91 : decode cX9_copy 91 = .ok (.invokevirtual 86, 3) := by decide +kernel
theorem dX9_copy_94 : decode cX9_copy 94 = .ok (.ifCond .ne 9, 3) := by decide +kernel
theorem dX9_copy_97 : decode cX9_copy 97 = .ok (.aload_n 0, 1) := by decide +kernel
theorem dX9_copy_98 : decode cX9_copy 98 = .ok (.iconst 2, 1) := by decide +kernel
theorem dX9_copy_99 : decode cX9_copy 99 = .ok (.invokevirtual 74, 3) := by decide +kernel
theorem dX9_copy_102 : decode cX9_copy 102 = .ok (.ireturn, 1) := by decide +kernel
theorem dX9_copy_103 : decode cX9_copy 103 = .ok (.aload_n 0, 1) := by decide +kernel
theorem dX9_copy_104 : decode cX9_copy 104 = .ok (.iconst 0, 1) := by decide +kernel
theorem dX9_copy_105 : decode cX9_copy 105 = .ok (.putfield 63, 3) := by decide +kernel
theorem dX9_copy_108 : decode cX9_copy 108 = .ok (.aload 6, 2) := by decide +kernel
theorem dX9_copy_110 : decode cX9_copy 110 = .ok (.getfield 97, 3) := by decide +kernel
theorem dX9_copy_113 : decode cX9_copy 113 = .ok (.iload_n 2, 1) := by decide +kernel
theorem dX9_copy_114 : decode cX9_copy 114 = .ok (.aload 7, 2) := by decide +kernel
theorem dX9_copy_116 : decode cX9_copy 116 = .ok (.getfield 97, 3) := by decide +kernel
theorem dX9_copy_119 : decode cX9_copy 119 = .ok (.iload 4, 2) := by decide +kernel
theorem dX9_copy_121 : decode cX9_copy 121 = .ok (.iload 5, 2) := by decide +kernel
theorem dX9_copy_123 : decode cX9_copy 123 = .ok (.invokestatic 101, 3) := by decide +kernel
theorem dX9_copy_126 : decode cX9_copy 126 = .ok (.iload 5, 2) := by decide +kernel
theorem dX9_copy_128 : decode cX9_copy 128 = .ok (.ireturn, 1) := by decide +kernel
theorem dX9_drop_0 : decode cX9_drop 0 = .ok (.iload_n 1, 1) := by decide +kernel
theorem dX9_drop_1 : decode cX9_drop 1 = .ok (.invokestatic 69, 3) := by decide +kernel
theorem dX9_drop_4 : decode cX9_drop 4 = .ok (.ifCond .ne 6, 3) := by decide +kernel
theorem dX9_drop_7 : decode cX9_drop 7 = .ok (.ldc 73, 2) := by decide +kernel
theorem dX9_drop_9 : decode cX9_drop 9 = .ok (.ireturn, 1) := by decide +kernel
theorem dX9_drop_10 : decode cX9_drop 10 = .ok (.aload_n 0, 1) := by decide +kernel
theorem dX9_drop_11 : decode cX9_drop 11 = .ok (.getfield 11, 3) := by decide +kernel
theorem dX9_drop_14 : decode cX9_drop 14 = .ok (.iload_n 1, 1) := by decide +kernel
theorem dX9_drop_15 : decode cX9_drop 15 = .ok (.aaload, 1) := by decide +kernel
theorem dX9_drop_16 : decode cX9_drop 16 = .ok (.getfield 82, 3) := by decide +kernel
theorem dX9_drop_19 : decode cX9_drop 19 = .ok (.ifCond .ne 9, 3) := by decide +kernel
theorem dX9_drop_22 : decode cX9_drop 22 = .ok (.aload_n 0, 1) := by decide +kernel
theorem dX9_drop_23 : decode cX9_drop 23 = .ok (.iconst 1, 1) := by decide +kernel
theorem dX9_drop_24 : decode cX9_drop 24 = .ok (.invokevirtual 74, 3) := by decide +kernel
theorem dX9_drop_27 : decode cX9_drop 27 = .ok (.ireturn, 1) := by decide +kernel
theorem dX9_drop_28 : decode cX9_drop 28 = .ok (.aload_n 0, 1) := by decide +kernel
theorem dX9_drop_29 : decode cX9_drop 29 = .ok (.iconst 0, 1) := by decide +kernel
theorem dX9_drop_30 : decode cX9_drop 30 = .ok (.putfield 63, 3) := by decide +kernel
theorem dX9_drop_33 : decode cX9_drop 33 = .ok (.aload_n 0, 1) := by decide +kernel
theorem dX9_drop_34 : decode cX9_drop 34 = .ok (.getfield 11, 3) := by decide +kernel
theorem dX9_drop_37 : decode cX9_drop 37 = .ok (.iload_n 1, 1) := by decide +kernel
theorem dX9_drop_38 : decode cX9_drop 38 = .ok (.aaload, 1) := by decide +kernel
theorem dX9_drop_39 : decode cX9_drop 39 = .ok (.iconst 0, 1) := by decide +kernel
theorem dX9_drop_40 : decode cX9_drop 40 = .ok (.putfield 82, 3) := by decide +kernel
theorem dX9_drop_43 : decode cX9_drop 43 = .ok (.aload_n 0, 1) := by decide +kernel
theorem dX9_drop_44 : decode cX9_drop 44 = .ok (.getfield 11, 3) := by decide +kernel
theorem dX9_drop_47 : decode cX9_drop 47 = .ok (.iload_n 1, 1) := by decide +kernel
theorem dX9_drop_48 : decode cX9_drop 48 = .ok (.aaload, 1) := by decide +kernel
theorem dX9_drop_49 : decode cX9_drop 49 = .ok (.getfield 107, 3) := by decide +kernel
theorem dX9_drop_52 : decode cX9_drop 52 = .ok (.ireturn, 1) := by decide +kernel
theorem dX9_feed_0 : decode cX9_feed 0 = .ok (.iload_n 1, 1) := by decide +kernel
theorem dX9_feed_1 : decode cX9_feed 1 = .ok (.ifCond .lt 10, 3) := by decide +kernel
theorem dX9_feed_4 : decode cX9_feed 4 = .ok (.iload_n 1, 1) := by decide +kernel
theorem dX9_feed_5 : decode cX9_feed 5 = .ok (.sipush 255, 3) := by decide +kernel
theorem dX9_feed_8 : decode cX9_feed 8 = .ok (.if_icmp .le 6, 3) := by decide +kernel
theorem dX9_feed_11 : decode cX9_feed 11 = .ok (.ldc 73, 2) := by decide +kernel
theorem dX9_feed_13 : decode cX9_feed 13 = .ok (.ireturn, 1) := by decide +kernel
theorem dX9_feed_14 : decode cX9_feed 14 = .ok (.aload_n 0, 1) := by decide +kernel
theorem dX9_feed_15 : decode cX9_feed 15 = .ok (.getfield 18, 3) := by decide +kernel
theorem dX9_feed_18 : decode cX9_feed 18 = .ok (.iload_n 1, 1) := by decide +kernel
theorem dX9_feed_19 : decode cX9_feed 19 = .ok (.invokevirtual 110, 3) := by decide +kernel
theorem dX9_feed_22 : decode cX9_feed 22 = .ok (.ifCond .eq 13, 3) := by decide +kernel
theorem dX9_feed_25 : decode cX9_feed 25 = .ok (.aload_n 0, 1) := by decide +kernel
theorem dX9_feed_26 : decode cX9_feed 26 = .ok (.getfield 18, 3) := by decide +kernel
theorem dX9_feed_29 : decode cX9_feed 29 = .ok (.getfield 112, 3) := by decide +kernel
theorem dX9_feed_32 : decode cX9_feed 32 = .ok (.goto 5, 3) := by decide +kernel
theorem dX9_feed_35 : decode cX9_feed 35 = .ok (.ldc 115, 2) := by decide +kernel
theorem dX9_feed_37 : decode cX9_feed 37 = .ok (.ireturn, 1) := by decide +kernel
theorem dX9_web_0 : decode cX9_web 0 = .ok (.aload_n 0, 1) := by decide +kernel
theorem dX9_web_1 : decode cX9_web 1 = .ok (.getfield 18, 3) := by decide +kernel
theorem dX9_web_4 : decode cX9_web 4 = .ok (.invokevirtual 116, 3) := by decide +kernel
theorem dX9_web_7 : decode cX9_web 7 = .ok (.istore_n 1, 1) := by decide +kernel
theorem dX9_web_8 : decode cX9_web 8 = .ok (.aload_n 0, 1) := by decide +kernel
theorem dX9_web_9 : decode cX9_web 9 = .ok (.getfield 18, 3) := by decide +kernel
theorem dX9_web_12 : decode cX9_web 12 = .ok (.iconst 0, 1) := by decide +kernel
theorem dX9_web_13 : decode cX9_web 13 = .ok (.putfield 112, 3) := by decide +kernel
theorem dX9_web_16 : decode cX9_web 16 = .ok (.iload_n 1, 1) := by decide +kernel
theorem dX9_web_17 : decode cX9_web 17 = .ok (.ifCond .ne 14, 3) := by decide +kernel
theorem dX9_web_20 : decode cX9_web 20 = .ok (.ldc 120, 2) := by decide +kernel
theorem dX9_web_22 : decode cX9_web 22 = .ok (.aload_n 0, 1) := by decide +kernel
theorem dX9_web_23 : decode cX9_web 23 = .ok (.getfield 18, 3) := by decide +kernel
theorem dX9_web_26 : decode cX9_web 26 = .ok (.getfield 121, 3) := by decide +kernel
theorem dX9_web_29 : decode cX9_web 29 = .ok (.isub, 1) := by decide +kernel
theorem dX9_web_30 : decode cX9_web 30 = .ok (.ireturn, 1) := by decide +kernel
theorem dX9_web_31 : decode cX9_web 31 = .ok (.aload_n 0, 1) := by decide +kernel
theorem dX9_web_32 : decode cX9_web 32 = .ok (.getfield 25, 3) := by decide +kernel
theorem dX9_web_35 : decode cX9_web 35 = .ok (.aload_n 0, 1) := by decide +kernel
theorem dX9_web_36 : decode cX9_web 36 = .ok (.getfield 18, 3) := by decide +kernel
theorem dX9_web_39 : decode cX9_web 39 = .ok (.getfield 124, 3) := by decide +kernel
theorem dX9_web_42 : decode cX9_web 42 = .ok (.invokevirtual 125, 3) := by decide +kernel
theorem dX9_web_45 : decode cX9_web 45 = .ok (.aload_n 0, 1) := by decide +kernel
theorem dX9_web_46 : decode cX9_web 46 = .ok (.getfield 32, 3) := by decide +kernel
theorem dX9_web_49 : decode cX9_web 49 = .ok (.aload_n 0, 1) := by decide +kernel
theorem dX9_web_50 : decode cX9_web 50 = .ok (.getfield 18, 3) := by decide +kernel
theorem dX9_web_53 : decode cX9_web 53 = .ok (.getfield 129, 3) := by decide +kernel
theorem dX9_web_56 : decode cX9_web 56 = .ok (.invokevirtual 130, 3) := by decide +kernel
theorem dX9_web_59 : decode cX9_web 59 = .ok (.aload_n 0, 1) := by decide +kernel
theorem dX9_web_60 : decode cX9_web 60 = .ok (.getfield 39, 3) := by decide +kernel
theorem dX9_web_63 : decode cX9_web 63 = .ok (.invokevirtual 133, 3) := by decide +kernel
theorem dX9_web_66 : decode cX9_web 66 = .ok (.aload_n 0, 1) := by decide +kernel
theorem dX9_web_67 : decode cX9_web 67 = .ok (.getfield 32, 3) := by decide +kernel
theorem dX9_web_70 : decode cX9_web 70 = .ok (.getfield 136, 3) := by decide +kernel
theorem dX9_web_73 : decode cX9_web 73 = .ok (.ireturn, 1) := by decide +kernel
theorem dX9_fault_0 : decode cX9_fault 0 = .ok (.aload_n 0, 1) := by decide +kernel
theorem dX9_fault_1 : decode cX9_fault 1 = .ok (.getfield 18, 3) := by decide +kernel
theorem dX9_fault_4 : decode cX9_fault 4 = .ok (.getfield 139, 3) := by decide +kernel
theorem dX9_fault_7 : decode cX9_fault 7 = .ok (.ireturn, 1) := by decide +kernel
theorem dX9_follow_0 : decode cX9_follow 0 = .ok (.aload_n 0, 1) := by decide +kernel
theorem dX9_follow_1 : decode cX9_follow 1 = .ok (.invokevirtual 142, 3) := by decide +kernel
theorem dX9_follow_4 : decode cX9_follow 4 = .ok (.ifCond .ne 6, 3) := by decide +kernel
theorem dX9_follow_7 : decode cX9_follow 7 = .ok (.ldc 145, 2) := by decide +kernel
theorem dX9_follow_9 : decode cX9_follow 9 = .ok (.ireturn, 1) := by decide +kernel
theorem dX9_follow_10 : decode cX9_follow 10 = .ok (.iload_n 1, 1) := by decide +kernel
theorem dX9_follow_11 : decode cX9_follow 11 = .ok (.invokestatic 146, 3) := by decide +kernel
theorem dX9_follow_14 : decode cX9_follow 14 = .ok (.ifCond .ne 6, 3) := by decide +kernel
theorem dX9_follow_17 : decode cX9_follow 17 = .ok (.ldc 73, 2) := by decide +kernel
theorem dX9_follow_19 : decode cX9_follow 19 = .ok (.ireturn, 1) := by decide +kernel
theorem dX9_follow_20 : decode cX9_follow 20 = .ok (.aload_n 0, 1) := by decide +kernel
theorem dX9_follow_21 : decode cX9_follow 21 = .ok (.getfield 39, 3) := by decide +kernel
theorem dX9_follow_24 : decode cX9_follow 24 = .ok (.aload_n 0, 1) := by decide +kernel
theorem dX9_follow_25 : decode cX9_follow 25 = .ok (.getfield 32, 3) := by decide +kernel
theorem dX9_follow_28 : decode cX9_follow 28 = .ok (.invokevirtual 149, 3) := by decide +kernel
theorem dX9_follow_31 : decode cX9_follow 31 = .ok (.aload_n 0, 1) := by decide +kernel
theorem dX9_follow_32 : decode cX9_follow 32 = .ok (.aload_n 0, 1) := by decide +kernel
theorem dX9_follow_33 : decode cX9_follow 33 = .ok (.getfield 32, 3) := by decide +kernel
theorem dX9_follow_36 : decode cX9_follow 36 = .ok (.aload_n 0, 1) := by decide +kernel
theorem dX9_follow_37 : decode cX9_follow 37 = .ok (.getfield 25, 3) := by decide +kernel
theorem dX9_follow_40 : decode cX9_follow 40 = .ok (.iload_n 1, 1) := by decide +kernel
theorem dX9_follow_41 : decode cX9_follow 41 = .ok (.invokevirtual 152, 3) := by decide +kernel
theorem dX9_follow_44 : decode cX9_follow 44 = .ok (.invokevirtual 156, 3) := by decide +kernel
theorem dX9_follow_47 : decode cX9_follow 47 = .ok (.ifCond .eq 13, 3) := by decide +kernel
theorem dX9_follow_50 : decode cX9_follow 50 = .ok (.aload_n 0, 1) := by decide +kernel
theorem dX9_follow_51 : decode cX9_follow 51 = .ok (.getfield 32, 3) := by decide +kernel
theorem dX9_follow_54 : decode cX9_follow 54 = .ok (.invokevirtual 160, 3) := by decide +kernel
theorem dX9_follow_57 : decode cX9_follow 57 = .ok (.goto 5, 3) := by decide +kernel
theorem dX9_follow_60 : decode cX9_follow 60 = .ok (.ldc 145, 2) := by decide +kernel
theorem dX9_follow_62 : decode cX9_follow 62 = .ok (.ireturn, 1) := by decide +kernel
theorem dX9_back_0 : decode cX9_back 0 = .ok (.aload_n 0, 1) := by decide +kernel
theorem dX9_back_1 : decode cX9_back 1 = .ok (.getfield 39, 3) := by decide +kernel
theorem dX9_back_4 : decode cX9_back 4 = .ok (.aload_n 0, 1) := by decide +kernel
theorem dX9_back_5 : decode cX9_back 5 = .ok (.getfield 32, 3) := by decide +kernel
theorem dX9_back_8 : decode cX9_back 8 = .ok (.invokevirtual 149, 3) := by decide +kernel
theorem dX9_back_11 : decode cX9_back 11 = .ok (.aload_n 0, 1) := by decide +kernel
theorem dX9_back_12 : decode cX9_back 12 = .ok (.aload_n 0, 1) := by decide +kernel
theorem dX9_back_13 : decode cX9_back 13 = .ok (.getfield 32, 3) := by decide +kernel
theorem dX9_back_16 : decode cX9_back 16 = .ok (.invokevirtual 164, 3) := by decide +kernel
theorem dX9_back_19 : decode cX9_back 19 = .ok (.invokevirtual 156, 3) := by decide +kernel
theorem dX9_back_22 : decode cX9_back 22 = .ok (.ifCond .eq 13, 3) := by decide +kernel
theorem dX9_back_25 : decode cX9_back 25 = .ok (.aload_n 0, 1) := by decide +kernel
theorem dX9_back_26 : decode cX9_back 26 = .ok (.getfield 32, 3) := by decide +kernel
theorem dX9_back_29 : decode cX9_back 29 = .ok (.invokevirtual 160, 3) := by decide +kernel
theorem dX9_back_32 : decode cX9_back 32 = .ok (.goto 5, 3) := by decide +kernel
theorem dX9_back_35 : decode cX9_back 35 = .ok (.ldc 145, 2) := by decide +kernel
theorem dX9_back_37 : decode cX9_back 37 = .ok (.ireturn, 1) := by decide +kernel
theorem dX9_forward_0 : decode cX9_forward 0 = .ok (.aload_n 0, 1) := by decide +kernel
theorem dX9_forward_1 : decode cX9_forward 1 = .ok (.getfield 39, 3) := by decide +kernel
theorem dX9_forward_4 : decode cX9_forward 4 = .ok (.aload_n 0, 1) := by decide +kernel
theorem dX9_forward_5 : decode cX9_forward 5 = .ok (.getfield 32, 3) := by decide +kernel
theorem dX9_forward_8 : decode cX9_forward 8 = .ok (.invokevirtual 149, 3) := by decide +kernel
theorem dX9_forward_11 : decode cX9_forward 11 = .ok (.aload_n 0, 1) := by decide +kernel
theorem dX9_forward_12 : decode cX9_forward 12 = .ok (.aload_n 0, 1) := by decide +kernel
theorem dX9_forward_13 : decode cX9_forward 13 = .ok (.getfield 32, 3) := by decide +kernel
theorem dX9_forward_16 : decode cX9_forward 16 = .ok (.invokevirtual 167, 3) := by decide +kernel
theorem dX9_forward_19 : decode cX9_forward 19 = .ok (.invokevirtual 156, 3) := by decide +kernel
theorem dX9_forward_22 : decode cX9_forward 22 = .ok (.ifCond .eq 13, 3) := by decide +kernel
theorem dX9_forward_25 : decode cX9_forward 25 = .ok (.aload_n 0, 1) := by decide +kernel
theorem dX9_forward_26 : decode cX9_forward 26 = .ok (.getfield 32, 3) := by decide +kernel
theorem dX9_forward_29 : decode cX9_forward 29 = .ok (.invokevirtual 160, 3) := by decide +kernel
theorem dX9_forward_32 : decode cX9_forward 32 = .ok (.goto 5, 3) := by decide +kernel
theorem dX9_forward_35 : decode cX9_forward 35 = .ok (.ldc 145, 2) := by decide +kernel
theorem dX9_forward_37 : decode cX9_forward 37 = .ok (.ireturn, 1) := by decide +kernel
theorem dX9_select_0 : decode cX9_select 0 = .ok (.aload_n 0, 1) := by decide +kernel
theorem dX9_select_1 : decode cX9_select 1 = .ok (.getfield 32, 3) := by decide +kernel
theorem dX9_select_4 : decode cX9_select 4 = .ok (.iload_n 1, 1) := by decide +kernel
theorem dX9_select_5 : decode cX9_select 5 = .ok (.invokevirtual 170, 3) := by decide +kernel
theorem dX9_select_8 : decode cX9_select 8 = .ok (.ifCond .ne 6, 3) := by decide +kernel
theorem dX9_select_11 : decode cX9_select 11 = .ok (.ldc 73, 2) := by decide +kernel
theorem dX9_select_13 : decode cX9_select 13 = .ok (.ireturn, 1) := by decide +kernel
theorem dX9_select_14 : decode cX9_select 14 = .ok (.aload_n 0, 1) := by decide +kernel
theorem dX9_select_15 : decode cX9_select 15 = .ok (.getfield 32, 3) := by decide +kernel
theorem dX9_select_18 : decode cX9_select 18 = .ok (.getfield 173, 3) := by decide +kernel
theorem dX9_select_21 : decode cX9_select 21 = .ok (.istore_n 2, 1) := by decide +kernel
theorem dX9_select_22 : decode cX9_select 22 = .ok (.aload_n 0, 1) := by decide +kernel
theorem dX9_select_23 : decode cX9_select 23 = .ok (.getfield 39, 3) := by decide +kernel
theorem dX9_select_26 : decode cX9_select 26 = .ok (.aload_n 0, 1) := by decide +kernel
theorem dX9_select_27 : decode cX9_select 27 = .ok (.getfield 32, 3) := by decide +kernel
theorem dX9_select_30 : decode cX9_select 30 = .ok (.invokevirtual 149, 3) := by decide +kernel
theorem dX9_select_33 : decode cX9_select 33 = .ok (.aload_n 0, 1) := by decide +kernel
theorem dX9_select_34 : decode cX9_select 34 = .ok (.aload_n 0, 1) := by decide +kernel
theorem dX9_select_35 : decode cX9_select 35 = .ok (.getfield 32, 3) := by decide +kernel
theorem dX9_select_38 : decode cX9_select 38 = .ok (.iload_n 1, 1) := by decide +kernel
theorem dX9_select_39 : decode cX9_select 39 = .ok (.invokevirtual 176, 3) := by decide +kernel
theorem dX9_select_42 : decode cX9_select 42 = .ok (.invokevirtual 156, 3) := by decide +kernel
theorem dX9_select_45 : decode cX9_select 45 = .ok (.ifCond .eq 7, 3) := by decide +kernel
theorem dX9_select_48 : decode cX9_select 48 = .ok (.iload_n 2, 1) := by decide +kernel
theorem dX9_select_49 : decode cX9_select 49 = .ok (.goto 5, 3) := by decide +kernel
theorem dX9_select_52 : decode cX9_select 52 = .ok (.ldc 145, 2) := by decide +kernel
theorem dX9_select_54 : decode cX9_select 54 = .ok (.ireturn, 1) := by decide +kernel
theorem dX9_open_0 : decode cX9_open 0 = .ok (.aload_n 0, 1) := by decide +kernel
theorem dX9_open_1 : decode cX9_open 1 = .ok (.getfield 25, 3) := by decide +kernel
theorem dX9_open_4 : decode cX9_open 4 = .ok (.iload_n 1, 1) := by decide +kernel
theorem dX9_open_5 : decode cX9_open 5 = .ok (.invokevirtual 179, 3) := by decide +kernel
theorem dX9_open_8 : decode cX9_open 8 = .ok (.ifCond .ne 6, 3) := by decide +kernel
theorem dX9_open_11 : decode cX9_open 11 = .ok (.ldc 73, 2) := by decide +kernel
theorem dX9_open_13 : decode cX9_open 13 = .ok (.ireturn, 1) := by decide +kernel
theorem dX9_open_14 : decode cX9_open 14 = .ok (.aload_n 0, 1) := by decide +kernel
theorem dX9_open_15 : decode cX9_open 15 = .ok (.getfield 39, 3) := by decide +kernel
theorem dX9_open_18 : decode cX9_open 18 = .ok (.aload_n 0, 1) := by decide +kernel
theorem dX9_open_19 : decode cX9_open 19 = .ok (.getfield 32, 3) := by decide +kernel
theorem dX9_open_22 : decode cX9_open 22 = .ok (.invokevirtual 149, 3) := by decide +kernel
theorem dX9_open_25 : decode cX9_open 25 = .ok (.aload_n 0, 1) := by decide +kernel
theorem dX9_open_26 : decode cX9_open 26 = .ok (.aload_n 0, 1) := by decide +kernel
theorem dX9_open_27 : decode cX9_open 27 = .ok (.getfield 32, 3) := by decide +kernel
theorem dX9_open_30 : decode cX9_open 30 = .ok (.iload_n 1, 1) := by decide +kernel
theorem dX9_open_31 : decode cX9_open 31 = .ok (.invokevirtual 182, 3) := by decide +kernel
theorem dX9_open_34 : decode cX9_open 34 = .ok (.invokevirtual 156, 3) := by decide +kernel
theorem dX9_open_37 : decode cX9_open 37 = .ok (.ifCond .eq 13, 3) := by decide +kernel
theorem dX9_open_40 : decode cX9_open 40 = .ok (.aload_n 0, 1) := by decide +kernel
theorem dX9_open_41 : decode cX9_open 41 = .ok (.getfield 32, 3) := by decide +kernel
theorem dX9_open_44 : decode cX9_open 44 = .ok (.getfield 136, 3) := by decide +kernel
theorem dX9_open_47 : decode cX9_open 47 = .ok (.goto 5, 3) := by decide +kernel
theorem dX9_open_50 : decode cX9_open 50 = .ok (.ldc 145, 2) := by decide +kernel
theorem dX9_open_52 : decode cX9_open 52 = .ok (.ireturn, 1) := by decide +kernel
theorem dX9_close_0 : decode cX9_close 0 = .ok (.aload_n 0, 1) := by decide +kernel
theorem dX9_close_1 : decode cX9_close 1 = .ok (.getfield 39, 3) := by decide +kernel
theorem dX9_close_4 : decode cX9_close 4 = .ok (.aload_n 0, 1) := by decide +kernel
theorem dX9_close_5 : decode cX9_close 5 = .ok (.getfield 32, 3) := by decide +kernel
theorem dX9_close_8 : decode cX9_close 8 = .ok (.invokevirtual 149, 3) := by decide +kernel
theorem dX9_close_11 : decode cX9_close 11 = .ok (.aload_n 0, 1) := by decide +kernel
theorem dX9_close_12 : decode cX9_close 12 = .ok (.aload_n 0, 1) := by decide +kernel
theorem dX9_close_13 : decode cX9_close 13 = .ok (.getfield 32, 3) := by decide +kernel
theorem dX9_close_16 : decode cX9_close 16 = .ok (.invokevirtual 185, 3) := by decide +kernel
theorem dX9_close_19 : decode cX9_close 19 = .ok (.invokevirtual 156, 3) := by decide +kernel
theorem dX9_close_22 : decode cX9_close 22 = .ok (.ifCond .eq 13, 3) := by decide +kernel
theorem dX9_close_25 : decode cX9_close 25 = .ok (.aload_n 0, 1) := by decide +kernel
theorem dX9_close_26 : decode cX9_close 26 = .ok (.getfield 32, 3) := by decide +kernel
theorem dX9_close_29 : decode cX9_close 29 = .ok (.getfield 173, 3) := by decide +kernel
theorem dX9_close_32 : decode cX9_close 32 = .ok (.goto 5, 3) := by decide +kernel
theorem dX9_close_35 : decode cX9_close 35 = .ok (.ldc 145, 2) := by decide +kernel
theorem dX9_close_37 : decode cX9_close 37 = .ok (.ireturn, 1) := by decide +kernel
theorem dX9_again_0 : decode cX9_again 0 = .ok (.aload_n 0, 1) := by decide +kernel
theorem dX9_again_1 : decode cX9_again 1 = .ok (.getfield 39, 3) := by decide +kernel
theorem dX9_again_4 : decode cX9_again 4 = .ok (.aload_n 0, 1) := by decide +kernel
theorem dX9_again_5 : decode cX9_again 5 = .ok (.getfield 32, 3) := by decide +kernel
theorem dX9_again_8 : decode cX9_again 8 = .ok (.invokevirtual 149, 3) := by decide +kernel
theorem dX9_again_11 : decode cX9_again 11 = .ok (.aload_n 0, 1) := by decide +kernel
theorem dX9_again_12 : decode cX9_again 12 = .ok (.aload_n 0, 1) := by decide +kernel
theorem dX9_again_13 : decode cX9_again 13 = .ok (.getfield 32, 3) := by decide +kernel
theorem dX9_again_16 : decode cX9_again 16 = .ok (.invokevirtual 188, 3) := by decide +kernel
theorem dX9_again_19 : decode cX9_again 19 = .ok (.invokevirtual 156, 3) := by decide +kernel
theorem dX9_again_22 : decode cX9_again 22 = .ok (.ifCond .eq 13, 3) := by decide +kernel
theorem dX9_again_25 : decode cX9_again 25 = .ok (.aload_n 0, 1) := by decide +kernel
theorem dX9_again_26 : decode cX9_again 26 = .ok (.getfield 32, 3) := by decide +kernel
theorem dX9_again_29 : decode cX9_again 29 = .ok (.getfield 136, 3) := by decide +kernel
theorem dX9_again_32 : decode cX9_again 32 = .ok (.goto 5, 3) := by decide +kernel
theorem dX9_again_35 : decode cX9_again 35 = .ok (.ldc 145, 2) := by decide +kernel
theorem dX9_again_37 : decode cX9_again 37 = .ok (.ireturn, 1) := by decide +kernel
theorem dX9_undo_0 : decode cX9_undo 0 = .ok (.aload_n 0, 1) := by decide +kernel
theorem dX9_undo_1 : decode cX9_undo 1 = .ok (.getfield 39, 3) := by decide +kernel
theorem dX9_undo_4 : decode cX9_undo 4 = .ok (.aload_n 0, 1) := by decide +kernel
theorem dX9_undo_5 : decode cX9_undo 5 = .ok (.getfield 32, 3) := by decide +kernel
theorem dX9_undo_8 : decode cX9_undo 8 = .ok (.invokevirtual 191, 3) := by decide +kernel
theorem dX9_undo_11 : decode cX9_undo 11 = .ok (.ifCond .eq 13, 3) := by decide +kernel
theorem dX9_undo_14 : decode cX9_undo 14 = .ok (.aload_n 0, 1) := by decide +kernel
theorem dX9_undo_15 : decode cX9_undo 15 = .ok (.getfield 39, 3) := by decide +kernel
theorem dX9_undo_18 : decode cX9_undo 18 = .ok (.getfield 195, 3) := by decide +kernel
theorem dX9_undo_21 : decode cX9_undo 21 = .ok (.goto 5, 3) := by decide +kernel
theorem dX9_undo_24 : decode cX9_undo 24 = .ok (.ldc 145, 2) := by decide +kernel
theorem dX9_undo_26 : decode cX9_undo 26 = .ok (.ireturn, 1) := by decide +kernel
theorem dX9_tab_0 : decode cX9_tab 0 = .ok (.aload_n 0, 1) := by decide +kernel
theorem dX9_tab_1 : decode cX9_tab 1 = .ok (.getfield 32, 3) := by decide +kernel
theorem dX9_tab_4 : decode cX9_tab 4 = .ok (.iload_n 1, 1) := by decide +kernel
theorem dX9_tab_5 : decode cX9_tab 5 = .ok (.invokevirtual 170, 3) := by decide +kernel
theorem dX9_tab_8 : decode cX9_tab 8 = .ok (.ifCond .ne 6, 3) := by decide +kernel
theorem dX9_tab_11 : decode cX9_tab 11 = .ok (.ldc 73, 2) := by decide +kernel
theorem dX9_tab_13 : decode cX9_tab 13 = .ok (.ireturn, 1) := by decide +kernel
theorem dX9_tab_14 : decode cX9_tab 14 = .ok (.aload_n 0, 1) := by decide +kernel
theorem dX9_tab_15 : decode cX9_tab 15 = .ok (.getfield 32, 3) := by decide +kernel
theorem dX9_tab_18 : decode cX9_tab 18 = .ok (.getfield 198, 3) := by decide +kernel
theorem dX9_tab_21 : decode cX9_tab 21 = .ok (.iload_n 1, 1) := by decide +kernel
theorem dX9_tab_22 : decode cX9_tab 22 = .ok (.aaload, 1) := by decide +kernel
theorem dX9_tab_23 : decode cX9_tab 23 = .ok (.astore_n 3, 1) := by decide +kernel
theorem dX9_tab_24 : decode cX9_tab 24 = .ok (.iload_n 2, 1) := by decide +kernel
theorem dX9_tab_25 : decode cX9_tab 25 = .ok (.tableswitch 51 0 3 #[31, 36, 41, 46], 31) := by decide +kernel
theorem dX9_tab_56 : decode cX9_tab 56 = .ok (.aload_n 3, 1) := by decide +kernel
theorem dX9_tab_57 : decode cX9_tab 57 = .ok (.invokevirtual 202, 3) := by decide +kernel
theorem dX9_tab_60 : decode cX9_tab 60 = .ok (.ireturn, 1) := by decide +kernel
theorem dX9_tab_61 : decode cX9_tab 61 = .ok (.aload_n 3, 1) := by decide +kernel
theorem dX9_tab_62 : decode cX9_tab 62 = .ok (.getfield 205, 3) := by decide +kernel
theorem dX9_tab_65 : decode cX9_tab 65 = .ok (.ireturn, 1) := by decide +kernel
theorem dX9_tab_66 : decode cX9_tab 66 = .ok (.aload_n 3, 1) := by decide +kernel
theorem dX9_tab_67 : decode cX9_tab 67 = .ok (.getfield 208, 3) := by decide +kernel
theorem dX9_tab_70 : decode cX9_tab 70 = .ok (.ireturn, 1) := by decide +kernel
theorem dX9_tab_71 : decode cX9_tab 71 = .ok (.aload_n 3, 1) := by decide +kernel
theorem dX9_tab_72 : decode cX9_tab 72 = .ok (.getfield 209, 3) := by decide +kernel
theorem dX9_tab_75 : decode cX9_tab 75 = .ok (.ireturn, 1) := by decide +kernel
theorem dX9_tab_76 : decode cX9_tab 76 = .ok (.ldc 73, 2) := by decide +kernel
theorem dX9_tab_78 : decode cX9_tab 78 = .ok (.ireturn, 1) := by decide +kernel
theorem dX9_trail_0 : decode cX9_trail 0 = .ok (.aload_n 0, 1) := by decide +kernel
theorem dX9_trail_1 : decode cX9_trail 1 = .ok (.getfield 32, 3) := by decide +kernel
theorem dX9_trail_4 : decode cX9_trail 4 = .ok (.iload_n 1, 1) := by decide +kernel
theorem dX9_trail_5 : decode cX9_trail 5 = .ok (.invokevirtual 170, 3) := by decide +kernel
theorem dX9_trail_8 : decode cX9_trail 8 = .ok (.ifCond .eq 7, 3) := by decide +kernel
theorem dX9_trail_11 : decode cX9_trail 11 = .ok (.iload_n 2, 1) := by decide +kernel
theorem dX9_trail_12 : decode cX9_trail 12 = .ok (.ifCond .ge 6, 3) := by decide +kernel
theorem dX9_trail_15 : decode cX9_trail 15 = .ok (.ldc 73, 2) := by decide +kernel
theorem dX9_trail_17 : decode cX9_trail 17 = .ok (.ireturn, 1) := by decide +kernel
theorem dX9_trail_18 : decode cX9_trail 18 = .ok (.aload_n 0, 1) := by decide +kernel
theorem dX9_trail_19 : decode cX9_trail 19 = .ok (.getfield 32, 3) := by decide +kernel
theorem dX9_trail_22 : decode cX9_trail 22 = .ok (.getfield 198, 3) := by decide +kernel
theorem dX9_trail_25 : decode cX9_trail 25 = .ok (.iload_n 1, 1) := by decide +kernel
theorem dX9_trail_26 : decode cX9_trail 26 = .ok (.aaload, 1) := by decide +kernel
theorem dX9_trail_27 : decode cX9_trail 27 = .ok (.astore_n 3, 1) := by decide +kernel
theorem dX9_trail_28 : decode cX9_trail 28 = .ok (.iload_n 2, 1) := by decide +kernel
theorem dX9_trail_29 : decode cX9_trail 29 = .ok (.aload_n 3, 1) := by decide +kernel
theorem dX9_trail_30 : decode cX9_trail 30 = .ok (.getfield 208, 3) := by decide +kernel
theorem dX9_trail_33 : decode cX9_trail 33 = .ok (.if_icmp .ge 12, 3) := by decide +kernel
theorem dX9_trail_36 : decode cX9_trail 36 = .ok (.aload_n 3, 1) := by decide +kernel
theorem dX9_trail_37 : decode cX9_trail 37 = .ok (.getfield 212, 3) := by decide +kernel
theorem dX9_trail_40 : decode cX9_trail 40 = .ok (.iload_n 2, 1) := by decide +kernel
theorem dX9_trail_41 : decode cX9_trail 41 = .ok (.iaload, 1) := by decide +kernel
theorem dX9_trail_42 : decode cX9_trail 42 = .ok (.goto 5, 3) := by decide +kernel
theorem dX9_trail_45 : decode cX9_trail 45 = .ok (.ldc 215, 2) := by decide +kernel
theorem dX9_trail_47 : decode cX9_trail 47 = .ok (.ireturn, 1) := by decide +kernel
theorem dX9_page_0 : decode cX9_page 0 = .ok (.aload_n 0, 1) := by decide +kernel
theorem dX9_page_1 : decode cX9_page 1 = .ok (.getfield 25, 3) := by decide +kernel
theorem dX9_page_4 : decode cX9_page 4 = .ok (.iload_n 1, 1) := by decide +kernel
theorem dX9_page_5 : decode cX9_page 5 = .ok (.invokevirtual 179, 3) := by decide +kernel
theorem dX9_page_8 : decode cX9_page 8 = .ok (.ifCond .eq 12, 3) := by decide +kernel
theorem dX9_page_11 : decode cX9_page 11 = .ok (.iload_n 2, 1) := by decide +kernel
theorem dX9_page_12 : decode cX9_page 12 = .ok (.ifCond .lt 8, 3) := by decide +kernel
theorem dX9_page_15 : decode cX9_page 15 = .ok (.iload_n 2, 1) := by decide +kernel
theorem dX9_page_16 : decode cX9_page 16 = .ok (.iconst 4, 1) := by decide +kernel
theorem dX9_page_17 : decode cX9_page 17 = .ok (.if_icmp .le 6, 3) := by decide +kernel
theorem dX9_page_20 : decode cX9_page 20 = .ok (.ldc 73, 2) := by decide +kernel
theorem dX9_page_22 : decode cX9_page 22 = .ok (.ireturn, 1) := by decide +kernel
theorem dX9_page_23 : decode cX9_page 23 = .ok (.iload_n 2, 1) := by decide +kernel
theorem dX9_page_24 : decode cX9_page 24 = .ok (.ifCond .ne 12, 3) := by decide +kernel
theorem dX9_page_27 : decode cX9_page 27 = .ok (.aload_n 0, 1) := by decide +kernel
theorem dX9_page_28 : decode cX9_page 28 = .ok (.getfield 25, 3) := by decide +kernel
theorem dX9_page_31 : decode cX9_page 31 = .ok (.iload_n 1, 1) := by decide +kernel
theorem dX9_page_32 : decode cX9_page 32 = .ok (.invokevirtual 216, 3) := by decide +kernel
theorem dX9_page_35 : decode cX9_page 35 = .ok (.ireturn, 1) := by decide +kernel
theorem dX9_page_36 : decode cX9_page 36 = .ok (.iload_n 2, 1) := by decide +kernel
theorem dX9_page_37 : decode cX9_page 37 = .ok (.iconst 3, 1) := by decide +kernel
theorem dX9_page_38 : decode cX9_page 38 = .ok (.if_icmp .gt 17, 3) := by decide +kernel
theorem dX9_page_41 : decode cX9_page 41 = .ok (.aload_n 0, 1) := by decide +kernel
theorem dX9_page_42 : decode cX9_page 42 = .ok (.getfield 25, 3) := by decide +kernel
theorem dX9_page_45 : decode cX9_page 45 = .ok (.iload_n 1, 1) := by decide +kernel
theorem dX9_page_46 : decode cX9_page 46 = .ok (.iload_n 2, 1) := by decide +kernel
theorem dX9_page_47 : decode cX9_page 47 = .ok (.iconst 1, 1) := by decide +kernel
theorem dX9_page_48 : decode cX9_page 48 = .ok (.isub, 1) := by decide +kernel
theorem dX9_page_49 : decode cX9_page 49 = .ok (.invokevirtual 219, 3) := by decide +kernel
theorem dX9_page_52 : decode cX9_page 52 = .ok (.goto 12, 3) := by decide +kernel
theorem dX9_page_55 : decode cX9_page 55 = .ok (.aload_n 0, 1) := by decide +kernel
theorem dX9_page_56 : decode cX9_page 56 = .ok (.getfield 32, 3) := by decide +kernel
theorem dX9_page_59 : decode cX9_page 59 = .ok (.getfield 222, 3) := by decide +kernel
theorem dX9_page_62 : decode cX9_page 62 = .ok (.iload_n 1, 1) := by decide +kernel
theorem dX9_page_63 : decode cX9_page 63 = .ok (.iaload, 1) := by decide +kernel
theorem dX9_page_64 : decode cX9_page 64 = .ok (.ireturn, 1) := by decide +kernel
theorem dX9_walk_0 : decode cX9_walk 0 = .ok (.aload_n 0, 1) := by decide +kernel
theorem dX9_walk_1 : decode cX9_walk 1 = .ok (.invokevirtual 142, 3) := by decide +kernel
theorem dX9_walk_4 : decode cX9_walk 4 = .ok (.ifCond .ne 6, 3) := by decide +kernel
theorem dX9_walk_7 : decode cX9_walk 7 = .ok (.ldc 145, 2) := by decide +kernel
theorem dX9_walk_9 : decode cX9_walk 9 = .ok (.ireturn, 1) := by decide +kernel
theorem dX9_walk_10 : decode cX9_walk 10 = .ok (.iload_n 1, 1) := by decide +kernel
theorem dX9_walk_11 : decode cX9_walk 11 = .ok (.ifCond .lt 16, 3) := by decide +kernel
theorem dX9_walk_14 : decode cX9_walk 14 = .ok (.iload_n 1, 1) := by decide +kernel
theorem dX9_walk_15 : decode cX9_walk 15 = .ok (.bipush 60, 2) := by decide +kernel
theorem dX9_walk_17 : decode cX9_walk 17 = .ok (.if_icmp .gt 10, 3) := by decide +kernel
theorem dX9_walk_20 : decode cX9_walk 20 = .ok (.iload_n 2, 1) := by decide +kernel
theorem dX9_walk_21 : decode cX9_walk 21 = .ok (.invokestatic 146, 3) := by decide +kernel
theorem dX9_walk_24 : decode cX9_walk 24 = .ok (.ifCond .ne 6, 3) := by decide +kernel
theorem dX9_walk_27 : decode cX9_walk 27 = .ok (.ldc 73, 2) := by decide +kernel
theorem dX9_walk_29 : decode cX9_walk 29 = .ok (.ireturn, 1) := by decide +kernel
theorem dX9_walk_30 : decode cX9_walk 30 = .ok (.aload_n 0, 1) := by decide +kernel
theorem dX9_walk_31 : decode cX9_walk 31 = .ok (.getfield 25, 3) := by decide +kernel
theorem dX9_walk_34 : decode cX9_walk 34 = .ok (.aload_n 0, 1) := by decide +kernel
theorem dX9_walk_35 : decode cX9_walk 35 = .ok (.getfield 32, 3) := by decide +kernel
theorem dX9_walk_38 : decode cX9_walk 38 = .ok (.invokevirtual 160, 3) := by decide +kernel
theorem dX9_walk_41 : decode cX9_walk 41 = .ok (.iload_n 1, 1) := by decide +kernel
theorem dX9_walk_42 : decode cX9_walk 42 = .ok (.iload_n 2, 1) := by decide +kernel
theorem dX9_walk_43 : decode cX9_walk 43 = .ok (.invokevirtual 225, 3) := by decide +kernel
theorem dX9_walk_46 : decode cX9_walk 46 = .ok (.ireturn, 1) := by decide +kernel
theorem dX9_far_0 : decode cX9_far 0 = .ok (.aload_n 0, 1) := by decide +kernel
theorem dX9_far_1 : decode cX9_far 1 = .ok (.getfield 25, 3) := by decide +kernel
theorem dX9_far_4 : decode cX9_far 4 = .ok (.iload_n 1, 1) := by decide +kernel
theorem dX9_far_5 : decode cX9_far 5 = .ok (.invokevirtual 179, 3) := by decide +kernel
theorem dX9_far_8 : decode cX9_far 8 = .ok (.ifCond .eq 14, 3) := by decide +kernel
theorem dX9_far_11 : decode cX9_far 11 = .ok (.aload_n 0, 1) := by decide +kernel
theorem dX9_far_12 : decode cX9_far 12 = .ok (.getfield 25, 3) := by decide +kernel
theorem dX9_far_15 : decode cX9_far 15 = .ok (.iload_n 2, 1) := by decide +kernel
theorem dX9_far_16 : decode cX9_far 16 = .ok (.invokevirtual 179, 3) := by decide +kernel
theorem dX9_far_19 : decode cX9_far 19 = .ok (.ifCond .ne 6, 3) := by decide +kernel
theorem dX9_far_22 : decode cX9_far 22 = .ok (.ldc 73, 2) := by decide +kernel
theorem dX9_far_24 : decode cX9_far 24 = .ok (.ireturn, 1) := by decide +kernel
theorem dX9_far_25 : decode cX9_far 25 = .ok (.aload_n 0, 1) := by decide +kernel
theorem dX9_far_26 : decode cX9_far 26 = .ok (.getfield 25, 3) := by decide +kernel
theorem dX9_far_29 : decode cX9_far 29 = .ok (.iload_n 1, 1) := by decide +kernel
theorem dX9_far_30 : decode cX9_far 30 = .ok (.iload_n 2, 1) := by decide +kernel
theorem dX9_far_31 : decode cX9_far 31 = .ok (.invokevirtual 229, 3) := by decide +kernel
theorem dX9_far_34 : decode cX9_far 34 = .ok (.ireturn, 1) := by decide +kernel
theorem dX9_round_0 : decode cX9_round 0 = .ok (.aload_n 0, 1) := by decide +kernel
theorem dX9_round_1 : decode cX9_round 1 = .ok (.getfield 25, 3) := by decide +kernel
theorem dX9_round_4 : decode cX9_round 4 = .ok (.iload_n 1, 1) := by decide +kernel
theorem dX9_round_5 : decode cX9_round 5 = .ok (.invokevirtual 179, 3) := by decide +kernel
theorem dX9_round_8 : decode cX9_round 8 = .ok (.ifCond .eq 14, 3) := by decide +kernel
theorem dX9_round_11 : decode cX9_round 11 = .ok (.aload_n 0, 1) := by decide +kernel
theorem dX9_round_12 : decode cX9_round 12 = .ok (.getfield 25, 3) := by decide +kernel
theorem dX9_round_15 : decode cX9_round 15 = .ok (.iload_n 1, 1) := by decide +kernel
theorem dX9_round_16 : decode cX9_round 16 = .ok (.invokevirtual 232, 3) := by decide +kernel
theorem dX9_round_19 : decode cX9_round 19 = .ok (.goto 5, 3) := by decide +kernel
theorem dX9_round_22 : decode cX9_round 22 = .ok (.ldc 73, 2) := by decide +kernel
theorem dX9_round_24 : decode cX9_round 24 = .ok (.ireturn, 1) := by decide +kernel
theorem dX9_to_0 : decode cX9_to 0 = .ok (.aload_n 0, 1) := by decide +kernel
theorem dX9_to_1 : decode cX9_to 1 = .ok (.getfield 25, 3) := by decide +kernel
theorem dX9_to_4 : decode cX9_to 4 = .ok (.iload_n 1, 1) := by decide +kernel
theorem dX9_to_5 : decode cX9_to 5 = .ok (.invokevirtual 179, 3) := by decide +kernel
theorem dX9_to_8 : decode cX9_to 8 = .ok (.ifCond .eq 8, 3) := by decide +kernel
theorem dX9_to_11 : decode cX9_to 11 = .ok (.iload_n 2, 1) := by decide +kernel
theorem dX9_to_12 : decode cX9_to 12 = .ok (.iconst (-1), 1) := by decide +kernel
theorem dX9_to_13 : decode cX9_to 13 = .ok (.if_icmp .ge 6, 3) := by decide +kernel
theorem dX9_to_16 : decode cX9_to 16 = .ok (.ldc 73, 2) := by decide +kernel
theorem dX9_to_18 : decode cX9_to 18 = .ok (.ireturn, 1) := by decide +kernel
theorem dX9_to_19 : decode cX9_to 19 = .ok (.aload_n 0, 1) := by decide +kernel
theorem dX9_to_20 : decode cX9_to 20 = .ok (.getfield 52, 3) := by decide +kernel
theorem dX9_to_23 : decode cX9_to 23 = .ok (.aload_n 0, 1) := by decide +kernel
theorem dX9_to_24 : decode cX9_to 24 = .ok (.getfield 25, 3) := by decide +kernel
theorem dX9_to_27 : decode cX9_to 27 = .ok (.aload_n 0, 1) := by decide +kernel
theorem dX9_to_28 : decode cX9_to 28 = .ok (.getfield 32, 3) := by decide +kernel
theorem dX9_to_31 : decode cX9_to 31 = .ok (.iload_n 1, 1) := by decide +kernel
theorem dX9_to_32 : decode cX9_to 32 = .ok (.invokevirtual 235, 3) := by decide +kernel
theorem dX9_to_35 : decode cX9_to 35 = .ok (.istore_n 3, 1) := by decide +kernel
theorem dX9_to_36 : decode cX9_to 36 = .ok (.iload_n 3, 1) := by decide +kernel
theorem dX9_to_37 : decode cX9_to 37 = .ok (.ldc 215, 2) := by decide +kernel
theorem dX9_to_39 : decode cX9_to 39 = .ok (.if_icmp .eq 8, 3) := by decide +kernel
theorem dX9_to_42 : decode cX9_to 42 = .ok (.iload_n 2, 1) := by decide +kernel
theorem dX9_to_43 : decode cX9_to 43 = .ok (.iconst (-1), 1) := by decide +kernel
theorem dX9_to_44 : decode cX9_to 44 = .ok (.if_icmp .ne 5, 3) := by decide +kernel
theorem dX9_to_47 : decode cX9_to 47 = .ok (.iload_n 3, 1) := by decide +kernel
theorem dX9_to_48 : decode cX9_to 48 = .ok (.ireturn, 1) := by decide +kernel
theorem dX9_to_49 : decode cX9_to 49 = .ok (.iload_n 2, 1) := by decide +kernel
theorem dX9_to_50 : decode cX9_to 50 = .ok (.iload_n 3, 1) := by decide +kernel
theorem dX9_to_51 : decode cX9_to 51 = .ok (.if_icmp .ge 15, 3) := by decide +kernel
theorem dX9_to_54 : decode cX9_to 54 = .ok (.aload_n 0, 1) := by decide +kernel
theorem dX9_to_55 : decode cX9_to 55 = .ok (.getfield 52, 3) := by decide +kernel
theorem dX9_to_58 : decode cX9_to 58 = .ok (.getfield 239, 3) := by decide +kernel
theorem dX9_to_61 : decode cX9_to 61 = .ok (.iload_n 2, 1) := by decide +kernel
theorem dX9_to_62 : decode cX9_to 62 = .ok (.iaload, 1) := by decide +kernel
theorem dX9_to_63 : decode cX9_to 63 = .ok (.goto 5, 3) := by decide +kernel
theorem dX9_to_66 : decode cX9_to 66 = .ok (.ldc 215, 2) := by decide +kernel
theorem dX9_to_68 : decode cX9_to 68 = .ok (.ireturn, 1) := by decide +kernel
theorem dX9_ways_0 : decode cX9_ways 0 = .ok (.aload_n 0, 1) := by decide +kernel
theorem dX9_ways_1 : decode cX9_ways 1 = .ok (.getfield 25, 3) := by decide +kernel
theorem dX9_ways_4 : decode cX9_ways 4 = .ok (.iload_n 1, 1) := by decide +kernel
theorem dX9_ways_5 : decode cX9_ways 5 = .ok (.invokevirtual 179, 3) := by decide +kernel
theorem dX9_ways_8 : decode cX9_ways 8 = .ok (.ifCond .eq 13, 3) := by decide +kernel
theorem dX9_ways_11 : decode cX9_ways 11 = .ok (.iload_n 2, 1) := by decide +kernel
theorem dX9_ways_12 : decode cX9_ways 12 = .ok (.ifCond .lt 9, 3) := by decide +kernel
theorem dX9_ways_15 : decode cX9_ways 15 = .ok (.iload_n 2, 1) := by decide +kernel
theorem dX9_ways_16 : decode cX9_ways 16 = .ok (.bipush 12, 2) := by decide +kernel
theorem dX9_ways_18 : decode cX9_ways 18 = .ok (.if_icmp .le 6, 3) := by decide +kernel
theorem dX9_ways_21 : decode cX9_ways 21 = .ok (.ldc 73, 2) := by decide +kernel
theorem dX9_ways_23 : decode cX9_ways 23 = .ok (.ireturn, 1) := by decide +kernel
theorem dX9_ways_24 : decode cX9_ways 24 = .ok (.aload_n 0, 1) := by decide +kernel
theorem dX9_ways_25 : decode cX9_ways 25 = .ok (.getfield 52, 3) := by decide +kernel
theorem dX9_ways_28 : decode cX9_ways 28 = .ok (.aload_n 0, 1) := by decide +kernel
theorem dX9_ways_29 : decode cX9_ways 29 = .ok (.getfield 25, 3) := by decide +kernel
theorem dX9_ways_32 : decode cX9_ways 32 = .ok (.aload_n 0, 1) := by decide +kernel
theorem dX9_ways_33 : decode cX9_ways 33 = .ok (.getfield 32, 3) := by decide +kernel
theorem dX9_ways_36 : decode cX9_ways 36 = .ok (.invokevirtual 160, 3) := by decide +kernel
theorem dX9_ways_39 : decode cX9_ways 39 = .ok (.iload_n 2, 1) := by decide +kernel
theorem dX9_ways_40 : decode cX9_ways 40 = .ok (.invokevirtual 242, 3) := by decide +kernel
theorem dX9_ways_43 : decode cX9_ways 43 = .ok (.aload_n 0, 1) := by decide +kernel
theorem dX9_ways_44 : decode cX9_ways 44 = .ok (.getfield 52, 3) := by decide +kernel
theorem dX9_ways_47 : decode cX9_ways 47 = .ok (.getfield 246, 3) := by decide +kernel
theorem dX9_ways_50 : decode cX9_ways 50 = .ok (.iload_n 1, 1) := by decide +kernel
theorem dX9_ways_51 : decode cX9_ways 51 = .ok (.iaload, 1) := by decide +kernel
theorem dX9_ways_52 : decode cX9_ways 52 = .ok (.ireturn, 1) := by decide +kernel
theorem dX9_share_0 : decode cX9_share 0 = .ok (.aload_n 0, 1) := by decide +kernel
theorem dX9_share_1 : decode cX9_share 1 = .ok (.getfield 25, 3) := by decide +kernel
theorem dX9_share_4 : decode cX9_share 4 = .ok (.iload_n 1, 1) := by decide +kernel
theorem dX9_share_5 : decode cX9_share 5 = .ok (.invokevirtual 179, 3) := by decide +kernel
theorem dX9_share_8 : decode cX9_share 8 = .ok (.ifCond .eq 14, 3) := by decide +kernel
theorem dX9_share_11 : decode cX9_share 11 = .ok (.iload_n 2, 1) := by decide +kernel
theorem dX9_share_12 : decode cX9_share 12 = .ok (.ifCond .lt 10, 3) := by decide +kernel
theorem dX9_share_15 : decode cX9_share 15 = .ok (.iload_n 2, 1) := by decide +kernel
theorem dX9_share_16 : decode cX9_share 16 = .ok (.sipush 999, 3) := by decide +kernel
theorem dX9_share_19 : decode cX9_share 19 = .ok (.if_icmp .le 6, 3) := by decide +kernel
theorem dX9_share_22 : decode cX9_share 22 = .ok (.ldc 73, 2) := by decide +kernel
theorem dX9_share_24 : decode cX9_share 24 = .ok (.ireturn, 1) := by decide +kernel
theorem dX9_share_25 : decode cX9_share 25 = .ok (.aload_n 0, 1) := by decide +kernel
theorem dX9_share_26 : decode cX9_share 26 = .ok (.getfield 32, 3) := by decide +kernel
theorem dX9_share_29 : decode cX9_share 29 = .ok (.iload_n 1, 1) := by decide +kernel
theorem dX9_share_30 : decode cX9_share 30 = .ok (.iload_n 2, 1) := by decide +kernel
theorem dX9_share_31 : decode cX9_share 31 = .ok (.invokevirtual 249, 3) := by decide +kernel
theorem dX9_share_34 : decode cX9_share 34 = .ok (.ireturn, 1) := by decide +kernel
theorem dX9_fits_0 : decode cX9_fits 0 = .ok (.aload_n 0, 1) := by decide +kernel
theorem dX9_fits_1 : decode cX9_fits 1 = .ok (.getfield 25, 3) := by decide +kernel
theorem dX9_fits_4 : decode cX9_fits 4 = .ok (.iload_n 1, 1) := by decide +kernel
theorem dX9_fits_5 : decode cX9_fits 5 = .ok (.invokevirtual 179, 3) := by decide +kernel
theorem dX9_fits_8 : decode cX9_fits 8 = .ok (.ifCond .eq 34, 3) := by decide +kernel
theorem dX9_fits_11 : decode cX9_fits 11 = .ok (.iload_n 2, 1) := by decide +kernel
theorem dX9_fits_12 : decode cX9_fits 12 = .ok (.invokestatic 69, 3) := by decide +kernel
theorem dX9_fits_15 : decode cX9_fits 15 = .ok (.ifCond .eq 27, 3) := by decide +kernel
theorem dX9_fits_18 : decode cX9_fits 18 = .ok (.iload 4, 2) := by decide +kernel
theorem dX9_fits_20 : decode cX9_fits 20 = .ok (.iconst 1, 1) := by decide +kernel
theorem dX9_fits_21 : decode cX9_fits 21 = .ok (.if_icmp .lt 21, 3) := by decide +kernel
theorem dX9_fits_24 : decode cX9_fits 24 = .ok (.iload 4, 2) := by decide +kernel
theorem dX9_fits_26 : decode cX9_fits 26 = .ok (.bipush 12, 2) := by decide +kernel
theorem dX9_fits_28 : decode cX9_fits 28 = .ok (.if_icmp .gt 14, 3) := by decide +kernel
theorem dX9_fits_31 : decode cX9_fits 31 = .ok (.iload 5, 2) := by decide +kernel
theorem dX9_fits_33 : decode cX9_fits 33 = .ok (.ifCond .lt 9, 3) := by decide +kernel
theorem dX9_fits_36 : decode cX9_fits 36 = .ok (.iload 5, 2) := by decide +kernel
theorem dX9_fits_38 : decode cX9_fits 38 = .ok (.iconst 3, 1) := by decide +kernel
theorem dX9_fits_39 : decode cX9_fits 39 = .ok (.if_icmp .le 6, 3) := by decide +kernel
theorem dX9_fits_42 : decode cX9_fits 42 = .ok (.ldc 73, 2) := by decide +kernel
theorem dX9_fits_44 : decode cX9_fits 44 = .ok (.ireturn, 1) := by decide +kernel
theorem dX9_fits_45 : decode cX9_fits 45 = .ok (.aload_n 0, 1) := by decide +kernel
theorem dX9_fits_46 : decode cX9_fits 46 = .ok (.getfield 11, 3) := by decide +kernel
theorem dX9_fits_49 : decode cX9_fits 49 = .ok (.iload_n 2, 1) := by decide +kernel
theorem dX9_fits_50 : decode cX9_fits 50 = .ok (.aaload, 1) := by decide +kernel
theorem dX9_fits_51 : decode cX9_fits 51 = .ok (.astore 6, 2) := by decide +kernel
theorem dX9_fits_53 : decode cX9_fits 53 = .ok (.aload 6, 2) := by decide +kernel
theorem dX9_fits_55 : decode cX9_fits 55 = .ok (.getfield 82, 3) := by decide +kernel
theorem dX9_fits_58 : decode cX9_fits 58 = .ok (.ifCond .ne 9, 3) := by decide +kernel
theorem dX9_fits_61 : decode cX9_fits 61 = .ok (.aload_n 0, 1) := by decide +kernel
theorem dX9_fits_62 : decode cX9_fits 62 = .ok (.iconst 1, 1) := by decide +kernel
theorem dX9_fits_63 : decode cX9_fits 63 = .ok (.invokevirtual 74, 3) := by decide +kernel
theorem dX9_fits_66 : decode cX9_fits 66 = .ok (.ireturn, 1) := by decide +kernel
theorem dX9_fits_67 : decode cX9_fits 67 = .ok (.aload 6, 2) := by decide +kernel
theorem dX9_fits_69 : decode cX9_fits 69 = .ok (.iload_n 3, 1) := by decide +kernel
theorem dX9_fits_70 : decode cX9_fits 70 = .ok (.iload 4, 2) := by decide +kernel
theorem dX9_fits_72 : decode cX9_fits 72 = .ok (.invokevirtual 86, 3) := by decide +kernel
theorem dX9_fits_75 : decode cX9_fits 75 = .ok (.ifCond .ne 9, 3) := by decide +kernel
theorem dX9_fits_78 : decode cX9_fits 78 = .ok (.aload_n 0, 1) := by decide +kernel
theorem dX9_fits_79 : decode cX9_fits 79 = .ok (.iconst 2, 1) := by decide +kernel
theorem dX9_fits_80 : decode cX9_fits 80 = .ok (.invokevirtual 74, 3) := by decide +kernel
theorem dX9_fits_83 : decode cX9_fits 83 = .ok (.ireturn, 1) := by decide +kernel
theorem dX9_fits_84 : decode cX9_fits 84 = .ok (.aload_n 0, 1) := by decide +kernel
theorem dX9_fits_85 : decode cX9_fits 85 = .ok (.iconst 0, 1) := by decide +kernel
theorem dX9_fits_86 : decode cX9_fits 86 = .ok (.putfield 63, 3) := by decide +kernel
theorem dX9_fits_89 : decode cX9_fits 89 = .ok (.aload_n 0, 1) := by decide +kernel
theorem dX9_fits_90 : decode cX9_fits 90 = .ok (.getfield 52, 3) := by decide +kernel
theorem dX9_fits_93 : decode cX9_fits 93 = .ok (.aload 6, 2) := by decide +kernel
theorem dX9_fits_95 : decode cX9_fits 95 = .ok (.iload_n 3, 1) := by decide +kernel
theorem dX9_fits_96 : decode cX9_fits 96 = .ok (.iload 4, 2) := by decide +kernel
theorem dX9_fits_98 : decode cX9_fits 98 = .ok (.invokevirtual 252, 3) := by decide +kernel
theorem dX9_fits_101 : decode cX9_fits 101 = .ok (.iload 5, 2) := by decide +kernel
theorem dX9_fits_103 : decode cX9_fits 103 = .ok (.tableswitch 74 0 2 #[25, 41, 57], 25) := by decide +kernel
theorem dX9_fits_128 : decode cX9_fits 128 = .ok (.aload_n 0, 1) := by decide +kernel
theorem dX9_fits_129 : decode cX9_fits 129 = .ok (.getfield 52, 3) := by decide +kernel
theorem dX9_fits_132 : decode cX9_fits 132 = .ok (.aload_n 0, 1) := by decide +kernel
theorem dX9_fits_133 : decode cX9_fits 133 = .ok (.getfield 25, 3) := by decide +kernel
theorem dX9_fits_136 : decode cX9_fits 136 = .ok (.aload_n 0, 1) := by decide +kernel
theorem dX9_fits_137 : decode cX9_fits 137 = .ok (.getfield 32, 3) := by decide +kernel
theorem dX9_fits_140 : decode cX9_fits 140 = .ok (.invokevirtual 256, 3) := by decide +kernel
theorem dX9_fits_143 : decode cX9_fits 143 = .ok (.ireturn, 1) := by decide +kernel
theorem dX9_fits_144 : decode cX9_fits 144 = .ok (.aload_n 0, 1) := by decide +kernel
theorem dX9_fits_145 : decode cX9_fits 145 = .ok (.getfield 52, 3) := by decide +kernel
theorem dX9_fits_148 : decode cX9_fits 148 = .ok (.aload_n 0, 1) := by decide +kernel
theorem dX9_fits_149 : decode cX9_fits 149 = .ok (.getfield 25, 3) := by decide +kernel
theorem dX9_fits_152 : decode cX9_fits 152 = .ok (.aload_n 0, 1) := by decide +kernel
theorem dX9_fits_153 : decode cX9_fits 153 = .ok (.getfield 32, 3) := by decide +kernel
theorem dX9_fits_156 : decode cX9_fits 156 = .ok (.invokevirtual 260, 3) := by decide +kernel
theorem dX9_fits_159 : decode cX9_fits 159 = .ok (.ireturn, 1) := by decide +kernel
theorem dX9_fits_160 : decode cX9_fits 160 = .ok (.aload_n 0, 1) := by decide +kernel
theorem dX9_fits_161 : decode cX9_fits 161 = .ok (.getfield 52, 3) := by decide +kernel
theorem dX9_fits_164 : decode cX9_fits 164 = .ok (.aload_n 0, 1) := by decide +kernel
theorem dX9_fits_165 : decode cX9_fits 165 = .ok (.getfield 25, 3) := by decide +kernel
theorem dX9_fits_168 : decode cX9_fits 168 = .ok (.aload_n 0, 1) := by decide +kernel
theorem dX9_fits_169 : decode cX9_fits 169 = .ok (.getfield 32, 3) := by decide +kernel
theorem dX9_fits_172 : decode cX9_fits 172 = .ok (.iload_n 1, 1) := by decide +kernel
theorem dX9_fits_173 : decode cX9_fits 173 = .ok (.invokevirtual 263, 3) := by decide +kernel
theorem dX9_fits_176 : decode cX9_fits 176 = .ok (.ireturn, 1) := by decide +kernel
theorem dX9_fits_177 : decode cX9_fits 177 = .ok (.aload_n 0, 1) := by decide +kernel
theorem dX9_fits_178 : decode cX9_fits 178 = .ok (.getfield 52, 3) := by decide +kernel
theorem dX9_fits_181 : decode cX9_fits 181 = .ok (.aload_n 0, 1) := by decide +kernel
theorem dX9_fits_182 : decode cX9_fits 182 = .ok (.getfield 25, 3) := by decide +kernel
theorem dX9_fits_185 : decode cX9_fits 185 = .ok (.aload_n 0, 1) := by decide +kernel
theorem dX9_fits_186 : decode cX9_fits 186 = .ok (.getfield 32, 3) := by decide +kernel
theorem dX9_fits_189 : decode cX9_fits 189 = .ok (.invokevirtual 266, 3) := by decide +kernel
theorem dX9_fits_192 : decode cX9_fits 192 = .ok (.ireturn, 1) := by decide +kernel
theorem dX9_chance_0 : decode cX9_chance 0 = .ok (.aload_n 0, 1) := by decide +kernel
theorem dX9_chance_1 : decode cX9_chance 1 = .ok (.getfield 25, 3) := by decide +kernel
theorem dX9_chance_4 : decode cX9_chance 4 = .ok (.iload_n 1, 1) := by decide +kernel
theorem dX9_chance_5 : decode cX9_chance 5 = .ok (.invokevirtual 179, 3) := by decide +kernel
theorem dX9_chance_8 : decode cX9_chance 8 = .ok (.ifCond .eq 22, 3) := by decide +kernel
theorem dX9_chance_11 : decode cX9_chance 11 = .ok (.iload_n 2, 1) := by decide +kernel
theorem dX9_chance_12 : decode cX9_chance 12 = .ok (.ifCond .lt 18, 3) := by decide +kernel
theorem dX9_chance_15 : decode cX9_chance 15 = .ok (.iload_n 2, 1) := by decide +kernel
theorem dX9_chance_16 : decode cX9_chance 16 = .ok (.bipush 8, 2) := by decide +kernel
theorem dX9_chance_18 : decode cX9_chance 18 = .ok (.if_icmp .gt 12, 3) := by decide +kernel
theorem dX9_chance_21 : decode cX9_chance 21 = .ok (.iload_n 3, 1) := by decide +kernel
theorem dX9_chance_22 : decode cX9_chance 22 = .ok (.ifCond .lt 8, 3) := by decide +kernel
theorem dX9_chance_25 : decode cX9_chance 25 = .ok (.iload_n 3, 1) := by decide +kernel
theorem dX9_chance_26 : decode cX9_chance 26 = .ok (.iconst 1, 1) := by decide +kernel
theorem dX9_chance_27 : decode cX9_chance 27 = .ok (.if_icmp .le 6, 3) := by decide +kernel
theorem dX9_chance_30 : decode cX9_chance 30 = .ok (.ldc 73, 2) := by decide +kernel
theorem dX9_chance_32 : decode cX9_chance 32 = .ok (.ireturn, 1) := by decide +kernel
theorem dX9_chance_33 : decode cX9_chance 33 = .ok (.aload_n 0, 1) := by decide +kernel
theorem dX9_chance_34 : decode cX9_chance 34 = .ok (.getfield 52, 3) := by decide +kernel
theorem dX9_chance_37 : decode cX9_chance 37 = .ok (.aload_n 0, 1) := by decide +kernel
theorem dX9_chance_38 : decode cX9_chance 38 = .ok (.getfield 25, 3) := by decide +kernel
theorem dX9_chance_41 : decode cX9_chance 41 = .ok (.aload_n 0, 1) := by decide +kernel
theorem dX9_chance_42 : decode cX9_chance 42 = .ok (.getfield 32, 3) := by decide +kernel
theorem dX9_chance_45 : decode cX9_chance 45 = .ok (.invokevirtual 160, 3) := by decide +kernel
theorem dX9_chance_48 : decode cX9_chance 48 = .ok (.iload_n 2, 1) := by decide +kernel
theorem dX9_chance_49 : decode cX9_chance 49 = .ok (.invokevirtual 269, 3) := by decide +kernel
theorem dX9_chance_52 : decode cX9_chance 52 = .ok (.istore 4, 2) := by decide +kernel
theorem dX9_chance_54 : decode cX9_chance 54 = .ok (.aload_n 0, 1) := by decide +kernel
theorem dX9_chance_55 : decode cX9_chance 55 = .ok (.getfield 52, 3) := by decide +kernel
theorem dX9_chance_58 : decode cX9_chance 58 = .ok (.getfield 246, 3) := by decide +kernel
theorem dX9_chance_61 : decode cX9_chance 61 = .ok (.iload_n 1, 1) := by decide +kernel
theorem dX9_chance_62 : decode cX9_chance 62 = .ok (.iaload, 1) := by decide +kernel
theorem dX9_chance_63 : decode cX9_chance 63 = .ok (.istore 5, 2) := by decide +kernel
theorem dX9_chance_65 : decode cX9_chance 65 = .ok (.iload 5, 2) := by decide +kernel
theorem dX9_chance_67 : decode cX9_chance 67 = .ok (.iload 4, 2) := by decide +kernel
theorem dX9_chance_69 : decode cX9_chance 69 = .ok (.invokestatic 273, 3) := by decide +kernel
theorem dX9_chance_72 : decode cX9_chance 72 = .ok (.istore 6, 2) := by decide +kernel
theorem dX9_chance_74 : decode cX9_chance 74 = .ok (.iload 6, 2) := by decide +kernel
theorem dX9_chance_76 : decode cX9_chance 76 = .ok (.ifCond .gt 6, 3) := by decide +kernel
theorem dX9_chance_79 : decode cX9_chance 79 = .ok (.ldc 73, 2) := by decide +kernel
theorem dX9_chance_81 : decode cX9_chance 81 = .ok (.ireturn, 1) := by decide +kernel
theorem dX9_chance_82 : decode cX9_chance 82 = .ok (.iload_n 3, 1) := by decide +kernel
theorem dX9_chance_83 : decode cX9_chance 83 = .ok (.ifCond .ne 11, 3) := by decide +kernel
theorem dX9_chance_86 : decode cX9_chance 86 = .ok (.iload 5, 2) := by decide +kernel
theorem dX9_chance_88 : decode cX9_chance 88 = .ok (.iload 6, 2) := by decide +kernel
theorem dX9_chance_90 : decode cX9_chance 90 = .ok (.idiv, 1) := by decide +kernel
theorem dX9_chance_91 : decode cX9_chance 91 = .ok (.goto 8, 3) := by decide +kernel
theorem dX9_chance_94 : decode cX9_chance 94 = .ok (.iload 4, 2) := by decide +kernel
theorem dX9_chance_96 : decode cX9_chance 96 = .ok (.iload 6, 2) := by decide +kernel
theorem dX9_chance_98 : decode cX9_chance 98 = .ok (.idiv, 1) := by decide +kernel
theorem dX9_chance_99 : decode cX9_chance 99 = .ok (.ireturn, 1) := by decide +kernel
theorem dX9_drawn_0 : decode cX9_drawn 0 = .ok (.aload_n 0, 1) := by decide +kernel
theorem dX9_drawn_1 : decode cX9_drawn 1 = .ok (.invokevirtual 142, 3) := by decide +kernel
theorem dX9_drawn_4 : decode cX9_drawn 4 = .ok (.ifCond .ne 6, 3) := by decide +kernel
theorem dX9_drawn_7 : decode cX9_drawn 7 = .ok (.ldc 145, 2) := by decide +kernel
theorem dX9_drawn_9 : decode cX9_drawn 9 = .ok (.ireturn, 1) := by decide +kernel
theorem dX9_drawn_10 : decode cX9_drawn 10 = .ok (.iload_n 1, 1) := by decide +kernel
theorem dX9_drawn_11 : decode cX9_drawn 11 = .ok (.ifCond .lt 30, 3) := by decide +kernel
theorem dX9_drawn_14 : decode cX9_drawn 14 = .ok (.iload_n 1, 1) := by decide +kernel
theorem dX9_drawn_15 : decode cX9_drawn 15 = .ok (.bipush 60, 2) := by decide +kernel
theorem dX9_drawn_17 : decode cX9_drawn 17 = .ok (.if_icmp .gt 24, 3) := by decide +kernel
theorem dX9_drawn_20 : decode cX9_drawn 20 = .ok (.iload_n 2, 1) := by decide +kernel
theorem dX9_drawn_21 : decode cX9_drawn 21 = .ok (.iconst 1, 1) := by decide +kernel
theorem dX9_drawn_22 : decode cX9_drawn 22 = .ok (.if_icmp .lt 19, 3) := by decide +kernel
theorem dX9_drawn_25 : decode cX9_drawn 25 = .ok (.iload_n 2, 1) := by decide +kernel
theorem dX9_drawn_26 : decode cX9_drawn 26 = .ok (.ldc_w 276, 3) := by decide +kernel
theorem dX9_drawn_29 : decode cX9_drawn 29 = .ok (.if_icmp .gt 12, 3) := by decide +kernel
theorem dX9_drawn_32 : decode cX9_drawn 32 = .ok (.iload_n 3, 1) := by decide +kernel
theorem dX9_drawn_33 : decode cX9_drawn 33 = .ok (.ifCond .lt 8, 3) := by decide +kernel
theorem dX9_drawn_36 : decode cX9_drawn 36 = .ok (.iload_n 3, 1) := by decide +kernel
theorem dX9_drawn_37 : decode cX9_drawn 37 = .ok (.iconst 1, 1) := by decide +kernel
theorem dX9_drawn_38 : decode cX9_drawn 38 = .ok (.if_icmp .le 6, 3) := by decide +kernel
theorem dX9_drawn_41 : decode cX9_drawn 41 = .ok (.ldc 73, 2) := by decide +kernel
theorem dX9_drawn_43 : decode cX9_drawn 43 = .ok (.ireturn, 1) := by decide +kernel
theorem dX9_drawn_44 : decode cX9_drawn 44 = .ok (.aload_n 0, 1) := by decide +kernel
theorem dX9_drawn_45 : decode cX9_drawn 45 = .ok (.getfield 52, 3) := by decide +kernel
theorem dX9_drawn_48 : decode cX9_drawn 48 = .ok (.aload_n 0, 1) := by decide +kernel
theorem dX9_drawn_49 : decode cX9_drawn 49 = .ok (.getfield 25, 3) := by decide +kernel
theorem dX9_drawn_52 : decode cX9_drawn 52 = .ok (.aload_n 0, 1) := by decide +kernel
theorem dX9_drawn_53 : decode cX9_drawn 53 = .ok (.getfield 32, 3) := by decide +kernel
theorem dX9_drawn_56 : decode cX9_drawn 56 = .ok (.iload_n 1, 1) := by decide +kernel
theorem dX9_drawn_57 : decode cX9_drawn 57 = .ok (.iload_n 2, 1) := by decide +kernel
theorem dX9_drawn_58 : decode cX9_drawn 58 = .ok (.invokevirtual 277, 3) := by decide +kernel
theorem dX9_drawn_61 : decode cX9_drawn 61 = .ok (.istore 4, 2) := by decide +kernel
theorem dX9_drawn_63 : decode cX9_drawn 63 = .ok (.iload_n 3, 1) := by decide +kernel
theorem dX9_drawn_64 : decode cX9_drawn 64 = .ok (.ifCond .ne 8, 3) := by decide +kernel
theorem dX9_drawn_67 : decode cX9_drawn 67 = .ok (.iload 4, 2) := by decide +kernel
theorem dX9_drawn_69 : decode cX9_drawn 69 = .ok (.goto 13, 3) := by decide +kernel
theorem dX9_drawn_72 : decode cX9_drawn 72 = .ok (.aload_n 0, 1) := by decide +kernel
theorem dX9_drawn_73 : decode cX9_drawn 73 = .ok (.getfield 52, 3) := by decide +kernel
theorem dX9_drawn_76 : decode cX9_drawn 76 = .ok (.getfield 281, 3) := by decide +kernel
theorem dX9_drawn_79 : decode cX9_drawn 79 = .ok (.invokevirtual 160, 3) := by decide +kernel
theorem dX9_drawn_82 : decode cX9_drawn 82 = .ok (.ireturn, 1) := by decide +kernel
theorem dX9_image_0 : decode cX9_image 0 = .ok (.iload_n 1, 1) := by decide +kernel
theorem dX9_image_1 : decode cX9_image 1 = .ok (.ifCond .lt 12, 3) := by decide +kernel
theorem dX9_image_4 : decode cX9_image 4 = .ok (.iload_n 1, 1) := by decide +kernel
theorem dX9_image_5 : decode cX9_image 5 = .ok (.aload_n 0, 1) := by decide +kernel
theorem dX9_image_6 : decode cX9_image 6 = .ok (.getfield 45, 3) := by decide +kernel
theorem dX9_image_9 : decode cX9_image 9 = .ok (.arraylength, 1) := by decide +kernel
theorem dX9_image_10 : decode cX9_image 10 = .ok (.if_icmp .lt 6, 3) := by decide +kernel
theorem dX9_image_13 : decode cX9_image 13 = .ok (.ldc 73, 2) := by decide +kernel
theorem dX9_image_15 : decode cX9_image 15 = .ok (.ireturn, 1) := by decide +kernel
theorem dX9_image_16 : decode cX9_image 16 = .ok (.aload_n 0, 1) := by decide +kernel
theorem dX9_image_17 : decode cX9_image 17 = .ok (.invokevirtual 142, 3) := by decide +kernel
theorem dX9_image_20 : decode cX9_image 20 = .ok (.ifCond .ne 6, 3) := by decide +kernel
theorem dX9_image_23 : decode cX9_image 23 = .ok (.ldc 145, 2) := by decide +kernel
theorem dX9_image_25 : decode cX9_image 25 = .ok (.ireturn, 1) := by decide +kernel
theorem dX9_image_26 : decode cX9_image 26 = .ok (.aload_n 0, 1) := by decide +kernel
theorem dX9_image_27 : decode cX9_image 27 = .ok (.getfield 45, 3) := by decide +kernel
theorem dX9_image_30 : decode cX9_image 30 = .ok (.iload_n 1, 1) := by decide +kernel
theorem dX9_image_31 : decode cX9_image 31 = .ok (.aaload, 1) := by decide +kernel
theorem dX9_image_32 : decode cX9_image 32 = .ok (.aload_n 0, 1) := by decide +kernel
theorem dX9_image_33 : decode cX9_image 33 = .ok (.getfield 25, 3) := by decide +kernel
theorem dX9_image_36 : decode cX9_image 36 = .ok (.aload_n 0, 1) := by decide +kernel
theorem dX9_image_37 : decode cX9_image 37 = .ok (.getfield 32, 3) := by decide +kernel
theorem dX9_image_40 : decode cX9_image 40 = .ok (.invokevirtual 284, 3) := by decide +kernel
theorem dX9_image_43 : decode cX9_image 43 = .ok (.iconst 1, 1) := by decide +kernel
theorem dX9_image_44 : decode cX9_image 44 = .ok (.ireturn, 1) := by decide +kernel
theorem dX9_restore_0 : decode cX9_restore 0 = .ok (.iload_n 1, 1) := by decide +kernel
theorem dX9_restore_1 : decode cX9_restore 1 = .ok (.ifCond .lt 12, 3) := by decide +kernel
theorem dX9_restore_4 : decode cX9_restore 4 = .ok (.iload_n 1, 1) := by decide +kernel
theorem dX9_restore_5 : decode cX9_restore 5 = .ok (.aload_n 0, 1) := by decide +kernel
theorem dX9_restore_6 : decode cX9_restore 6 = .ok (.getfield 45, 3) := by decide +kernel
theorem dX9_restore_9 : decode cX9_restore 9 = .ok (.arraylength, 1) := by decide +kernel
theorem dX9_restore_10 : decode cX9_restore 10 = .ok (.if_icmp .lt 6, 3) := by decide +kernel
theorem dX9_restore_13 : decode cX9_restore 13 = .ok (.ldc 73, 2) := by decide +kernel
theorem dX9_restore_15 : decode cX9_restore 15 = .ok (.ireturn, 1) := by decide +kernel
theorem dX9_restore_16 : decode cX9_restore 16 = .ok (.aload_n 0, 1) := by decide +kernel
theorem dX9_restore_17 : decode cX9_restore 17 = .ok (.getfield 45, 3) := by decide +kernel
theorem dX9_restore_20 : decode cX9_restore 20 = .ok (.iload_n 1, 1) := by decide +kernel
theorem dX9_restore_21 : decode cX9_restore 21 = .ok (.aaload, 1) := by decide +kernel
theorem dX9_restore_22 : decode cX9_restore 22 = .ok (.getfield 288, 3) := by decide +kernel
theorem dX9_restore_25 : decode cX9_restore 25 = .ok (.ifCond .ne 6, 3) := by decide +kernel
theorem dX9_restore_28 : decode cX9_restore 28 = .ok (.ldc 145, 2) := by decide +kernel
theorem dX9_restore_30 : decode cX9_restore 30 = .ok (.ireturn, 1) := by decide +kernel
theorem dX9_restore_31 : decode cX9_restore 31 = .ok (.aload_n 0, 1) := by decide +kernel
theorem dX9_restore_32 : decode cX9_restore 32 = .ok (.getfield 25, 3) := by decide +kernel
theorem dX9_restore_35 : decode cX9_restore 35 = .ok (.aload_n 0, 1) := by decide +kernel
theorem dX9_restore_36 : decode cX9_restore 36 = .ok (.getfield 45, 3) := by decide +kernel
theorem dX9_restore_39 : decode cX9_restore 39 = .ok (.iload_n 1, 1) := by decide +kernel
theorem dX9_restore_40 : decode cX9_restore 40 = .ok (.aaload, 1) := by decide +kernel
theorem dX9_restore_41 : decode cX9_restore 41 = .ok (.getfield 291, 3) := by decide +kernel
theorem dX9_restore_44 : decode cX9_restore 44 = .ok (.invokevirtual 125, 3) := by decide +kernel
theorem dX9_restore_47 : decode cX9_restore 47 = .ok (.aload_n 0, 1) := by decide +kernel
theorem dX9_restore_48 : decode cX9_restore 48 = .ok (.getfield 32, 3) := by decide +kernel
theorem dX9_restore_51 : decode cX9_restore 51 = .ok (.aload_n 0, 1) := by decide +kernel
theorem dX9_restore_52 : decode cX9_restore 52 = .ok (.getfield 45, 3) := by decide +kernel
theorem dX9_restore_55 : decode cX9_restore 55 = .ok (.iload_n 1, 1) := by decide +kernel
theorem dX9_restore_56 : decode cX9_restore 56 = .ok (.aaload, 1) := by decide +kernel
theorem dX9_restore_57 : decode cX9_restore 57 = .ok (.getfield 292, 3) := by decide +kernel
theorem dX9_restore_60 : decode cX9_restore 60 = .ok (.invokevirtual 130, 3) := by decide +kernel
theorem dX9_restore_63 : decode cX9_restore 63 = .ok (.aload_n 0, 1) := by decide +kernel
theorem dX9_restore_64 : decode cX9_restore 64 = .ok (.getfield 39, 3) := by decide +kernel
theorem dX9_restore_67 : decode cX9_restore 67 = .ok (.invokevirtual 133, 3) := by decide +kernel
theorem dX9_restore_70 : decode cX9_restore 70 = .ok (.iconst 1, 1) := by decide +kernel
theorem dX9_restore_71 : decode cX9_restore 71 = .ok (.ireturn, 1) := by decide +kernel
theorem dX9_kind_0 : decode cX9_kind 0 = .ok (.aload_n 0, 1) := by decide +kernel
theorem dX9_kind_1 : decode cX9_kind 1 = .ok (.getfield 32, 3) := by decide +kernel
theorem dX9_kind_4 : decode cX9_kind 4 = .ok (.iload_n 1, 1) := by decide +kernel
theorem dX9_kind_5 : decode cX9_kind 5 = .ok (.invokevirtual 170, 3) := by decide +kernel
theorem dX9_kind_8 : decode cX9_kind 8 = .ok (.ifCond .eq 18, 3) := by decide +kernel
theorem dX9_kind_11 : decode cX9_kind 11 = .ok (.aload_n 0, 1) := by decide +kernel
theorem dX9_kind_12 : decode cX9_kind 12 = .ok (.getfield 32, 3) := by decide +kernel
theorem dX9_kind_15 : decode cX9_kind 15 = .ok (.getfield 198, 3) := by decide +kernel
theorem dX9_kind_18 : decode cX9_kind 18 = .ok (.iload_n 1, 1) := by decide +kernel
theorem dX9_kind_19 : decode cX9_kind 19 = .ok (.aaload, 1) := by decide +kernel
theorem dX9_kind_20 : decode cX9_kind 20 = .ok (.getfield 293, 3) := by decide +kernel
theorem dX9_kind_23 : decode cX9_kind 23 = .ok (.goto 5, 3) := by decide +kernel
theorem dX9_kind_26 : decode cX9_kind 26 = .ok (.ldc 73, 2) := by decide +kernel
theorem dX9_kind_28 : decode cX9_kind 28 = .ok (.ireturn, 1) := by decide +kernel
theorem dX9_as_0 : decode cX9_as 0 = .ok (.aload_n 0, 1) := by decide +kernel
theorem dX9_as_1 : decode cX9_as 1 = .ok (.getfield 32, 3) := by decide +kernel
theorem dX9_as_4 : decode cX9_as 4 = .ok (.iload_n 1, 1) := by decide +kernel
theorem dX9_as_5 : decode cX9_as 5 = .ok (.invokevirtual 170, 3) := by decide +kernel
theorem dX9_as_8 : decode cX9_as 8 = .ok (.ifCond .eq 12, 3) := by decide +kernel
theorem dX9_as_11 : decode cX9_as 11 = .ok (.iload_n 2, 1) := by decide +kernel
theorem dX9_as_12 : decode cX9_as 12 = .ok (.ifCond .lt 8, 3) := by decide +kernel
theorem dX9_as_15 : decode cX9_as 15 = .ok (.iload_n 2, 1) := by decide +kernel
theorem dX9_as_16 : decode cX9_as 16 = .ok (.iconst 5, 1) := by decide +kernel
theorem dX9_as_17 : decode cX9_as 17 = .ok (.if_icmp .le 6, 3) := by decide +kernel
theorem dX9_as_20 : decode cX9_as 20 = .ok (.ldc 73, 2) := by decide +kernel
theorem dX9_as_22 : decode cX9_as 22 = .ok (.ireturn, 1) := by decide +kernel
theorem dX9_as_23 : decode cX9_as 23 = .ok (.aload_n 0, 1) := by decide +kernel
theorem dX9_as_24 : decode cX9_as 24 = .ok (.getfield 32, 3) := by decide +kernel
theorem dX9_as_27 : decode cX9_as 27 = .ok (.getfield 198, 3) := by decide +kernel
theorem dX9_as_30 : decode cX9_as 30 = .ok (.iload_n 1, 1) := by decide +kernel
theorem dX9_as_31 : decode cX9_as 31 = .ok (.aaload, 1) := by decide +kernel
theorem dX9_as_32 : decode cX9_as 32 = .ok (.iload_n 2, 1) := by decide +kernel
theorem dX9_as_33 : decode cX9_as 33 = .ok (.invokevirtual 296, 3) := by decide +kernel
theorem dX9_as_36 : decode cX9_as 36 = .ok (.ifCond .ne 9, 3) := by decide +kernel
theorem dX9_as_39 : decode cX9_as 39 = .ok (.aload_n 0, 1) := by decide +kernel
theorem dX9_as_40 : decode cX9_as 40 = .ok (.iconst 3, 1) := by decide +kernel
theorem dX9_as_41 : decode cX9_as 41 = .ok (.invokevirtual 74, 3) := by decide +kernel
theorem dX9_as_44 : decode cX9_as 44 = .ok (.ireturn, 1) := by decide +kernel
theorem dX9_as_45 : decode cX9_as 45 = .ok (.aload_n 0, 1) := by decide +kernel
theorem dX9_as_46 : decode cX9_as 46 = .ok (.iconst 0, 1) := by decide +kernel
theorem dX9_as_47 : decode cX9_as 47 = .ok (.putfield 63, 3) := by decide +kernel
theorem dX9_as_50 : decode cX9_as 50 = .ok (.iload_n 1, 1) := by decide +kernel
theorem dX9_as_51 : decode cX9_as 51 = .ok (.ireturn, 1) := by decide +kernel
theorem dX9_ask_0 : decode cX9_ask 0 = .ok (.aload_n 0, 1) := by decide +kernel
theorem dX9_ask_1 : decode cX9_ask 1 = .ok (.getfield 32, 3) := by decide +kernel
theorem dX9_ask_4 : decode cX9_ask 4 = .ok (.iload_n 1, 1) := by decide +kernel
theorem dX9_ask_5 : decode cX9_ask 5 = .ok (.invokevirtual 170, 3) := by decide +kernel
theorem dX9_ask_8 : decode cX9_ask 8 = .ok (.ifCond .eq 12, 3) := by decide +kernel
theorem dX9_ask_11 : decode cX9_ask 11 = .ok (.iload_n 2, 1) := by decide +kernel
theorem dX9_ask_12 : decode cX9_ask 12 = .ok (.ifCond .lt 8, 3) := by decide +kernel
theorem dX9_ask_15 : decode cX9_ask 15 = .ok (.iload_n 2, 1) := by decide +kernel
theorem dX9_ask_16 : decode cX9_ask 16 = .ok (.iconst 1, 1) := by decide +kernel
theorem dX9_ask_17 : decode cX9_ask 17 = .ok (.if_icmp .le 6, 3) := by decide +kernel
theorem dX9_ask_20 : decode cX9_ask 20 = .ok (.ldc 73, 2) := by decide +kernel
theorem dX9_ask_22 : decode cX9_ask 22 = .ok (.ireturn, 1) := by decide +kernel
theorem dX9_ask_23 : decode cX9_ask 23 = .ok (.aload_n 0, 1) := by decide +kernel
theorem dX9_ask_24 : decode cX9_ask 24 = .ok (.getfield 59, 3) := by decide +kernel
theorem dX9_ask_27 : decode cX9_ask 27 = .ok (.aload_n 0, 1) := by decide +kernel
theorem dX9_ask_28 : decode cX9_ask 28 = .ok (.getfield 32, 3) := by decide +kernel
theorem dX9_ask_31 : decode cX9_ask 31 = .ok (.getfield 198, 3) := by decide +kernel
theorem dX9_ask_34 : decode cX9_ask 34 = .ok (.iload_n 1, 1) := by decide +kernel
theorem dX9_ask_35 : decode cX9_ask 35 = .ok (.aaload, 1) := by decide +kernel
theorem dX9_ask_36 : decode cX9_ask 36 = .ok (.iload_n 1, 1) := by decide +kernel
theorem dX9_ask_37 : decode cX9_ask 37 = .ok (.iload_n 2, 1) := by decide +kernel
theorem dX9_ask_38 : decode cX9_ask 38 = .ok (.invokevirtual 299, 3) := by decide +kernel
theorem dX9_ask_41 : decode cX9_ask 41 = .ok (.ireturn, 1) := by decide +kernel
theorem dX9_trace_0 : decode cX9_trace 0 = .ok (.iload_n 1, 1) := by decide +kernel
theorem dX9_trace_1 : decode cX9_trace 1 = .ok (.ifCond .lt 26, 3) := by decide +kernel
theorem dX9_trace_4 : decode cX9_trace 4 = .ok (.iload_n 1, 1) := by decide +kernel
theorem dX9_trace_5 : decode cX9_trace 5 = .ok (.aload_n 0, 1) := by decide +kernel
theorem dX9_trace_6 : decode cX9_trace 6 = .ok (.getfield 59, 3) := by decide +kernel
theorem dX9_trace_9 : decode cX9_trace 9 = .ok (.getfield 303, 3) := by decide +kernel
theorem dX9_trace_12 : decode cX9_trace 12 = .ok (.if_icmp .ge 15, 3) := by decide +kernel
theorem dX9_trace_15 : decode cX9_trace 15 = .ok (.aload_n 0, 1) := by decide +kernel
theorem dX9_trace_16 : decode cX9_trace 16 = .ok (.getfield 59, 3) := by decide +kernel
theorem dX9_trace_19 : decode cX9_trace 19 = .ok (.getfield 306, 3) := by decide +kernel
theorem dX9_trace_22 : decode cX9_trace 22 = .ok (.iload_n 1, 1) := by decide +kernel
theorem dX9_trace_23 : decode cX9_trace 23 = .ok (.iaload, 1) := by decide +kernel
theorem dX9_trace_24 : decode cX9_trace 24 = .ok (.goto 5, 3) := by decide +kernel
theorem dX9_trace_27 : decode cX9_trace 27 = .ok (.ldc 215, 2) := by decide +kernel
theorem dX9_trace_29 : decode cX9_trace 29 = .ok (.ireturn, 1) := by decide +kernel
theorem dX9_count_0 : decode cX9_count 0 = .ok (.iload_n 1, 1) := by decide +kernel
theorem dX9_count_1 : decode cX9_count 1 = .ok (.tableswitch 120 0 8 #[51, 56, 64, 72, 80, 88, 96, 104, 112], 51) := by decide +kernel
theorem dX9_count_52 : decode cX9_count 52 = .ok (.aload_n 0, 1) := by decide +kernel
theorem dX9_count_53 : decode cX9_count 53 = .ok (.invokevirtual 309, 3) := by decide +kernel
theorem dX9_count_56 : decode cX9_count 56 = .ok (.ireturn, 1) := by decide +kernel
theorem dX9_count_57 : decode cX9_count 57 = .ok (.aload_n 0, 1) := by decide +kernel
theorem dX9_count_58 : decode cX9_count 58 = .ok (.getfield 25, 3) := by decide +kernel
theorem dX9_count_61 : decode cX9_count 61 = .ok (.getfield 312, 3) := by decide +kernel
theorem dX9_count_64 : decode cX9_count 64 = .ok (.ireturn, 1) := by decide +kernel
theorem dX9_count_65 : decode cX9_count 65 = .ok (.aload_n 0, 1) := by decide +kernel
theorem dX9_count_66 : decode cX9_count 66 = .ok (.getfield 32, 3) := by decide +kernel
theorem dX9_count_69 : decode cX9_count 69 = .ok (.getfield 136, 3) := by decide +kernel
theorem dX9_count_72 : decode cX9_count 72 = .ok (.ireturn, 1) := by decide +kernel
theorem dX9_count_73 : decode cX9_count 73 = .ok (.aload_n 0, 1) := by decide +kernel
theorem dX9_count_74 : decode cX9_count 74 = .ok (.getfield 32, 3) := by decide +kernel
theorem dX9_count_77 : decode cX9_count 77 = .ok (.getfield 173, 3) := by decide +kernel
theorem dX9_count_80 : decode cX9_count 80 = .ok (.ireturn, 1) := by decide +kernel
theorem dX9_count_81 : decode cX9_count 81 = .ok (.aload_n 0, 1) := by decide +kernel
theorem dX9_count_82 : decode cX9_count 82 = .ok (.getfield 32, 3) := by decide +kernel
theorem dX9_count_85 : decode cX9_count 85 = .ok (.invokevirtual 160, 3) := by decide +kernel
theorem dX9_count_88 : decode cX9_count 88 = .ok (.ireturn, 1) := by decide +kernel
theorem dX9_count_89 : decode cX9_count 89 = .ok (.aload_n 0, 1) := by decide +kernel
theorem dX9_count_90 : decode cX9_count 90 = .ok (.getfield 32, 3) := by decide +kernel
theorem dX9_count_93 : decode cX9_count 93 = .ok (.getfield 313, 3) := by decide +kernel
theorem dX9_count_96 : decode cX9_count 96 = .ok (.ireturn, 1) := by decide +kernel
theorem dX9_count_97 : decode cX9_count 97 = .ok (.aload_n 0, 1) := by decide +kernel
theorem dX9_count_98 : decode cX9_count 98 = .ok (.getfield 32, 3) := by decide +kernel
theorem dX9_count_101 : decode cX9_count 101 = .ok (.invokevirtual 316, 3) := by decide +kernel
theorem dX9_count_104 : decode cX9_count 104 = .ok (.ireturn, 1) := by decide +kernel
theorem dX9_count_105 : decode cX9_count 105 = .ok (.aload_n 0, 1) := by decide +kernel
theorem dX9_count_106 : decode cX9_count 106 = .ok (.getfield 39, 3) := by decide +kernel
theorem dX9_count_109 : decode cX9_count 109 = .ok (.getfield 195, 3) := by decide +kernel
theorem dX9_count_112 : decode cX9_count 112 = .ok (.ireturn, 1) := by decide +kernel
theorem dX9_count_113 : decode cX9_count 113 = .ok (.aload_n 0, 1) := by decide +kernel
theorem dX9_count_114 : decode cX9_count 114 = .ok (.getfield 18, 3) := by decide +kernel
theorem dX9_count_117 : decode cX9_count 117 = .ok (.getfield 112, 3) := by decide +kernel
theorem dX9_count_120 : decode cX9_count 120 = .ok (.ireturn, 1) := by decide +kernel
theorem dX9_count_121 : decode cX9_count 121 = .ok (.ldc 73, 2) := by decide +kernel
theorem dX9_count_123 : decode cX9_count 123 = .ok (.ireturn, 1) := by decide +kernel
theorem dX9_status_0 : decode cX9_status 0 = .ok (.aload_n 0, 1) := by decide +kernel
theorem dX9_status_1 : decode cX9_status 1 = .ok (.getfield 63, 3) := by decide +kernel
theorem dX9_status_4 : decode cX9_status 4 = .ok (.ireturn, 1) := by decide +kernel
theorem dX9_found_0 : decode cX9_found 0 = .ok (.aload_n 0, 1) := by decide +kernel
theorem dX9_found_1 : decode cX9_found 1 = .ok (.iload_n 1, 1) := by decide +kernel
theorem dX9_found_2 : decode cX9_found 2 = .ok (.putfield 63, 3) := by decide +kernel
theorem dX9_found_5 : decode cX9_found 5 = .ok (.ldc_w 319, 3) := by decide +kernel
theorem dX9_found_8 : decode cX9_found 8 = .ok (.iload_n 1, 1) := by decide +kernel
theorem dX9_found_9 : decode cX9_found 9 = .ok (.isub, 1) := by decide +kernel
theorem dX9_found_10 : decode cX9_found 10 = .ok (.ireturn, 1) := by decide +kernel
theorem dX9_actDone_0 : decode cX9_actDone 0 = .ok (.iload_n 1, 1) := by decide +kernel
theorem dX9_actDone_1 : decode cX9_actDone 1 = .ok (.ifCond .eq 10, 3) := by decide +kernel
theorem dX9_actDone_4 : decode cX9_actDone 4 = .ok (.aload_n 0, 1) := by decide +kernel
theorem dX9_actDone_5 : decode cX9_actDone 5 = .ok (.getfield 39, 3) := by decide +kernel
theorem dX9_actDone_8 : decode cX9_actDone 8 = .ok (.invokevirtual 320, 3) := by decide +kernel
theorem dX9_actDone_11 : decode cX9_actDone 11 = .ok (.iload_n 1, 1) := by decide +kernel
theorem dX9_actDone_12 : decode cX9_actDone 12 = .ok (.ireturn, 1) := by decide +kernel
theorem dX9_stands_0 : decode cX9_stands 0 = .ok (.aload_n 0, 1) := by decide +kernel
theorem dX9_stands_1 : decode cX9_stands 1 = .ok (.getfield 25, 3) := by decide +kernel
theorem dX9_stands_4 : decode cX9_stands 4 = .ok (.getfield 312, 3) := by decide +kernel
theorem dX9_stands_7 : decode cX9_stands 7 = .ok (.ifCond .le 7, 3) := by decide +kernel
theorem dX9_stands_10 : decode cX9_stands 10 = .ok (.iconst 1, 1) := by decide +kernel
theorem dX9_stands_11 : decode cX9_stands 11 = .ok (.goto 4, 3) := by decide +kernel
theorem dX9_stands_14 : decode cX9_stands 14 = .ok (.iconst 0, 1) := by decide +kernel
theorem dX9_stands_15 : decode cX9_stands 15 = .ok (.ireturn, 1) := by decide +kernel
theorem dX9_rowsThere_0 : decode cX9_rowsThere 0 = .ok (.iconst 0, 1) := by decide +kernel
theorem dX9_rowsThere_1 : decode cX9_rowsThere 1 = .ok (.istore_n 1, 1) := by decide +kernel
theorem dX9_rowsThere_2 : decode cX9_rowsThere 2 = .ok (.iconst 0, 1) := by decide +kernel
theorem dX9_rowsThere_3 : decode cX9_rowsThere 3 = .ok (.istore_n 2, 1) := by decide +kernel
theorem dX9_rowsThere_4 : decode cX9_rowsThere 4 = .ok (.iload_n 2, 1) := by decide +kernel
theorem dX9_rowsThere_5 : decode cX9_rowsThere 5 = .ok (.aload_n 0, 1) := by decide +kernel
theorem dX9_rowsThere_6 : decode cX9_rowsThere 6 = .ok (.getfield 11, 3) := by decide +kernel
theorem dX9_rowsThere_9 : decode cX9_rowsThere 9 = .ok (.arraylength, 1) := by decide +kernel
theorem dX9_rowsThere_10 : decode cX9_rowsThere 10 = .ok (.if_icmp .ge 24, 3) := by decide +kernel
theorem dX9_rowsThere_13 : decode cX9_rowsThere 13 = .ok (.aload_n 0, 1) := by decide +kernel
theorem dX9_rowsThere_14 : decode cX9_rowsThere 14 = .ok (.getfield 11, 3) := by decide +kernel
theorem dX9_rowsThere_17 : decode cX9_rowsThere 17 = .ok (.iload_n 2, 1) := by decide +kernel
theorem dX9_rowsThere_18 : decode cX9_rowsThere 18 = .ok (.aaload, 1) := by decide +kernel
theorem dX9_rowsThere_19 : decode cX9_rowsThere 19 = .ok (.getfield 82, 3) := by decide +kernel
theorem dX9_rowsThere_22 : decode cX9_rowsThere 22 = .ok (.ifCond .eq 6, 3) := by decide +kernel
theorem dX9_rowsThere_25 : decode cX9_rowsThere 25 = .ok (.iinc 1 1, 3) := by decide +kernel
theorem dX9_rowsThere_28 : decode cX9_rowsThere 28 = .ok (.iinc 2 1, 3) := by decide +kernel
theorem dX9_rowsThere_31 : decode cX9_rowsThere 31 = .ok (.goto (-27), 3) := by decide +kernel
theorem dX9_rowsThere_34 : decode cX9_rowsThere 34 = .ok (.iload_n 1, 1) := by decide +kernel
theorem dX9_rowsThere_35 : decode cX9_rowsThere 35 = .ok (.ireturn, 1) := by decide +kernel
theorem dX9_isRow_0 : decode cX9_isRow 0 = .ok (.iload_n 0, 1) := by decide +kernel
theorem dX9_isRow_1 : decode cX9_isRow 1 = .ok (.ifCond .lt 13, 3) := by decide +kernel
theorem dX9_isRow_4 : decode cX9_isRow 4 = .ok (.iload_n 0, 1) := by decide +kernel
theorem dX9_isRow_5 : decode cX9_isRow 5 = .ok (.bipush 8, 2) := by decide +kernel
theorem dX9_isRow_7 : decode cX9_isRow 7 = .ok (.if_icmp .ge 7, 3) := by decide +kernel
theorem dX9_isRow_10 : decode cX9_isRow 10 = .ok (.iconst 1, 1) := by decide +kernel
theorem dX9_isRow_11 : decode cX9_isRow 11 = .ok (.goto 4, 3) := by decide +kernel
theorem dX9_isRow_14 : decode cX9_isRow 14 = .ok (.iconst 0, 1) := by decide +kernel
theorem dX9_isRow_15 : decode cX9_isRow 15 = .ok (.ireturn, 1) := by decide +kernel
theorem dX9_isLinkNumber_0 : decode cX9_isLinkNumber 0 = .ok (.iload_n 0, 1) := by decide +kernel
theorem dX9_isLinkNumber_1 : decode cX9_isLinkNumber 1 = .ok (.ifCond .lt 12, 3) := by decide +kernel
theorem dX9_isLinkNumber_4 : decode cX9_isLinkNumber 4 = .ok (.iload_n 0, 1) := by decide +kernel
theorem dX9_isLinkNumber_5 : decode cX9_isLinkNumber 5 = .ok (.iconst 3, 1) := by decide +kernel
theorem dX9_isLinkNumber_6 : decode cX9_isLinkNumber 6 = .ok (.if_icmp .ge 7, 3) := by decide +kernel
theorem dX9_isLinkNumber_9 : decode cX9_isLinkNumber 9 = .ok (.iconst 1, 1) := by decide +kernel
theorem dX9_isLinkNumber_10 : decode cX9_isLinkNumber 10 = .ok (.goto 4, 3) := by decide +kernel
theorem dX9_isLinkNumber_13 : decode cX9_isLinkNumber 13 = .ok (.iconst 0, 1) := by decide +kernel
theorem dX9_isLinkNumber_14 : decode cX9_isLinkNumber 14 = .ok (.ireturn, 1) := by decide +kernel
theorem dX9_commonDivisor_0 : decode cX9_commonDivisor 0 = .ok (.iload_n 0, 1) := by decide +kernel
theorem dX9_commonDivisor_1 : decode cX9_commonDivisor 1 = .ok (.istore_n 2, 1) := by decide +kernel
theorem dX9_commonDivisor_2 : decode cX9_commonDivisor 2 = .ok (.iload_n 1, 1) := by decide +kernel
theorem dX9_commonDivisor_3 : decode cX9_commonDivisor 3 = .ok (.istore_n 3, 1) := by decide +kernel
theorem dX9_commonDivisor_4 : decode cX9_commonDivisor 4 = .ok (.iconst 0, 1) := by decide +kernel
theorem dX9_commonDivisor_5 : decode cX9_commonDivisor 5 = .ok (.istore 4, 2) := by decide +kernel
theorem dX9_commonDivisor_7 : decode cX9_commonDivisor 7 = .ok (.iload 4, 2) := by decide +kernel
theorem dX9_commonDivisor_9 : decode cX9_commonDivisor 9 = .ok (.bipush 64, 2) := by decide +kernel
theorem dX9_commonDivisor_11 : decode cX9_commonDivisor 11 = .ok (.if_icmp .ge 23, 3) := by decide +kernel
theorem dX9_commonDivisor_14 : decode cX9_commonDivisor 14 = .ok (.iload_n 3, 1) := by decide +kernel
theorem dX9_commonDivisor_15 : decode cX9_commonDivisor 15 = .ok (.ifCond .eq 19, 3) := by decide +kernel
theorem dX9_commonDivisor_18 : decode cX9_commonDivisor 18 = .ok (.iload_n 2, 1) := by decide +kernel
theorem dX9_commonDivisor_19 : decode cX9_commonDivisor 19 = .ok (.iload_n 3, 1) := by decide +kernel
theorem dX9_commonDivisor_20 : decode cX9_commonDivisor 20 = .ok (.irem, 1) := by decide +kernel
theorem dX9_commonDivisor_21 : decode cX9_commonDivisor 21 = .ok (.istore 5, 2) := by decide +kernel
theorem dX9_commonDivisor_23 : decode cX9_commonDivisor 23 = .ok (.iload_n 3, 1) := by decide +kernel
theorem dX9_commonDivisor_24 : decode cX9_commonDivisor 24 = .ok (.istore_n 2, 1) := by decide +kernel
theorem dX9_commonDivisor_25 : decode cX9_commonDivisor 25 = .ok (.iload 5, 2) := by decide +kernel
theorem dX9_commonDivisor_27 : decode cX9_commonDivisor 27 = .ok (.istore_n 3, 1) := by decide +kernel
theorem dX9_commonDivisor_28 : decode cX9_commonDivisor 28 = .ok (.iinc 4 1, 3) := by decide +kernel
theorem dX9_commonDivisor_31 : decode cX9_commonDivisor 31 = .ok (.goto (-24), 3) := by decide +kernel
theorem dX9_commonDivisor_34 : decode cX9_commonDivisor 34 = .ok (.iload_n 2, 1) := by decide +kernel
theorem dX9_commonDivisor_35 : decode cX9_commonDivisor 35 = .ok (.ireturn, 1) := by decide +kernel
theorem dL_law_0 : decode cL_law 0 = .ok (.new 7, 3) := by decide +kernel
theorem dL_law_3 : decode cL_law 3 = .ok (.dup, 1) := by decide +kernel
theorem dL_law_4 : decode cL_law 4 = .ok (.invokespecial 9, 3) := by decide +kernel
theorem dL_law_7 : decode cL_law 7 = .ok (.astore_n 1, 1) := by decide +kernel
theorem dL_law_8 : decode cL_law 8 = .ok (.new 10, 3) := by decide +kernel
theorem dL_law_11 : decode cL_law 11 = .ok (.dup, 1) := by decide +kernel
theorem dL_law_12 : decode cL_law 12 = .ok (.invokespecial 12, 3) := by decide +kernel
theorem dL_law_15 : decode cL_law 15 = .ok (.astore_n 2, 1) := by decide +kernel
theorem dL_law_16 : decode cL_law 16 = .ok (.iconst 0, 1) := by decide +kernel
theorem dL_law_17 : decode cL_law 17 = .ok (.istore_n 3, 1) := by decide +kernel
theorem dL_law_18 : decode cL_law 18 = .ok (.iload_n 3, 1) := by decide +kernel
theorem dL_law_19 : decode cL_law 19 = .ok (.aload_n 0, 1) := by decide +kernel
theorem dL_law_20 : decode cL_law 20 = .ok (.arraylength, 1) := by decide +kernel
theorem dL_law_21 : decode cL_law 21 = .ok (.bipush 6, 2) := by decide +kernel
theorem dL_law_23 : decode cL_law 23 = .ok (.isub, 1) := by decide +kernel
theorem dL_law_24 : decode cL_law 24 = .ok (.if_icmp .gt 1155, 3) := by decide +kernel
theorem dL_law_27 : decode cL_law 27 = .ok (.aload_n 0, 1) := by decide +kernel
theorem dL_law_28 : decode cL_law 28 = .ok (.iload_n 3, 1) := by decide +kernel
theorem dL_law_29 : decode cL_law 29 = .ok (.iaload, 1) := by decide +kernel
theorem dL_law_30 : decode cL_law 30 = .ok (.bipush 63, 2) := by decide +kernel
theorem dL_law_32 : decode cL_law 32 = .ok (.iand, 1) := by decide +kernel
theorem dL_law_33 : decode cL_law 33 = .ok (.tableswitch 1140 0 34 #[155, 198, 241, 304, 327, 350, 363, 376, 399, 412, 425, 448, 471, 484, 497, 510, 543, 576, 609, 642, 675, 698, 731, 764, 797, 860, 903, 946, 969, 992, 1015, 1048, 1081, 1104, 1127], 155) := by decide +kernel
theorem dL_law_188 : decode cL_law 188 = .ok (.aload_n 1, 1) := by decide +kernel
theorem dL_law_189 : decode cL_law 189 = .ok (.aload_n 0, 1) := by decide +kernel
theorem dL_law_190 : decode cL_law 190 = .ok (.iload_n 3, 1) := by decide +kernel
theorem dL_law_191 : decode cL_law 191 = .ok (.iconst 1, 1) := by decide +kernel
theorem dL_law_192 : decode cL_law 192 = .ok (.iadd, 1) := by decide +kernel
theorem dL_law_193 : decode cL_law 193 = .ok (.iaload, 1) := by decide +kernel
theorem dL_law_194 : decode cL_law 194 = .ok (.aload_n 0, 1) := by decide +kernel
theorem dL_law_195 : decode cL_law 195 = .ok (.iload_n 3, 1) := by decide +kernel
theorem dL_law_196 : decode cL_law 196 = .ok (.iconst 2, 1) := by decide +kernel
theorem dL_law_197 : decode cL_law 197 = .ok (.iadd, 1) := by decide +kernel
theorem dL_law_198 : decode cL_law 198 = .ok (.iaload, 1) := by decide +kernel
theorem dL_law_199 : decode cL_law 199 = .ok (.aload_n 0, 1) := by decide +kernel
theorem dL_law_200 : decode cL_law 200 = .ok (.iload_n 3, 1) := by decide +kernel
theorem dL_law_201 : decode cL_law 201 = .ok (.iconst 3, 1) := by decide +kernel
theorem dL_law_202 : decode cL_law 202 = .ok (.iadd, 1) := by decide +kernel
theorem dL_law_203 : decode cL_law 203 = .ok (.iaload, 1) := by decide +kernel
theorem dL_law_204 : decode cL_law 204 = .ok (.invokevirtual 13, 3) := by decide +kernel
theorem dL_law_207 : decode cL_law 207 = .ok (.aload_n 2, 1) := by decide +kernel
theorem dL_law_208 : decode cL_law 208 = .ok (.aload_n 0, 1) := by decide +kernel
theorem dL_law_209 : decode cL_law 209 = .ok (.iload_n 3, 1) := by decide +kernel
theorem dL_law_210 : decode cL_law 210 = .ok (.iconst 1, 1) := by decide +kernel
theorem dL_law_211 : decode cL_law 211 = .ok (.iadd, 1) := by decide +kernel
theorem dL_law_212 : decode cL_law 212 = .ok (.iaload, 1) := by decide +kernel
theorem dL_law_213 : decode cL_law 213 = .ok (.aload_n 0, 1) := by decide +kernel
theorem dL_law_214 : decode cL_law 214 = .ok (.iload_n 3, 1) := by decide +kernel
theorem dL_law_215 : decode cL_law 215 = .ok (.iconst 2, 1) := by decide +kernel
theorem dL_law_216 : decode cL_law 216 = .ok (.iadd, 1) := by decide +kernel
theorem dL_law_217 : decode cL_law 217 = .ok (.iaload, 1) := by decide +kernel
theorem dL_law_218 : decode cL_law 218 = .ok (.aload_n 0, 1) := by decide +kernel
theorem dL_law_219 : decode cL_law 219 = .ok (.iload_n 3, 1) := by decide +kernel
theorem dL_law_220 : decode cL_law 220 = .ok (.iconst 3, 1) := by decide +kernel
theorem dL_law_221 : decode cL_law 221 = .ok (.iadd, 1) := by decide +kernel
theorem dL_law_222 : decode cL_law 222 = .ok (.iaload, 1) := by decide +kernel
theorem dL_law_223 : decode cL_law 223 = .ok (.invokevirtual 17, 3) := by decide +kernel
theorem dL_law_226 : decode cL_law 226 = .ok (.if_icmp .eq 947, 3) := by decide +kernel
theorem dL_law_229 : decode cL_law 229 = .ok (.iconst 0, 1) := by decide +kernel
theorem dL_law_230 : decode cL_law 230 = .ok (.ireturn, 1) := by decide +kernel
theorem dL_law_231 : decode cL_law 231 = .ok (.aload_n 1, 1) := by decide +kernel
theorem dL_law_232 : decode cL_law 232 = .ok (.aload_n 0, 1) := by decide +kernel
theorem dL_law_233 : decode cL_law 233 = .ok (.iload_n 3, 1) := by decide +kernel
theorem dL_law_234 : decode cL_law 234 = .ok (.iconst 1, 1) := by decide +kernel
theorem dL_law_235 : decode cL_law 235 = .ok (.iadd, 1) := by decide +kernel
theorem dL_law_236 : decode cL_law 236 = .ok (.iaload, 1) := by decide +kernel
theorem dL_law_237 : decode cL_law 237 = .ok (.aload_n 0, 1) := by decide +kernel
theorem dL_law_238 : decode cL_law 238 = .ok (.iload_n 3, 1) := by decide +kernel
theorem dL_law_239 : decode cL_law 239 = .ok (.iconst 2, 1) := by decide +kernel
theorem dL_law_240 : decode cL_law 240 = .ok (.iadd, 1) := by decide +kernel
theorem dL_law_241 : decode cL_law 241 = .ok (.iaload, 1) := by decide +kernel
theorem dL_law_242 : decode cL_law 242 = .ok (.aload_n 0, 1) := by decide +kernel
theorem dL_law_243 : decode cL_law 243 = .ok (.iload_n 3, 1) := by decide +kernel
theorem dL_law_244 : decode cL_law 244 = .ok (.iconst 3, 1) := by decide +kernel
theorem dL_law_245 : decode cL_law 245 = .ok (.iadd, 1) := by decide +kernel
theorem dL_law_246 : decode cL_law 246 = .ok (.iaload, 1) := by decide +kernel
theorem dL_law_247 : decode cL_law 247 = .ok (.invokevirtual 18, 3) := by decide +kernel
theorem dL_law_250 : decode cL_law 250 = .ok (.aload_n 2, 1) := by decide +kernel
theorem dL_law_251 : decode cL_law 251 = .ok (.aload_n 0, 1) := by decide +kernel
theorem dL_law_252 : decode cL_law 252 = .ok (.iload_n 3, 1) := by decide +kernel
theorem dL_law_253 : decode cL_law 253 = .ok (.iconst 1, 1) := by decide +kernel
theorem dL_law_254 : decode cL_law 254 = .ok (.iadd, 1) := by decide +kernel
theorem dL_law_255 : decode cL_law 255 = .ok (.iaload, 1) := by decide +kernel
theorem dL_law_256 : decode cL_law 256 = .ok (.aload_n 0, 1) := by decide +kernel
theorem dL_law_257 : decode cL_law 257 = .ok (.iload_n 3, 1) := by decide +kernel
theorem dL_law_258 : decode cL_law 258 = .ok (.iconst 2, 1) := by decide +kernel
theorem dL_law_259 : decode cL_law 259 = .ok (.iadd, 1) := by decide +kernel
theorem dL_law_260 : decode cL_law 260 = .ok (.iaload, 1) := by decide +kernel
theorem dL_law_261 : decode cL_law 261 = .ok (.aload_n 0, 1) := by decide +kernel
theorem dL_law_262 : decode cL_law 262 = .ok (.iload_n 3, 1) := by decide +kernel
theorem dL_law_263 : decode cL_law 263 = .ok (.iconst 3, 1) := by decide +kernel
theorem dL_law_264 : decode cL_law 264 = .ok (.iadd, 1) := by decide +kernel
theorem dL_law_265 : decode cL_law 265 = .ok (.iaload, 1) := by decide +kernel
theorem dL_law_266 : decode cL_law 266 = .ok (.invokevirtual 21, 3) := by decide +kernel
theorem dL_law_269 : decode cL_law 269 = .ok (.if_icmp .eq 904, 3) := by decide +kernel
theorem dL_law_272 : decode cL_law 272 = .ok (.iconst 0, 1) := by decide +kernel
theorem dL_law_273 : decode cL_law 273 = .ok (.ireturn, 1) := by decide +kernel
theorem dL_law_274 : decode cL_law 274 = .ok (.aload_n 1, 1) := by decide +kernel
theorem dL_law_275 : decode cL_law 275 = .ok (.aload_n 0, 1) := by decide +kernel
theorem dL_law_276 : decode cL_law 276 = .ok (.iload_n 3, 1) := by decide +kernel
theorem dL_law_277 : decode cL_law 277 = .ok (.iconst 1, 1) := by decide +kernel
theorem dL_law_278 : decode cL_law 278 = .ok (.iadd, 1) := by decide +kernel
theorem dL_law_279 : decode cL_law 279 = .ok (.iaload, 1) := by decide +kernel
theorem dL_law_280 : decode cL_law 280 = .ok (.aload_n 0, 1) := by decide +kernel
theorem dL_law_281 : decode cL_law 281 = .ok (.iload_n 3, 1) := by decide +kernel
theorem dL_law_282 : decode cL_law 282 = .ok (.iconst 2, 1) := by decide +kernel
theorem dL_law_283 : decode cL_law 283 = .ok (.iadd, 1) := by decide +kernel
theorem dL_law_284 : decode cL_law 284 = .ok (.iaload, 1) := by decide +kernel
theorem dL_law_285 : decode cL_law 285 = .ok (.aload_n 0, 1) := by decide +kernel
theorem dL_law_286 : decode cL_law 286 = .ok (.iload_n 3, 1) := by decide +kernel
theorem dL_law_287 : decode cL_law 287 = .ok (.iconst 3, 1) := by decide +kernel
theorem dL_law_288 : decode cL_law 288 = .ok (.iadd, 1) := by decide +kernel
theorem dL_law_289 : decode cL_law 289 = .ok (.iaload, 1) := by decide +kernel
theorem dL_law_290 : decode cL_law 290 = .ok (.aload_n 0, 1) := by decide +kernel
theorem dL_law_291 : decode cL_law 291 = .ok (.iload_n 3, 1) := by decide +kernel
theorem dL_law_292 : decode cL_law 292 = .ok (.iconst 4, 1) := by decide +kernel
theorem dL_law_293 : decode cL_law 293 = .ok (.iadd, 1) := by decide +kernel
theorem dL_law_294 : decode cL_law 294 = .ok (.iaload, 1) := by decide +kernel
theorem dL_law_295 : decode cL_law 295 = .ok (.aload_n 0, 1) := by decide +kernel
theorem dL_law_296 : decode cL_law 296 = .ok (.iload_n 3, 1) := by decide +kernel
theorem dL_law_297 : decode cL_law 297 = .ok (.iconst 5, 1) := by decide +kernel
theorem dL_law_298 : decode cL_law 298 = .ok (.iadd, 1) := by decide +kernel
theorem dL_law_299 : decode cL_law 299 = .ok (.iaload, 1) := by decide +kernel
theorem dL_law_300 : decode cL_law 300 = .ok (.invokevirtual 22, 3) := by decide +kernel
theorem dL_law_303 : decode cL_law 303 = .ok (.aload_n 2, 1) := by decide +kernel
theorem dL_law_304 : decode cL_law 304 = .ok (.aload_n 0, 1) := by decide +kernel
theorem dL_law_305 : decode cL_law 305 = .ok (.iload_n 3, 1) := by decide +kernel
theorem dL_law_306 : decode cL_law 306 = .ok (.iconst 1, 1) := by decide +kernel
theorem dL_law_307 : decode cL_law 307 = .ok (.iadd, 1) := by decide +kernel
theorem dL_law_308 : decode cL_law 308 = .ok (.iaload, 1) := by decide +kernel
theorem dL_law_309 : decode cL_law 309 = .ok (.aload_n 0, 1) := by decide +kernel
theorem dL_law_310 : decode cL_law 310 = .ok (.iload_n 3, 1) := by decide +kernel
theorem dL_law_311 : decode cL_law 311 = .ok (.iconst 2, 1) := by decide +kernel
theorem dL_law_312 : decode cL_law 312 = .ok (.iadd, 1) := by decide +kernel
theorem dL_law_313 : decode cL_law 313 = .ok (.iaload, 1) := by decide +kernel
theorem dL_law_314 : decode cL_law 314 = .ok (.aload_n 0, 1) := by decide +kernel
theorem dL_law_315 : decode cL_law 315 = .ok (.iload_n 3, 1) := by decide +kernel
theorem dL_law_316 : decode cL_law 316 = .ok (.iconst 3, 1) := by decide +kernel
theorem dL_law_317 : decode cL_law 317 = .ok (.iadd, 1) := by decide +kernel
theorem dL_law_318 : decode cL_law 318 = .ok (.iaload, 1) := by decide +kernel
theorem dL_law_319 : decode cL_law 319 = .ok (.aload_n 0, 1) := by decide +kernel
theorem dL_law_320 : decode cL_law 320 = .ok (.iload_n 3, 1) := by decide +kernel
theorem dL_law_321 : decode cL_law 321 = .ok (.iconst 4, 1) := by decide +kernel
theorem dL_law_322 : decode cL_law 322 = .ok (.iadd, 1) := by decide +kernel
theorem dL_law_323 : decode cL_law 323 = .ok (.iaload, 1) := by decide +kernel
theorem dL_law_324 : decode cL_law 324 = .ok (.aload_n 0, 1) := by decide +kernel
theorem dL_law_325 : decode cL_law 325 = .ok (.iload_n 3, 1) := by decide +kernel
theorem dL_law_326 : decode cL_law 326 = .ok (.iconst 5, 1) := by decide +kernel
theorem dL_law_327 : decode cL_law 327 = .ok (.iadd, 1) := by decide +kernel
theorem dL_law_328 : decode cL_law 328 = .ok (.iaload, 1) := by decide +kernel
theorem dL_law_329 : decode cL_law 329 = .ok (.invokevirtual 26, 3) := by decide +kernel
theorem dL_law_332 : decode cL_law 332 = .ok (.if_icmp .eq 841, 3) := by decide +kernel
theorem dL_law_335 : decode cL_law 335 = .ok (.iconst 0, 1) := by decide +kernel
theorem dL_law_336 : decode cL_law 336 = .ok (.ireturn, 1) := by decide +kernel
theorem dL_law_337 : decode cL_law 337 = .ok (.aload_n 1, 1) := by decide +kernel
theorem dL_law_338 : decode cL_law 338 = .ok (.aload_n 0, 1) := by decide +kernel
theorem dL_law_339 : decode cL_law 339 = .ok (.iload_n 3, 1) := by decide +kernel
theorem dL_law_340 : decode cL_law 340 = .ok (.iconst 1, 1) := by decide +kernel
theorem dL_law_341 : decode cL_law 341 = .ok (.iadd, 1) := by decide +kernel
theorem dL_law_342 : decode cL_law 342 = .ok (.iaload, 1) := by decide +kernel
theorem dL_law_343 : decode cL_law 343 = .ok (.invokevirtual 27, 3) := by decide +kernel
theorem dL_law_346 : decode cL_law 346 = .ok (.aload_n 2, 1) := by decide +kernel
theorem dL_law_347 : decode cL_law 347 = .ok (.aload_n 0, 1) := by decide +kernel
theorem dL_law_348 : decode cL_law 348 = .ok (.iload_n 3, 1) := by decide +kernel
theorem dL_law_349 : decode cL_law 349 = .ok (.iconst 1, 1) := by decide +kernel
theorem dL_law_350 : decode cL_law 350 = .ok (.iadd, 1) := by decide +kernel
theorem dL_law_351 : decode cL_law 351 = .ok (.iaload, 1) := by decide +kernel
theorem dL_law_352 : decode cL_law 352 = .ok (.invokevirtual 31, 3) := by decide +kernel
theorem dL_law_355 : decode cL_law 355 = .ok (.if_icmp .eq 818, 3) := by decide +kernel
theorem dL_law_358 : decode cL_law 358 = .ok (.iconst 0, 1) := by decide +kernel
theorem dL_law_359 : decode cL_law 359 = .ok (.ireturn, 1) := by decide +kernel
theorem dL_law_360 : decode cL_law 360 = .ok (.aload_n 1, 1) := by decide +kernel
theorem dL_law_361 : decode cL_law 361 = .ok (.aload_n 0, 1) := by decide +kernel
theorem dL_law_362 : decode cL_law 362 = .ok (.iload_n 3, 1) := by decide +kernel
theorem dL_law_363 : decode cL_law 363 = .ok (.iconst 1, 1) := by decide +kernel
theorem dL_law_364 : decode cL_law 364 = .ok (.iadd, 1) := by decide +kernel
theorem dL_law_365 : decode cL_law 365 = .ok (.iaload, 1) := by decide +kernel
theorem dL_law_366 : decode cL_law 366 = .ok (.invokevirtual 32, 3) := by decide +kernel
theorem dL_law_369 : decode cL_law 369 = .ok (.aload_n 2, 1) := by decide +kernel
theorem dL_law_370 : decode cL_law 370 = .ok (.aload_n 0, 1) := by decide +kernel
theorem dL_law_371 : decode cL_law 371 = .ok (.iload_n 3, 1) := by decide +kernel
theorem dL_law_372 : decode cL_law 372 = .ok (.iconst 1, 1) := by decide +kernel
theorem dL_law_373 : decode cL_law 373 = .ok (.iadd, 1) := by decide +kernel
theorem dL_law_374 : decode cL_law 374 = .ok (.iaload, 1) := by decide +kernel
theorem dL_law_375 : decode cL_law 375 = .ok (.invokevirtual 35, 3) := by decide +kernel
theorem dL_law_378 : decode cL_law 378 = .ok (.if_icmp .eq 795, 3) := by decide +kernel
theorem dL_law_381 : decode cL_law 381 = .ok (.iconst 0, 1) := by decide +kernel
theorem dL_law_382 : decode cL_law 382 = .ok (.ireturn, 1) := by decide +kernel
theorem dL_law_383 : decode cL_law 383 = .ok (.aload_n 1, 1) := by decide +kernel
theorem dL_law_384 : decode cL_law 384 = .ok (.invokevirtual 36, 3) := by decide +kernel
theorem dL_law_387 : decode cL_law 387 = .ok (.aload_n 2, 1) := by decide +kernel
theorem dL_law_388 : decode cL_law 388 = .ok (.invokevirtual 40, 3) := by decide +kernel
theorem dL_law_391 : decode cL_law 391 = .ok (.if_icmp .eq 782, 3) := by decide +kernel
theorem dL_law_394 : decode cL_law 394 = .ok (.iconst 0, 1) := by decide +kernel
theorem dL_law_395 : decode cL_law 395 = .ok (.ireturn, 1) := by decide +kernel
theorem dL_law_396 : decode cL_law 396 = .ok (.aload_n 1, 1) := by decide +kernel
theorem dL_law_397 : decode cL_law 397 = .ok (.invokevirtual 41, 3) := by decide +kernel
theorem dL_law_400 : decode cL_law 400 = .ok (.aload_n 2, 1) := by decide +kernel
theorem dL_law_401 : decode cL_law 401 = .ok (.invokevirtual 44, 3) := by decide +kernel
theorem dL_law_404 : decode cL_law 404 = .ok (.if_icmp .eq 769, 3) := by decide +kernel
theorem dL_law_407 : decode cL_law 407 = .ok (.iconst 0, 1) := by decide +kernel
theorem dL_law_408 : decode cL_law 408 = .ok (.ireturn, 1) := by decide +kernel
theorem dL_law_409 : decode cL_law 409 = .ok (.aload_n 1, 1) := by decide +kernel
theorem dL_law_410 : decode cL_law 410 = .ok (.aload_n 0, 1) := by decide +kernel
theorem dL_law_411 : decode cL_law 411 = .ok (.iload_n 3, 1) := by decide +kernel
theorem dL_law_412 : decode cL_law 412 = .ok (.iconst 1, 1) := by decide +kernel
theorem dL_law_413 : decode cL_law 413 = .ok (.iadd, 1) := by decide +kernel
theorem dL_law_414 : decode cL_law 414 = .ok (.iaload, 1) := by decide +kernel
theorem dL_law_415 : decode cL_law 415 = .ok (.invokevirtual 45, 3) := by decide +kernel
theorem dL_law_418 : decode cL_law 418 = .ok (.aload_n 2, 1) := by decide +kernel
theorem dL_law_419 : decode cL_law 419 = .ok (.aload_n 0, 1) := by decide +kernel
theorem dL_law_420 : decode cL_law 420 = .ok (.iload_n 3, 1) := by decide +kernel
theorem dL_law_421 : decode cL_law 421 = .ok (.iconst 1, 1) := by decide +kernel
theorem dL_law_422 : decode cL_law 422 = .ok (.iadd, 1) := by decide +kernel
theorem dL_law_423 : decode cL_law 423 = .ok (.iaload, 1) := by decide +kernel
theorem dL_law_424 : decode cL_law 424 = .ok (.invokevirtual 48, 3) := by decide +kernel
theorem dL_law_427 : decode cL_law 427 = .ok (.if_icmp .eq 746, 3) := by decide +kernel
theorem dL_law_430 : decode cL_law 430 = .ok (.iconst 0, 1) := by decide +kernel
theorem dL_law_431 : decode cL_law 431 = .ok (.ireturn, 1) := by decide +kernel
theorem dL_law_432 : decode cL_law 432 = .ok (.aload_n 1, 1) := by decide +kernel
theorem dL_law_433 : decode cL_law 433 = .ok (.invokevirtual 49, 3) := by decide +kernel
theorem dL_law_436 : decode cL_law 436 = .ok (.aload_n 2, 1) := by decide +kernel
theorem dL_law_437 : decode cL_law 437 = .ok (.invokevirtual 52, 3) := by decide +kernel
theorem dL_law_440 : decode cL_law 440 = .ok (.if_icmp .eq 733, 3) := by decide +kernel
theorem dL_law_443 : decode cL_law 443 = .ok (.iconst 0, 1) := by decide +kernel
theorem dL_law_444 : decode cL_law 444 = .ok (.ireturn, 1) := by decide +kernel
theorem dL_law_445 : decode cL_law 445 = .ok (.aload_n 1, 1) := by decide +kernel
theorem dL_law_446 : decode cL_law 446 = .ok (.invokevirtual 53, 3) := by decide +kernel
theorem dL_law_449 : decode cL_law 449 = .ok (.aload_n 2, 1) := by decide +kernel
theorem dL_law_450 : decode cL_law 450 = .ok (.invokevirtual 56, 3) := by decide +kernel
theorem dL_law_453 : decode cL_law 453 = .ok (.if_icmp .eq 720, 3) := by decide +kernel
theorem dL_law_456 : decode cL_law 456 = .ok (.iconst 0, 1) := by decide +kernel
theorem dL_law_457 : decode cL_law 457 = .ok (.ireturn, 1) := by decide +kernel
theorem dL_law_458 : decode cL_law 458 = .ok (.aload_n 1, 1) := by decide +kernel
theorem dL_law_459 : decode cL_law 459 = .ok (.aload_n 0, 1) := by decide +kernel
theorem dL_law_460 : decode cL_law 460 = .ok (.iload_n 3, 1) := by decide +kernel
theorem dL_law_461 : decode cL_law 461 = .ok (.iconst 1, 1) := by decide +kernel
theorem dL_law_462 : decode cL_law 462 = .ok (.iadd, 1) := by decide +kernel
theorem dL_law_463 : decode cL_law 463 = .ok (.iaload, 1) := by decide +kernel
theorem dL_law_464 : decode cL_law 464 = .ok (.invokevirtual 57, 3) := by decide +kernel
theorem dL_law_467 : decode cL_law 467 = .ok (.aload_n 2, 1) := by decide +kernel
theorem dL_law_468 : decode cL_law 468 = .ok (.aload_n 0, 1) := by decide +kernel
theorem dL_law_469 : decode cL_law 469 = .ok (.iload_n 3, 1) := by decide +kernel
theorem dL_law_470 : decode cL_law 470 = .ok (.iconst 1, 1) := by decide +kernel
theorem dL_law_471 : decode cL_law 471 = .ok (.iadd, 1) := by decide +kernel
theorem dL_law_472 : decode cL_law 472 = .ok (.iaload, 1) := by decide +kernel
theorem dL_law_473 : decode cL_law 473 = .ok (.invokevirtual 60, 3) := by decide +kernel
theorem dL_law_476 : decode cL_law 476 = .ok (.if_icmp .eq 697, 3) := by decide +kernel
theorem dL_law_479 : decode cL_law 479 = .ok (.iconst 0, 1) := by decide +kernel
theorem dL_law_480 : decode cL_law 480 = .ok (.ireturn, 1) := by decide +kernel
theorem dL_law_481 : decode cL_law 481 = .ok (.aload_n 1, 1) := by decide +kernel
theorem dL_law_482 : decode cL_law 482 = .ok (.aload_n 0, 1) := by decide +kernel
theorem dL_law_483 : decode cL_law 483 = .ok (.iload_n 3, 1) := by decide +kernel
theorem dL_law_484 : decode cL_law 484 = .ok (.iconst 1, 1) := by decide +kernel
theorem dL_law_485 : decode cL_law 485 = .ok (.iadd, 1) := by decide +kernel
theorem dL_law_486 : decode cL_law 486 = .ok (.iaload, 1) := by decide +kernel
theorem dL_law_487 : decode cL_law 487 = .ok (.invokevirtual 61, 3) := by decide +kernel
theorem dL_law_490 : decode cL_law 490 = .ok (.aload_n 2, 1) := by decide +kernel
theorem dL_law_491 : decode cL_law 491 = .ok (.aload_n 0, 1) := by decide +kernel
theorem dL_law_492 : decode cL_law 492 = .ok (.iload_n 3, 1) := by decide +kernel
theorem dL_law_493 : decode cL_law 493 = .ok (.iconst 1, 1) := by decide +kernel
theorem dL_law_494 : decode cL_law 494 = .ok (.iadd, 1) := by decide +kernel
theorem dL_law_495 : decode cL_law 495 = .ok (.iaload, 1) := by decide +kernel
theorem dL_law_496 : decode cL_law 496 = .ok (.invokevirtual 64, 3) := by decide +kernel
theorem dL_law_499 : decode cL_law 499 = .ok (.if_icmp .eq 674, 3) := by decide +kernel
theorem dL_law_502 : decode cL_law 502 = .ok (.iconst 0, 1) := by decide +kernel
theorem dL_law_503 : decode cL_law 503 = .ok (.ireturn, 1) := by decide +kernel
theorem dL_law_504 : decode cL_law 504 = .ok (.aload_n 1, 1) := by decide +kernel
theorem dL_law_505 : decode cL_law 505 = .ok (.invokevirtual 65, 3) := by decide +kernel
theorem dL_law_508 : decode cL_law 508 = .ok (.aload_n 2, 1) := by decide +kernel
theorem dL_law_509 : decode cL_law 509 = .ok (.invokevirtual 68, 3) := by decide +kernel
theorem dL_law_512 : decode cL_law 512 = .ok (.if_icmp .eq 661, 3) := by decide +kernel
theorem dL_law_515 : decode cL_law 515 = .ok (.iconst 0, 1) := by decide +kernel
theorem dL_law_516 : decode cL_law 516 = .ok (.ireturn, 1) := by decide +kernel
theorem dL_law_517 : decode cL_law 517 = .ok (.aload_n 1, 1) := by decide +kernel
theorem dL_law_518 : decode cL_law 518 = .ok (.invokevirtual 69, 3) := by decide +kernel
theorem dL_law_521 : decode cL_law 521 = .ok (.aload_n 2, 1) := by decide +kernel
theorem dL_law_522 : decode cL_law 522 = .ok (.invokevirtual 72, 3) := by decide +kernel
theorem dL_law_525 : decode cL_law 525 = .ok (.if_icmp .eq 648, 3) := by decide +kernel
theorem dL_law_528 : decode cL_law 528 = .ok (.iconst 0, 1) := by decide +kernel
theorem dL_law_529 : decode cL_law 529 = .ok (.ireturn, 1) := by decide +kernel
theorem dL_law_530 : decode cL_law 530 = .ok (.aload_n 1, 1) := by decide +kernel
theorem dL_law_531 : decode cL_law 531 = .ok (.invokevirtual 73, 3) := by decide +kernel
theorem dL_law_534 : decode cL_law 534 = .ok (.aload_n 2, 1) := by decide +kernel
theorem dL_law_535 : decode cL_law 535 = .ok (.invokevirtual 76, 3) := by decide +kernel
theorem dL_law_538 : decode cL_law 538 = .ok (.if_icmp .eq 635, 3) := by decide +kernel
theorem dL_law_541 : decode cL_law 541 = .ok (.iconst 0, 1) := by decide +kernel
theorem dL_law_542 : decode cL_law 542 = .ok (.ireturn, 1) := by decide +kernel
theorem dL_law_543 : decode cL_law 543 = .ok (.aload_n 1, 1) := by decide +kernel
theorem dL_law_544 : decode cL_law 544 = .ok (.aload_n 0, 1) := by decide +kernel
theorem dL_law_545 : decode cL_law 545 = .ok (.iload_n 3, 1) := by decide +kernel
theorem dL_law_546 : decode cL_law 546 = .ok (.iconst 1, 1) := by decide +kernel
theorem dL_law_547 : decode cL_law 547 = .ok (.iadd, 1) := by decide +kernel
theorem dL_law_548 : decode cL_law 548 = .ok (.iaload, 1) := by decide +kernel
theorem dL_law_549 : decode cL_law 549 = .ok (.aload_n 0, 1) := by decide +kernel
theorem dL_law_550 : decode cL_law 550 = .ok (.iload_n 3, 1) := by decide +kernel
theorem dL_law_551 : decode cL_law 551 = .ok (.iconst 2, 1) := by decide +kernel
theorem dL_law_552 : decode cL_law 552 = .ok (.iadd, 1) := by decide +kernel
theorem dL_law_553 : decode cL_law 553 = .ok (.iaload, 1) := by decide +kernel
theorem dL_law_554 : decode cL_law 554 = .ok (.invokevirtual 77, 3) := by decide +kernel
theorem dL_law_557 : decode cL_law 557 = .ok (.aload_n 2, 1) := by decide +kernel
theorem dL_law_558 : decode cL_law 558 = .ok (.aload_n 0, 1) := by decide +kernel
theorem dL_law_559 : decode cL_law 559 = .ok (.iload_n 3, 1) := by decide +kernel
theorem dL_law_560 : decode cL_law 560 = .ok (.iconst 1, 1) := by decide +kernel
theorem dL_law_561 : decode cL_law 561 = .ok (.iadd, 1) := by decide +kernel
theorem dL_law_562 : decode cL_law 562 = .ok (.iaload, 1) := by decide +kernel
theorem dL_law_563 : decode cL_law 563 = .ok (.aload_n 0, 1) := by decide +kernel
theorem dL_law_564 : decode cL_law 564 = .ok (.iload_n 3, 1) := by decide +kernel
theorem dL_law_565 : decode cL_law 565 = .ok (.iconst 2, 1) := by decide +kernel
theorem dL_law_566 : decode cL_law 566 = .ok (.iadd, 1) := by decide +kernel
theorem dL_law_567 : decode cL_law 567 = .ok (.iaload, 1) := by decide +kernel
theorem dL_law_568 : decode cL_law 568 = .ok (.invokevirtual 81, 3) := by decide +kernel
theorem dL_law_571 : decode cL_law 571 = .ok (.if_icmp .eq 602, 3) := by decide +kernel
theorem dL_law_574 : decode cL_law 574 = .ok (.iconst 0, 1) := by decide +kernel
theorem dL_law_575 : decode cL_law 575 = .ok (.ireturn, 1) := by decide +kernel
theorem dL_law_576 : decode cL_law 576 = .ok (.aload_n 1, 1) := by decide +kernel
theorem dL_law_577 : decode cL_law 577 = .ok (.aload_n 0, 1) := by decide +kernel
theorem dL_law_578 : decode cL_law 578 = .ok (.iload_n 3, 1) := by decide +kernel
theorem dL_law_579 : decode cL_law 579 = .ok (.iconst 1, 1) := by decide +kernel
theorem dL_law_580 : decode cL_law 580 = .ok (.iadd, 1) := by decide +kernel
theorem dL_law_581 : decode cL_law 581 = .ok (.iaload, 1) := by decide +kernel
theorem dL_law_582 : decode cL_law 582 = .ok (.aload_n 0, 1) := by decide +kernel
theorem dL_law_583 : decode cL_law 583 = .ok (.iload_n 3, 1) := by decide +kernel
theorem dL_law_584 : decode cL_law 584 = .ok (.iconst 2, 1) := by decide +kernel
theorem dL_law_585 : decode cL_law 585 = .ok (.iadd, 1) := by decide +kernel
theorem dL_law_586 : decode cL_law 586 = .ok (.iaload, 1) := by decide +kernel
theorem dL_law_587 : decode cL_law 587 = .ok (.invokevirtual 82, 3) := by decide +kernel
theorem dL_law_590 : decode cL_law 590 = .ok (.aload_n 2, 1) := by decide +kernel
theorem dL_law_591 : decode cL_law 591 = .ok (.aload_n 0, 1) := by decide +kernel
theorem dL_law_592 : decode cL_law 592 = .ok (.iload_n 3, 1) := by decide +kernel
theorem dL_law_593 : decode cL_law 593 = .ok (.iconst 1, 1) := by decide +kernel
theorem dL_law_594 : decode cL_law 594 = .ok (.iadd, 1) := by decide +kernel
theorem dL_law_595 : decode cL_law 595 = .ok (.iaload, 1) := by decide +kernel
theorem dL_law_596 : decode cL_law 596 = .ok (.aload_n 0, 1) := by decide +kernel
theorem dL_law_597 : decode cL_law 597 = .ok (.iload_n 3, 1) := by decide +kernel
theorem dL_law_598 : decode cL_law 598 = .ok (.iconst 2, 1) := by decide +kernel
theorem dL_law_599 : decode cL_law 599 = .ok (.iadd, 1) := by decide +kernel
theorem dL_law_600 : decode cL_law 600 = .ok (.iaload, 1) := by decide +kernel
theorem dL_law_601 : decode cL_law 601 = .ok (.invokevirtual 85, 3) := by decide +kernel
theorem dL_law_604 : decode cL_law 604 = .ok (.if_icmp .eq 569, 3) := by decide +kernel
theorem dL_law_607 : decode cL_law 607 = .ok (.iconst 0, 1) := by decide +kernel
theorem dL_law_608 : decode cL_law 608 = .ok (.ireturn, 1) := by decide +kernel
theorem dL_law_609 : decode cL_law 609 = .ok (.aload_n 1, 1) := by decide +kernel
theorem dL_law_610 : decode cL_law 610 = .ok (.aload_n 0, 1) := by decide +kernel
theorem dL_law_611 : decode cL_law 611 = .ok (.iload_n 3, 1) := by decide +kernel
theorem dL_law_612 : decode cL_law 612 = .ok (.iconst 1, 1) := by decide +kernel
theorem dL_law_613 : decode cL_law 613 = .ok (.iadd, 1) := by decide +kernel
theorem dL_law_614 : decode cL_law 614 = .ok (.iaload, 1) := by decide +kernel
theorem dL_law_615 : decode cL_law 615 = .ok (.aload_n 0, 1) := by decide +kernel
theorem dL_law_616 : decode cL_law 616 = .ok (.iload_n 3, 1) := by decide +kernel
theorem dL_law_617 : decode cL_law 617 = .ok (.iconst 2, 1) := by decide +kernel
theorem dL_law_618 : decode cL_law 618 = .ok (.iadd, 1) := by decide +kernel
theorem dL_law_619 : decode cL_law 619 = .ok (.iaload, 1) := by decide +kernel
theorem dL_law_620 : decode cL_law 620 = .ok (.invokevirtual 86, 3) := by decide +kernel
theorem dL_law_623 : decode cL_law 623 = .ok (.aload_n 2, 1) := by decide +kernel
theorem dL_law_624 : decode cL_law 624 = .ok (.aload_n 0, 1) := by decide +kernel
theorem dL_law_625 : decode cL_law 625 = .ok (.iload_n 3, 1) := by decide +kernel
theorem dL_law_626 : decode cL_law 626 = .ok (.iconst 1, 1) := by decide +kernel
theorem dL_law_627 : decode cL_law 627 = .ok (.iadd, 1) := by decide +kernel
theorem dL_law_628 : decode cL_law 628 = .ok (.iaload, 1) := by decide +kernel
theorem dL_law_629 : decode cL_law 629 = .ok (.aload_n 0, 1) := by decide +kernel
theorem dL_law_630 : decode cL_law 630 = .ok (.iload_n 3, 1) := by decide +kernel
theorem dL_law_631 : decode cL_law 631 = .ok (.iconst 2, 1) := by decide +kernel
theorem dL_law_632 : decode cL_law 632 = .ok (.iadd, 1) := by decide +kernel
theorem dL_law_633 : decode cL_law 633 = .ok (.iaload, 1) := by decide +kernel
theorem dL_law_634 : decode cL_law 634 = .ok (.invokevirtual 89, 3) := by decide +kernel
theorem dL_law_637 : decode cL_law 637 = .ok (.if_icmp .eq 536, 3) := by decide +kernel
theorem dL_law_640 : decode cL_law 640 = .ok (.iconst 0, 1) := by decide +kernel
theorem dL_law_641 : decode cL_law 641 = .ok (.ireturn, 1) := by decide +kernel
theorem dL_law_642 : decode cL_law 642 = .ok (.aload_n 1, 1) := by decide +kernel
theorem dL_law_643 : decode cL_law 643 = .ok (.aload_n 0, 1) := by decide +kernel
theorem dL_law_644 : decode cL_law 644 = .ok (.iload_n 3, 1) := by decide +kernel
theorem dL_law_645 : decode cL_law 645 = .ok (.iconst 1, 1) := by decide +kernel
theorem dL_law_646 : decode cL_law 646 = .ok (.iadd, 1) := by decide +kernel
theorem dL_law_647 : decode cL_law 647 = .ok (.iaload, 1) := by decide +kernel
theorem dL_law_648 : decode cL_law 648 = .ok (.aload_n 0, 1) := by decide +kernel
theorem dL_law_649 : decode cL_law 649 = .ok (.iload_n 3, 1) := by decide +kernel
theorem dL_law_650 : decode cL_law 650 = .ok (.iconst 2, 1) := by decide +kernel
theorem dL_law_651 : decode cL_law 651 = .ok (.iadd, 1) := by decide +kernel
theorem dL_law_652 : decode cL_law 652 = .ok (.iaload, 1) := by decide +kernel
theorem dL_law_653 : decode cL_law 653 = .ok (.invokevirtual 90, 3) := by decide +kernel
theorem dL_law_656 : decode cL_law 656 = .ok (.aload_n 2, 1) := by decide +kernel
theorem dL_law_657 : decode cL_law 657 = .ok (.aload_n 0, 1) := by decide +kernel
theorem dL_law_658 : decode cL_law 658 = .ok (.iload_n 3, 1) := by decide +kernel
theorem dL_law_659 : decode cL_law 659 = .ok (.iconst 1, 1) := by decide +kernel
theorem dL_law_660 : decode cL_law 660 = .ok (.iadd, 1) := by decide +kernel
theorem dL_law_661 : decode cL_law 661 = .ok (.iaload, 1) := by decide +kernel
theorem dL_law_662 : decode cL_law 662 = .ok (.aload_n 0, 1) := by decide +kernel
theorem dL_law_663 : decode cL_law 663 = .ok (.iload_n 3, 1) := by decide +kernel
theorem dL_law_664 : decode cL_law 664 = .ok (.iconst 2, 1) := by decide +kernel
theorem dL_law_665 : decode cL_law 665 = .ok (.iadd, 1) := by decide +kernel
theorem dL_law_666 : decode cL_law 666 = .ok (.iaload, 1) := by decide +kernel
theorem dL_law_667 : decode cL_law 667 = .ok (.invokevirtual 93, 3) := by decide +kernel
theorem dL_law_670 : decode cL_law 670 = .ok (.if_icmp .eq 503, 3) := by decide +kernel
theorem dL_law_673 : decode cL_law 673 = .ok (.iconst 0, 1) := by decide +kernel
theorem dL_law_674 : decode cL_law 674 = .ok (.ireturn, 1) := by decide +kernel
theorem dL_law_675 : decode cL_law 675 = .ok (.aload_n 1, 1) := by decide +kernel
theorem dL_law_676 : decode cL_law 676 = .ok (.aload_n 0, 1) := by decide +kernel
theorem dL_law_677 : decode cL_law 677 = .ok (.iload_n 3, 1) := by decide +kernel
theorem dL_law_678 : decode cL_law 678 = .ok (.iconst 1, 1) := by decide +kernel
theorem dL_law_679 : decode cL_law 679 = .ok (.iadd, 1) := by decide +kernel
theorem dL_law_680 : decode cL_law 680 = .ok (.iaload, 1) := by decide +kernel
theorem dL_law_681 : decode cL_law 681 = .ok (.aload_n 0, 1) := by decide +kernel
theorem dL_law_682 : decode cL_law 682 = .ok (.iload_n 3, 1) := by decide +kernel
theorem dL_law_683 : decode cL_law 683 = .ok (.iconst 2, 1) := by decide +kernel
theorem dL_law_684 : decode cL_law 684 = .ok (.iadd, 1) := by decide +kernel
theorem dL_law_685 : decode cL_law 685 = .ok (.iaload, 1) := by decide +kernel
theorem dL_law_686 : decode cL_law 686 = .ok (.invokevirtual 94, 3) := by decide +kernel
theorem dL_law_689 : decode cL_law 689 = .ok (.aload_n 2, 1) := by decide +kernel
theorem dL_law_690 : decode cL_law 690 = .ok (.aload_n 0, 1) := by decide +kernel
theorem dL_law_691 : decode cL_law 691 = .ok (.iload_n 3, 1) := by decide +kernel
theorem dL_law_692 : decode cL_law 692 = .ok (.iconst 1, 1) := by decide +kernel
theorem dL_law_693 : decode cL_law 693 = .ok (.iadd, 1) := by decide +kernel
theorem dL_law_694 : decode cL_law 694 = .ok (.iaload, 1) := by decide +kernel
theorem dL_law_695 : decode cL_law 695 = .ok (.aload_n 0, 1) := by decide +kernel
theorem dL_law_696 : decode cL_law 696 = .ok (.iload_n 3, 1) := by decide +kernel
theorem dL_law_697 : decode cL_law 697 = .ok (.iconst 2, 1) := by decide +kernel
theorem dL_law_698 : decode cL_law 698 = .ok (.iadd, 1) := by decide +kernel
theorem dL_law_699 : decode cL_law 699 = .ok (.iaload, 1) := by decide +kernel
theorem dL_law_700 : decode cL_law 700 = .ok (.invokevirtual 97, 3) := by decide +kernel
theorem dL_law_703 : decode cL_law 703 = .ok (.if_icmp .eq 470, 3) := by decide +kernel
theorem dL_law_706 : decode cL_law 706 = .ok (.iconst 0, 1) := by decide +kernel
theorem dL_law_707 : decode cL_law 707 = .ok (.ireturn, 1) := by decide +kernel
theorem dL_law_708 : decode cL_law 708 = .ok (.aload_n 1, 1) := by decide +kernel
theorem dL_law_709 : decode cL_law 709 = .ok (.aload_n 0, 1) := by decide +kernel
theorem dL_law_710 : decode cL_law 710 = .ok (.iload_n 3, 1) := by decide +kernel
theorem dL_law_711 : decode cL_law 711 = .ok (.iconst 1, 1) := by decide +kernel
theorem dL_law_712 : decode cL_law 712 = .ok (.iadd, 1) := by decide +kernel
theorem dL_law_713 : decode cL_law 713 = .ok (.iaload, 1) := by decide +kernel
theorem dL_law_714 : decode cL_law 714 = .ok (.invokevirtual 98, 3) := by decide +kernel
theorem dL_law_717 : decode cL_law 717 = .ok (.aload_n 2, 1) := by decide +kernel
theorem dL_law_718 : decode cL_law 718 = .ok (.aload_n 0, 1) := by decide +kernel
theorem dL_law_719 : decode cL_law 719 = .ok (.iload_n 3, 1) := by decide +kernel
theorem dL_law_720 : decode cL_law 720 = .ok (.iconst 1, 1) := by decide +kernel
theorem dL_law_721 : decode cL_law 721 = .ok (.iadd, 1) := by decide +kernel
theorem dL_law_722 : decode cL_law 722 = .ok (.iaload, 1) := by decide +kernel
theorem dL_law_723 : decode cL_law 723 = .ok (.invokevirtual 101, 3) := by decide +kernel
theorem dL_law_726 : decode cL_law 726 = .ok (.if_icmp .eq 447, 3) := by decide +kernel
theorem dL_law_729 : decode cL_law 729 = .ok (.iconst 0, 1) := by decide +kernel
theorem dL_law_730 : decode cL_law 730 = .ok (.ireturn, 1) := by decide +kernel
theorem dL_law_731 : decode cL_law 731 = .ok (.aload_n 1, 1) := by decide +kernel
theorem dL_law_732 : decode cL_law 732 = .ok (.aload_n 0, 1) := by decide +kernel
theorem dL_law_733 : decode cL_law 733 = .ok (.iload_n 3, 1) := by decide +kernel
theorem dL_law_734 : decode cL_law 734 = .ok (.iconst 1, 1) := by decide +kernel
theorem dL_law_735 : decode cL_law 735 = .ok (.iadd, 1) := by decide +kernel
theorem dL_law_736 : decode cL_law 736 = .ok (.iaload, 1) := by decide +kernel
theorem dL_law_737 : decode cL_law 737 = .ok (.aload_n 0, 1) := by decide +kernel
theorem dL_law_738 : decode cL_law 738 = .ok (.iload_n 3, 1) := by decide +kernel
theorem dL_law_739 : decode cL_law 739 = .ok (.iconst 2, 1) := by decide +kernel
theorem dL_law_740 : decode cL_law 740 = .ok (.iadd, 1) := by decide +kernel
theorem dL_law_741 : decode cL_law 741 = .ok (.iaload, 1) := by decide +kernel
theorem dL_law_742 : decode cL_law 742 = .ok (.invokevirtual 102, 3) := by decide +kernel
theorem dL_law_745 : decode cL_law 745 = .ok (.aload_n 2, 1) := by decide +kernel
theorem dL_law_746 : decode cL_law 746 = .ok (.aload_n 0, 1) := by decide +kernel
theorem dL_law_747 : decode cL_law 747 = .ok (.iload_n 3, 1) := by decide +kernel
theorem dL_law_748 : decode cL_law 748 = .ok (.iconst 1, 1) := by decide +kernel
theorem dL_law_749 : decode cL_law 749 = .ok (.iadd, 1) := by decide +kernel
theorem dL_law_750 : decode cL_law 750 = .ok (.iaload, 1) := by decide +kernel
theorem dL_law_751 : decode cL_law 751 = .ok (.aload_n 0, 1) := by decide +kernel
theorem dL_law_752 : decode cL_law 752 = .ok (.iload_n 3, 1) := by decide +kernel
theorem dL_law_753 : decode cL_law 753 = .ok (.iconst 2, 1) := by decide +kernel
theorem dL_law_754 : decode cL_law 754 = .ok (.iadd, 1) := by decide +kernel
theorem dL_law_755 : decode cL_law 755 = .ok (.iaload, 1) := by decide +kernel
theorem dL_law_756 : decode cL_law 756 = .ok (.invokevirtual 105, 3) := by decide +kernel
theorem dL_law_759 : decode cL_law 759 = .ok (.if_icmp .eq 414, 3) := by decide +kernel
theorem dL_law_762 : decode cL_law 762 = .ok (.iconst 0, 1) := by decide +kernel
theorem dL_law_763 : decode cL_law 763 = .ok (.ireturn, 1) := by decide +kernel
theorem dL_law_764 : decode cL_law 764 = .ok (.aload_n 1, 1) := by decide +kernel
theorem dL_law_765 : decode cL_law 765 = .ok (.aload_n 0, 1) := by decide +kernel
theorem dL_law_766 : decode cL_law 766 = .ok (.iload_n 3, 1) := by decide +kernel
theorem dL_law_767 : decode cL_law 767 = .ok (.iconst 1, 1) := by decide +kernel
theorem dL_law_768 : decode cL_law 768 = .ok (.iadd, 1) := by decide +kernel
theorem dL_law_769 : decode cL_law 769 = .ok (.iaload, 1) := by decide +kernel
theorem dL_law_770 : decode cL_law 770 = .ok (.aload_n 0, 1) := by decide +kernel
theorem dL_law_771 : decode cL_law 771 = .ok (.iload_n 3, 1) := by decide +kernel
theorem dL_law_772 : decode cL_law 772 = .ok (.iconst 2, 1) := by decide +kernel
theorem dL_law_773 : decode cL_law 773 = .ok (.iadd, 1) := by decide +kernel
theorem dL_law_774 : decode cL_law 774 = .ok (.iaload, 1) := by decide +kernel
theorem dL_law_775 : decode cL_law 775 = .ok (.invokevirtual 106, 3) := by decide +kernel
theorem dL_law_778 : decode cL_law 778 = .ok (.aload_n 2, 1) := by decide +kernel
theorem dL_law_779 : decode cL_law 779 = .ok (.aload_n 0, 1) := by decide +kernel
theorem dL_law_780 : decode cL_law 780 = .ok (.iload_n 3, 1) := by decide +kernel
theorem dL_law_781 : decode cL_law 781 = .ok (.iconst 1, 1) := by decide +kernel
theorem dL_law_782 : decode cL_law 782 = .ok (.iadd, 1) := by decide +kernel
theorem dL_law_783 : decode cL_law 783 = .ok (.iaload, 1) := by decide +kernel
theorem dL_law_784 : decode cL_law 784 = .ok (.aload_n 0, 1) := by decide +kernel
theorem dL_law_785 : decode cL_law 785 = .ok (.iload_n 3, 1) := by decide +kernel
theorem dL_law_786 : decode cL_law 786 = .ok (.iconst 2, 1) := by decide +kernel
theorem dL_law_787 : decode cL_law 787 = .ok (.iadd, 1) := by decide +kernel
theorem dL_law_788 : decode cL_law 788 = .ok (.iaload, 1) := by decide +kernel
theorem dL_law_789 : decode cL_law 789 = .ok (.invokevirtual 109, 3) := by decide +kernel
theorem dL_law_792 : decode cL_law 792 = .ok (.if_icmp .eq 381, 3) := by decide +kernel
theorem dL_law_795 : decode cL_law 795 = .ok (.iconst 0, 1) := by decide +kernel
theorem dL_law_796 : decode cL_law 796 = .ok (.ireturn, 1) := by decide +kernel
theorem dL_law_797 : decode cL_law 797 = .ok (.aload_n 1, 1) := by decide +kernel
theorem dL_law_798 : decode cL_law 798 = .ok (.aload_n 0, 1) := by decide +kernel
theorem dL_law_799 : decode cL_law 799 = .ok (.iload_n 3, 1) := by decide +kernel
theorem dL_law_800 : decode cL_law 800 = .ok (.iconst 1, 1) := by decide +kernel
theorem dL_law_801 : decode cL_law 801 = .ok (.iadd, 1) := by decide +kernel
theorem dL_law_802 : decode cL_law 802 = .ok (.iaload, 1) := by decide +kernel
theorem dL_law_803 : decode cL_law 803 = .ok (.aload_n 0, 1) := by decide +kernel
theorem dL_law_804 : decode cL_law 804 = .ok (.iload_n 3, 1) := by decide +kernel
theorem dL_law_805 : decode cL_law 805 = .ok (.iconst 2, 1) := by decide +kernel
theorem dL_law_806 : decode cL_law 806 = .ok (.iadd, 1) := by decide +kernel
theorem dL_law_807 : decode cL_law 807 = .ok (.iaload, 1) := by decide +kernel
theorem dL_law_808 : decode cL_law 808 = .ok (.invokevirtual 110, 3) := by decide +kernel
theorem dL_law_811 : decode cL_law 811 = .ok (.aload_n 2, 1) := by decide +kernel
theorem dL_law_812 : decode cL_law 812 = .ok (.aload_n 0, 1) := by decide +kernel
theorem dL_law_813 : decode cL_law 813 = .ok (.iload_n 3, 1) := by decide +kernel
theorem dL_law_814 : decode cL_law 814 = .ok (.iconst 1, 1) := by decide +kernel
theorem dL_law_815 : decode cL_law 815 = .ok (.iadd, 1) := by decide +kernel
theorem dL_law_816 : decode cL_law 816 = .ok (.iaload, 1) := by decide +kernel
theorem dL_law_817 : decode cL_law 817 = .ok (.aload_n 0, 1) := by decide +kernel
theorem dL_law_818 : decode cL_law 818 = .ok (.iload_n 3, 1) := by decide +kernel
theorem dL_law_819 : decode cL_law 819 = .ok (.iconst 2, 1) := by decide +kernel
theorem dL_law_820 : decode cL_law 820 = .ok (.iadd, 1) := by decide +kernel
theorem dL_law_821 : decode cL_law 821 = .ok (.iaload, 1) := by decide +kernel
theorem dL_law_822 : decode cL_law 822 = .ok (.invokevirtual 113, 3) := by decide +kernel
theorem dL_law_825 : decode cL_law 825 = .ok (.if_icmp .eq 348, 3) := by decide +kernel
theorem dL_law_828 : decode cL_law 828 = .ok (.iconst 0, 1) := by decide +kernel
theorem dL_law_829 : decode cL_law 829 = .ok (.ireturn, 1) := by decide +kernel
theorem dL_law_830 : decode cL_law 830 = .ok (.aload_n 1, 1) := by decide +kernel
theorem dL_law_831 : decode cL_law 831 = .ok (.aload_n 0, 1) := by decide +kernel
theorem dL_law_832 : decode cL_law 832 = .ok (.iload_n 3, 1) := by decide +kernel
theorem dL_law_833 : decode cL_law 833 = .ok (.iconst 1, 1) := by decide +kernel
theorem dL_law_834 : decode cL_law 834 = .ok (.iadd, 1) := by decide +kernel
theorem dL_law_835 : decode cL_law 835 = .ok (.iaload, 1) := by decide +kernel
theorem dL_law_836 : decode cL_law 836 = .ok (.aload_n 0, 1) := by decide +kernel
theorem dL_law_837 : decode cL_law 837 = .ok (.iload_n 3, 1) := by decide +kernel
theorem dL_law_838 : decode cL_law 838 = .ok (.iconst 2, 1) := by decide +kernel
theorem dL_law_839 : decode cL_law 839 = .ok (.iadd, 1) := by decide +kernel
theorem dL_law_840 : decode cL_law 840 = .ok (.iaload, 1) := by decide +kernel
theorem dL_law_841 : decode cL_law 841 = .ok (.aload_n 0, 1) := by decide +kernel
theorem dL_law_842 : decode cL_law 842 = .ok (.iload_n 3, 1) := by decide +kernel
theorem dL_law_843 : decode cL_law 843 = .ok (.iconst 3, 1) := by decide +kernel
theorem dL_law_844 : decode cL_law 844 = .ok (.iadd, 1) := by decide +kernel
theorem dL_law_845 : decode cL_law 845 = .ok (.iaload, 1) := by decide +kernel
theorem dL_law_846 : decode cL_law 846 = .ok (.aload_n 0, 1) := by decide +kernel
theorem dL_law_847 : decode cL_law 847 = .ok (.iload_n 3, 1) := by decide +kernel
theorem dL_law_848 : decode cL_law 848 = .ok (.iconst 4, 1) := by decide +kernel
theorem dL_law_849 : decode cL_law 849 = .ok (.iadd, 1) := by decide +kernel
theorem dL_law_850 : decode cL_law 850 = .ok (.iaload, 1) := by decide +kernel
theorem dL_law_851 : decode cL_law 851 = .ok (.aload_n 0, 1) := by decide +kernel
theorem dL_law_852 : decode cL_law 852 = .ok (.iload_n 3, 1) := by decide +kernel
theorem dL_law_853 : decode cL_law 853 = .ok (.iconst 5, 1) := by decide +kernel
theorem dL_law_854 : decode cL_law 854 = .ok (.iadd, 1) := by decide +kernel
theorem dL_law_855 : decode cL_law 855 = .ok (.iaload, 1) := by decide +kernel
theorem dL_law_856 : decode cL_law 856 = .ok (.invokevirtual 114, 3) := by decide +kernel
theorem dL_law_859 : decode cL_law 859 = .ok (.aload_n 2, 1) := by decide +kernel
theorem dL_law_860 : decode cL_law 860 = .ok (.aload_n 0, 1) := by decide +kernel
theorem dL_law_861 : decode cL_law 861 = .ok (.iload_n 3, 1) := by decide +kernel
theorem dL_law_862 : decode cL_law 862 = .ok (.iconst 1, 1) := by decide +kernel
theorem dL_law_863 : decode cL_law 863 = .ok (.iadd, 1) := by decide +kernel
theorem dL_law_864 : decode cL_law 864 = .ok (.iaload, 1) := by decide +kernel
theorem dL_law_865 : decode cL_law 865 = .ok (.aload_n 0, 1) := by decide +kernel
theorem dL_law_866 : decode cL_law 866 = .ok (.iload_n 3, 1) := by decide +kernel
theorem dL_law_867 : decode cL_law 867 = .ok (.iconst 2, 1) := by decide +kernel
theorem dL_law_868 : decode cL_law 868 = .ok (.iadd, 1) := by decide +kernel
theorem dL_law_869 : decode cL_law 869 = .ok (.iaload, 1) := by decide +kernel
theorem dL_law_870 : decode cL_law 870 = .ok (.aload_n 0, 1) := by decide +kernel
theorem dL_law_871 : decode cL_law 871 = .ok (.iload_n 3, 1) := by decide +kernel
theorem dL_law_872 : decode cL_law 872 = .ok (.iconst 3, 1) := by decide +kernel
theorem dL_law_873 : decode cL_law 873 = .ok (.iadd, 1) := by decide +kernel
theorem dL_law_874 : decode cL_law 874 = .ok (.iaload, 1) := by decide +kernel
theorem dL_law_875 : decode cL_law 875 = .ok (.aload_n 0, 1) := by decide +kernel
theorem dL_law_876 : decode cL_law 876 = .ok (.iload_n 3, 1) := by decide +kernel
theorem dL_law_877 : decode cL_law 877 = .ok (.iconst 4, 1) := by decide +kernel
theorem dL_law_878 : decode cL_law 878 = .ok (.iadd, 1) := by decide +kernel
theorem dL_law_879 : decode cL_law 879 = .ok (.iaload, 1) := by decide +kernel
theorem dL_law_880 : decode cL_law 880 = .ok (.aload_n 0, 1) := by decide +kernel
theorem dL_law_881 : decode cL_law 881 = .ok (.iload_n 3, 1) := by decide +kernel
theorem dL_law_882 : decode cL_law 882 = .ok (.iconst 5, 1) := by decide +kernel
theorem dL_law_883 : decode cL_law 883 = .ok (.iadd, 1) := by decide +kernel
theorem dL_law_884 : decode cL_law 884 = .ok (.iaload, 1) := by decide +kernel
theorem dL_law_885 : decode cL_law 885 = .ok (.invokevirtual 117, 3) := by decide +kernel
theorem dL_law_888 : decode cL_law 888 = .ok (.if_icmp .eq 285, 3) := by decide +kernel
theorem dL_law_891 : decode cL_law 891 = .ok (.iconst 0, 1) := by decide +kernel
theorem dL_law_892 : decode cL_law 892 = .ok (.ireturn, 1) := by decide +kernel
theorem dL_law_893 : decode cL_law 893 = .ok (.aload_n 1, 1) := by decide +kernel
theorem dL_law_894 : decode cL_law 894 = .ok (.aload_n 0, 1) := by decide +kernel
theorem dL_law_895 : decode cL_law 895 = .ok (.iload_n 3, 1) := by decide +kernel
theorem dL_law_896 : decode cL_law 896 = .ok (.iconst 1, 1) := by decide +kernel
theorem dL_law_897 : decode cL_law 897 = .ok (.iadd, 1) := by decide +kernel
theorem dL_law_898 : decode cL_law 898 = .ok (.iaload, 1) := by decide +kernel
theorem dL_law_899 : decode cL_law 899 = .ok (.aload_n 0, 1) := by decide +kernel
theorem dL_law_900 : decode cL_law 900 = .ok (.iload_n 3, 1) := by decide +kernel
theorem dL_law_901 : decode cL_law 901 = .ok (.iconst 2, 1) := by decide +kernel
theorem dL_law_902 : decode cL_law 902 = .ok (.iadd, 1) := by decide +kernel
theorem dL_law_903 : decode cL_law 903 = .ok (.iaload, 1) := by decide +kernel
theorem dL_law_904 : decode cL_law 904 = .ok (.aload_n 0, 1) := by decide +kernel
theorem dL_law_905 : decode cL_law 905 = .ok (.iload_n 3, 1) := by decide +kernel
theorem dL_law_906 : decode cL_law 906 = .ok (.iconst 3, 1) := by decide +kernel
theorem dL_law_907 : decode cL_law 907 = .ok (.iadd, 1) := by decide +kernel
theorem dL_law_908 : decode cL_law 908 = .ok (.iaload, 1) := by decide +kernel
theorem dL_law_909 : decode cL_law 909 = .ok (.invokevirtual 118, 3) := by decide +kernel
theorem dL_law_912 : decode cL_law 912 = .ok (.aload_n 2, 1) := by decide +kernel
theorem dL_law_913 : decode cL_law 913 = .ok (.aload_n 0, 1) := by decide +kernel
theorem dL_law_914 : decode cL_law 914 = .ok (.iload_n 3, 1) := by decide +kernel
theorem dL_law_915 : decode cL_law 915 = .ok (.iconst 1, 1) := by decide +kernel
theorem dL_law_916 : decode cL_law 916 = .ok (.iadd, 1) := by decide +kernel
theorem dL_law_917 : decode cL_law 917 = .ok (.iaload, 1) := by decide +kernel
theorem dL_law_918 : decode cL_law 918 = .ok (.aload_n 0, 1) := by decide +kernel
theorem dL_law_919 : decode cL_law 919 = .ok (.iload_n 3, 1) := by decide +kernel
theorem dL_law_920 : decode cL_law 920 = .ok (.iconst 2, 1) := by decide +kernel
theorem dL_law_921 : decode cL_law 921 = .ok (.iadd, 1) := by decide +kernel
theorem dL_law_922 : decode cL_law 922 = .ok (.iaload, 1) := by decide +kernel
theorem dL_law_923 : decode cL_law 923 = .ok (.aload_n 0, 1) := by decide +kernel
theorem dL_law_924 : decode cL_law 924 = .ok (.iload_n 3, 1) := by decide +kernel
theorem dL_law_925 : decode cL_law 925 = .ok (.iconst 3, 1) := by decide +kernel
theorem dL_law_926 : decode cL_law 926 = .ok (.iadd, 1) := by decide +kernel
theorem dL_law_927 : decode cL_law 927 = .ok (.iaload, 1) := by decide +kernel
theorem dL_law_928 : decode cL_law 928 = .ok (.invokevirtual 121, 3) := by decide +kernel
theorem dL_law_931 : decode cL_law 931 = .ok (.if_icmp .eq 242, 3) := by decide +kernel
theorem dL_law_934 : decode cL_law 934 = .ok (.iconst 0, 1) := by decide +kernel
theorem dL_law_935 : decode cL_law 935 = .ok (.ireturn, 1) := by decide +kernel
theorem dL_law_936 : decode cL_law 936 = .ok (.aload_n 1, 1) := by decide +kernel
theorem dL_law_937 : decode cL_law 937 = .ok (.aload_n 0, 1) := by decide +kernel
theorem dL_law_938 : decode cL_law 938 = .ok (.iload_n 3, 1) := by decide +kernel
theorem dL_law_939 : decode cL_law 939 = .ok (.iconst 1, 1) := by decide +kernel
theorem dL_law_940 : decode cL_law 940 = .ok (.iadd, 1) := by decide +kernel
theorem dL_law_941 : decode cL_law 941 = .ok (.iaload, 1) := by decide +kernel
theorem dL_law_942 : decode cL_law 942 = .ok (.aload_n 0, 1) := by decide +kernel
theorem dL_law_943 : decode cL_law 943 = .ok (.iload_n 3, 1) := by decide +kernel
theorem dL_law_944 : decode cL_law 944 = .ok (.iconst 2, 1) := by decide +kernel
theorem dL_law_945 : decode cL_law 945 = .ok (.iadd, 1) := by decide +kernel
theorem dL_law_946 : decode cL_law 946 = .ok (.iaload, 1) := by decide +kernel
theorem dL_law_947 : decode cL_law 947 = .ok (.aload_n 0, 1) := by decide +kernel
theorem dL_law_948 : decode cL_law 948 = .ok (.iload_n 3, 1) := by decide +kernel
theorem dL_law_949 : decode cL_law 949 = .ok (.iconst 3, 1) := by decide +kernel
theorem dL_law_950 : decode cL_law 950 = .ok (.iadd, 1) := by decide +kernel
theorem dL_law_951 : decode cL_law 951 = .ok (.iaload, 1) := by decide +kernel
theorem dL_law_952 : decode cL_law 952 = .ok (.invokevirtual 122, 3) := by decide +kernel
theorem dL_law_955 : decode cL_law 955 = .ok (.aload_n 2, 1) := by decide +kernel
theorem dL_law_956 : decode cL_law 956 = .ok (.aload_n 0, 1) := by decide +kernel
theorem dL_law_957 : decode cL_law 957 = .ok (.iload_n 3, 1) := by decide +kernel
theorem dL_law_958 : decode cL_law 958 = .ok (.iconst 1, 1) := by decide +kernel
theorem dL_law_959 : decode cL_law 959 = .ok (.iadd, 1) := by decide +kernel
theorem dL_law_960 : decode cL_law 960 = .ok (.iaload, 1) := by decide +kernel
theorem dL_law_961 : decode cL_law 961 = .ok (.aload_n 0, 1) := by decide +kernel
theorem dL_law_962 : decode cL_law 962 = .ok (.iload_n 3, 1) := by decide +kernel
theorem dL_law_963 : decode cL_law 963 = .ok (.iconst 2, 1) := by decide +kernel
theorem dL_law_964 : decode cL_law 964 = .ok (.iadd, 1) := by decide +kernel
theorem dL_law_965 : decode cL_law 965 = .ok (.iaload, 1) := by decide +kernel
theorem dL_law_966 : decode cL_law 966 = .ok (.aload_n 0, 1) := by decide +kernel
theorem dL_law_967 : decode cL_law 967 = .ok (.iload_n 3, 1) := by decide +kernel
theorem dL_law_968 : decode cL_law 968 = .ok (.iconst 3, 1) := by decide +kernel
theorem dL_law_969 : decode cL_law 969 = .ok (.iadd, 1) := by decide +kernel
theorem dL_law_970 : decode cL_law 970 = .ok (.iaload, 1) := by decide +kernel
theorem dL_law_971 : decode cL_law 971 = .ok (.invokevirtual 125, 3) := by decide +kernel
theorem dL_law_974 : decode cL_law 974 = .ok (.if_icmp .eq 199, 3) := by decide +kernel
theorem dL_law_977 : decode cL_law 977 = .ok (.iconst 0, 1) := by decide +kernel
theorem dL_law_978 : decode cL_law 978 = .ok (.ireturn, 1) := by decide +kernel
theorem dL_law_979 : decode cL_law 979 = .ok (.aload_n 1, 1) := by decide +kernel
theorem dL_law_980 : decode cL_law 980 = .ok (.aload_n 0, 1) := by decide +kernel
theorem dL_law_981 : decode cL_law 981 = .ok (.iload_n 3, 1) := by decide +kernel
theorem dL_law_982 : decode cL_law 982 = .ok (.iconst 1, 1) := by decide +kernel
theorem dL_law_983 : decode cL_law 983 = .ok (.iadd, 1) := by decide +kernel
theorem dL_law_984 : decode cL_law 984 = .ok (.iaload, 1) := by decide +kernel
theorem dL_law_985 : decode cL_law 985 = .ok (.invokevirtual 126, 3) := by decide +kernel
theorem dL_law_988 : decode cL_law 988 = .ok (.aload_n 2, 1) := by decide +kernel
theorem dL_law_989 : decode cL_law 989 = .ok (.aload_n 0, 1) := by decide +kernel
theorem dL_law_990 : decode cL_law 990 = .ok (.iload_n 3, 1) := by decide +kernel
theorem dL_law_991 : decode cL_law 991 = .ok (.iconst 1, 1) := by decide +kernel
theorem dL_law_992 : decode cL_law 992 = .ok (.iadd, 1) := by decide +kernel
theorem dL_law_993 : decode cL_law 993 = .ok (.iaload, 1) := by decide +kernel
theorem dL_law_994 : decode cL_law 994 = .ok (.invokevirtual 129, 3) := by decide +kernel
theorem dL_law_997 : decode cL_law 997 = .ok (.if_icmp .eq 176, 3) := by decide +kernel
theorem dL_law_1000 : decode cL_law 1000 = .ok (.iconst 0, 1) := by decide +kernel
theorem dL_law_1001 : decode cL_law 1001 = .ok (.ireturn, 1) := by decide +kernel
theorem dL_law_1002 : decode cL_law 1002 = .ok (.aload_n 1, 1) := by decide +kernel
theorem dL_law_1003 : decode cL_law 1003 = .ok (.aload_n 0, 1) := by decide +kernel
theorem dL_law_1004 : decode cL_law 1004 = .ok (.iload_n 3, 1) := by decide +kernel
theorem dL_law_1005 : decode cL_law 1005 = .ok (.iconst 1, 1) := by decide +kernel
theorem dL_law_1006 : decode cL_law 1006 = .ok (.iadd, 1) := by decide +kernel
theorem dL_law_1007 : decode cL_law 1007 = .ok (.iaload, 1) := by decide +kernel
theorem dL_law_1008 : decode cL_law 1008 = .ok (.invokevirtual 130, 3) := by decide +kernel
theorem dL_law_1011 : decode cL_law 1011 = .ok (.aload_n 2, 1) := by decide +kernel
theorem dL_law_1012 : decode cL_law 1012 = .ok (.aload_n 0, 1) := by decide +kernel
theorem dL_law_1013 : decode cL_law 1013 = .ok (.iload_n 3, 1) := by decide +kernel
theorem dL_law_1014 : decode cL_law 1014 = .ok (.iconst 1, 1) := by decide +kernel
theorem dL_law_1015 : decode cL_law 1015 = .ok (.iadd, 1) := by decide +kernel
theorem dL_law_1016 : decode cL_law 1016 = .ok (.iaload, 1) := by decide +kernel
theorem dL_law_1017 : decode cL_law 1017 = .ok (.invokevirtual 133, 3) := by decide +kernel
theorem dL_law_1020 : decode cL_law 1020 = .ok (.if_icmp .eq 153, 3) := by decide +kernel
theorem dL_law_1023 : decode cL_law 1023 = .ok (.iconst 0, 1) := by decide +kernel
theorem dL_law_1024 : decode cL_law 1024 = .ok (.ireturn, 1) := by decide +kernel
theorem dL_law_1025 : decode cL_law 1025 = .ok (.aload_n 1, 1) := by decide +kernel
theorem dL_law_1026 : decode cL_law 1026 = .ok (.aload_n 0, 1) := by decide +kernel
theorem dL_law_1027 : decode cL_law 1027 = .ok (.iload_n 3, 1) := by decide +kernel
theorem dL_law_1028 : decode cL_law 1028 = .ok (.iconst 1, 1) := by decide +kernel
theorem dL_law_1029 : decode cL_law 1029 = .ok (.iadd, 1) := by decide +kernel
theorem dL_law_1030 : decode cL_law 1030 = .ok (.iaload, 1) := by decide +kernel
theorem dL_law_1031 : decode cL_law 1031 = .ok (.invokevirtual 134, 3) := by decide +kernel
theorem dL_law_1034 : decode cL_law 1034 = .ok (.aload_n 2, 1) := by decide +kernel
theorem dL_law_1035 : decode cL_law 1035 = .ok (.aload_n 0, 1) := by decide +kernel
theorem dL_law_1036 : decode cL_law 1036 = .ok (.iload_n 3, 1) := by decide +kernel
theorem dL_law_1037 : decode cL_law 1037 = .ok (.iconst 1, 1) := by decide +kernel
theorem dL_law_1038 : decode cL_law 1038 = .ok (.iadd, 1) := by decide +kernel
theorem dL_law_1039 : decode cL_law 1039 = .ok (.iaload, 1) := by decide +kernel
theorem dL_law_1040 : decode cL_law 1040 = .ok (.invokevirtual 137, 3) := by decide +kernel
theorem dL_law_1043 : decode cL_law 1043 = .ok (.if_icmp .eq 130, 3) := by decide +kernel
theorem dL_law_1046 : decode cL_law 1046 = .ok (.iconst 0, 1) := by decide +kernel
theorem dL_law_1047 : decode cL_law 1047 = .ok (.ireturn, 1) := by decide +kernel
theorem dL_law_1048 : decode cL_law 1048 = .ok (.aload_n 1, 1) := by decide +kernel
theorem dL_law_1049 : decode cL_law 1049 = .ok (.aload_n 0, 1) := by decide +kernel
theorem dL_law_1050 : decode cL_law 1050 = .ok (.iload_n 3, 1) := by decide +kernel
theorem dL_law_1051 : decode cL_law 1051 = .ok (.iconst 1, 1) := by decide +kernel
theorem dL_law_1052 : decode cL_law 1052 = .ok (.iadd, 1) := by decide +kernel
theorem dL_law_1053 : decode cL_law 1053 = .ok (.iaload, 1) := by decide +kernel
theorem dL_law_1054 : decode cL_law 1054 = .ok (.aload_n 0, 1) := by decide +kernel
theorem dL_law_1055 : decode cL_law 1055 = .ok (.iload_n 3, 1) := by decide +kernel
theorem dL_law_1056 : decode cL_law 1056 = .ok (.iconst 2, 1) := by decide +kernel
theorem dL_law_1057 : decode cL_law 1057 = .ok (.iadd, 1) := by decide +kernel
theorem dL_law_1058 : decode cL_law 1058 = .ok (.iaload, 1) := by decide +kernel
theorem dL_law_1059 : decode cL_law 1059 = .ok (.invokevirtual 138, 3) := by decide +kernel
theorem dL_law_1062 : decode cL_law 1062 = .ok (.aload_n 2, 1) := by decide +kernel
theorem dL_law_1063 : decode cL_law 1063 = .ok (.aload_n 0, 1) := by decide +kernel
theorem dL_law_1064 : decode cL_law 1064 = .ok (.iload_n 3, 1) := by decide +kernel
theorem dL_law_1065 : decode cL_law 1065 = .ok (.iconst 1, 1) := by decide +kernel
theorem dL_law_1066 : decode cL_law 1066 = .ok (.iadd, 1) := by decide +kernel
theorem dL_law_1067 : decode cL_law 1067 = .ok (.iaload, 1) := by decide +kernel
theorem dL_law_1068 : decode cL_law 1068 = .ok (.aload_n 0, 1) := by decide +kernel
theorem dL_law_1069 : decode cL_law 1069 = .ok (.iload_n 3, 1) := by decide +kernel
theorem dL_law_1070 : decode cL_law 1070 = .ok (.iconst 2, 1) := by decide +kernel
theorem dL_law_1071 : decode cL_law 1071 = .ok (.iadd, 1) := by decide +kernel
theorem dL_law_1072 : decode cL_law 1072 = .ok (.iaload, 1) := by decide +kernel
theorem dL_law_1073 : decode cL_law 1073 = .ok (.invokevirtual 141, 3) := by decide +kernel
theorem dL_law_1076 : decode cL_law 1076 = .ok (.if_icmp .eq 97, 3) := by decide +kernel
theorem dL_law_1079 : decode cL_law 1079 = .ok (.iconst 0, 1) := by decide +kernel
theorem dL_law_1080 : decode cL_law 1080 = .ok (.ireturn, 1) := by decide +kernel
theorem dL_law_1081 : decode cL_law 1081 = .ok (.aload_n 1, 1) := by decide +kernel
theorem dL_law_1082 : decode cL_law 1082 = .ok (.aload_n 0, 1) := by decide +kernel
theorem dL_law_1083 : decode cL_law 1083 = .ok (.iload_n 3, 1) := by decide +kernel
theorem dL_law_1084 : decode cL_law 1084 = .ok (.iconst 1, 1) := by decide +kernel
theorem dL_law_1085 : decode cL_law 1085 = .ok (.iadd, 1) := by decide +kernel
theorem dL_law_1086 : decode cL_law 1086 = .ok (.iaload, 1) := by decide +kernel
theorem dL_law_1087 : decode cL_law 1087 = .ok (.aload_n 0, 1) := by decide +kernel
theorem dL_law_1088 : decode cL_law 1088 = .ok (.iload_n 3, 1) := by decide +kernel
theorem dL_law_1089 : decode cL_law 1089 = .ok (.iconst 2, 1) := by decide +kernel
theorem dL_law_1090 : decode cL_law 1090 = .ok (.iadd, 1) := by decide +kernel
theorem dL_law_1091 : decode cL_law 1091 = .ok (.iaload, 1) := by decide +kernel
theorem dL_law_1092 : decode cL_law 1092 = .ok (.invokevirtual 142, 3) := by decide +kernel
theorem dL_law_1095 : decode cL_law 1095 = .ok (.aload_n 2, 1) := by decide +kernel
theorem dL_law_1096 : decode cL_law 1096 = .ok (.aload_n 0, 1) := by decide +kernel
theorem dL_law_1097 : decode cL_law 1097 = .ok (.iload_n 3, 1) := by decide +kernel
theorem dL_law_1098 : decode cL_law 1098 = .ok (.iconst 1, 1) := by decide +kernel
theorem dL_law_1099 : decode cL_law 1099 = .ok (.iadd, 1) := by decide +kernel
theorem dL_law_1100 : decode cL_law 1100 = .ok (.iaload, 1) := by decide +kernel
theorem dL_law_1101 : decode cL_law 1101 = .ok (.aload_n 0, 1) := by decide +kernel
theorem dL_law_1102 : decode cL_law 1102 = .ok (.iload_n 3, 1) := by decide +kernel
theorem dL_law_1103 : decode cL_law 1103 = .ok (.iconst 2, 1) := by decide +kernel
theorem dL_law_1104 : decode cL_law 1104 = .ok (.iadd, 1) := by decide +kernel
theorem dL_law_1105 : decode cL_law 1105 = .ok (.iaload, 1) := by decide +kernel
theorem dL_law_1106 : decode cL_law 1106 = .ok (.invokevirtual 145, 3) := by decide +kernel
theorem dL_law_1109 : decode cL_law 1109 = .ok (.if_icmp .eq 64, 3) := by decide +kernel
theorem dL_law_1112 : decode cL_law 1112 = .ok (.iconst 0, 1) := by decide +kernel
theorem dL_law_1113 : decode cL_law 1113 = .ok (.ireturn, 1) := by decide +kernel
theorem dL_law_1114 : decode cL_law 1114 = .ok (.aload_n 1, 1) := by decide +kernel
theorem dL_law_1115 : decode cL_law 1115 = .ok (.aload_n 0, 1) := by decide +kernel
theorem dL_law_1116 : decode cL_law 1116 = .ok (.iload_n 3, 1) := by decide +kernel
theorem dL_law_1117 : decode cL_law 1117 = .ok (.iconst 1, 1) := by decide +kernel
theorem dL_law_1118 : decode cL_law 1118 = .ok (.iadd, 1) := by decide +kernel
theorem dL_law_1119 : decode cL_law 1119 = .ok (.iaload, 1) := by decide +kernel
theorem dL_law_1120 : decode cL_law 1120 = .ok (.invokevirtual 146, 3) := by decide +kernel
theorem dL_law_1123 : decode cL_law 1123 = .ok (.aload_n 2, 1) := by decide +kernel
theorem dL_law_1124 : decode cL_law 1124 = .ok (.aload_n 0, 1) := by decide +kernel
theorem dL_law_1125 : decode cL_law 1125 = .ok (.iload_n 3, 1) := by decide +kernel
theorem dL_law_1126 : decode cL_law 1126 = .ok (.iconst 1, 1) := by decide +kernel
theorem dL_law_1127 : decode cL_law 1127 = .ok (.iadd, 1) := by decide +kernel
theorem dL_law_1128 : decode cL_law 1128 = .ok (.iaload, 1) := by decide +kernel
theorem dL_law_1129 : decode cL_law 1129 = .ok (.invokevirtual 149, 3) := by decide +kernel
theorem dL_law_1132 : decode cL_law 1132 = .ok (.if_icmp .eq 41, 3) := by decide +kernel
theorem dL_law_1135 : decode cL_law 1135 = .ok (.iconst 0, 1) := by decide +kernel
theorem dL_law_1136 : decode cL_law 1136 = .ok (.ireturn, 1) := by decide +kernel
theorem dL_law_1137 : decode cL_law 1137 = .ok (.aload_n 1, 1) := by decide +kernel
theorem dL_law_1138 : decode cL_law 1138 = .ok (.aload_n 0, 1) := by decide +kernel
theorem dL_law_1139 : decode cL_law 1139 = .ok (.iload_n 3, 1) := by decide +kernel
theorem dL_law_1140 : decode cL_law 1140 = .ok (.iconst 1, 1) := by decide +kernel
theorem dL_law_1141 : decode cL_law 1141 = .ok (.iadd, 1) := by decide +kernel
theorem dL_law_1142 : decode cL_law 1142 = .ok (.iaload, 1) := by decide +kernel
theorem dL_law_1143 : decode cL_law 1143 = .ok (.invokevirtual 150, 3) := by decide +kernel
theorem dL_law_1146 : decode cL_law 1146 = .ok (.aload_n 2, 1) := by decide +kernel
theorem dL_law_1147 : decode cL_law 1147 = .ok (.aload_n 0, 1) := by decide +kernel
theorem dL_law_1148 : decode cL_law 1148 = .ok (.iload_n 3, 1) := by decide +kernel
theorem dL_law_1149 : decode cL_law 1149 = .ok (.iconst 1, 1) := by decide +kernel
theorem dL_law_1150 : decode cL_law 1150 = .ok (.iadd, 1) := by decide +kernel
theorem dL_law_1151 : decode cL_law 1151 = .ok (.iaload, 1) := by decide +kernel
theorem dL_law_1152 : decode cL_law 1152 = .ok (.invokevirtual 153, 3) := by decide +kernel
theorem dL_law_1155 : decode cL_law 1155 = .ok (.if_icmp .eq 18, 3) := by decide +kernel
theorem dL_law_1158 : decode cL_law 1158 = .ok (.iconst 0, 1) := by decide +kernel
theorem dL_law_1159 : decode cL_law 1159 = .ok (.ireturn, 1) := by decide +kernel
theorem dL_law_1160 : decode cL_law 1160 = .ok (.aload_n 1, 1) := by decide +kernel
theorem dL_law_1161 : decode cL_law 1161 = .ok (.invokevirtual 154, 3) := by decide +kernel
theorem dL_law_1164 : decode cL_law 1164 = .ok (.aload_n 2, 1) := by decide +kernel
theorem dL_law_1165 : decode cL_law 1165 = .ok (.invokevirtual 157, 3) := by decide +kernel
theorem dL_law_1168 : decode cL_law 1168 = .ok (.if_icmp .eq 5, 3) := by decide +kernel
theorem dL_law_1171 : decode cL_law 1171 = .ok (.iconst 0, 1) := by decide +kernel
theorem dL_law_1172 : decode cL_law 1172 = .ok (.ireturn, 1) := by decide +kernel
theorem dL_law_1173 : decode cL_law 1173 = .ok (.iinc 3 6, 3) := by decide +kernel
theorem dL_law_1176 : decode cL_law 1176 = .ok (.goto (-1158), 3) := by decide +kernel
theorem dL_law_1179 : decode cL_law 1179 = .ok (.iconst 1, 1) := by decide +kernel
theorem dL_law_1180 : decode cL_law 1180 = .ok (.ireturn, 1) := by decide +kernel
end
section
theorem dX10_init_0 : decode cX10_init 0 = .ok (.aload_n 0, 1) := by decide +kernel
theorem dX10_init_1 : decode cX10_init 1 = .ok (.invokespecial 1, 3) := by decide +kernel
theorem dX10_init_4 : decode cX10_init 4 = .ok (.aload_n 0, 1) := by decide +kernel
theorem dX10_init_5 : decode cX10_init 5 = .ok (.bipush 8, 2) := by decide +kernel
theorem dX10_init_7 : decode cX10_init 7 = .ok (.newarray .int, 2) := by decide +kernel
theorem dX10_init_9 : decode cX10_init 9 = .ok (.putfield 7, 3) := by decide +kernel
theorem dX10_init_12 : decode cX10_init 12 = .ok (.aload_n 0, 1) := by decide +kernel
theorem dX10_init_13 : decode cX10_init 13 = .ok (.bipush 8, 2) := by decide +kernel
theorem dX10_init_15 : decode cX10_init 15 = .ok (.newarray .int, 2) := by decide +kernel
theorem dX10_init_17 : decode cX10_init 17 = .ok (.putfield 13, 3) := by decide +kernel
theorem dX10_init_20 : decode cX10_init 20 = .ok (.aload_n 0, 1) := by decide +kernel
theorem dX10_init_21 : decode cX10_init 21 = .ok (.sipush 320, 3) := by decide +kernel
theorem dX10_init_24 : decode cX10_init 24 = .ok (.newarray .int, 2) := by decide +kernel
theorem dX10_init_26 : decode cX10_init 26 = .ok (.putfield 16, 3) := by decide +kernel
theorem dX10_init_29 : decode cX10_init 29 = .ok (.aload_n 0, 1) := by decide +kernel
theorem dX10_init_30 : decode cX10_init 30 = .ok (.bipush 40, 2) := by decide +kernel
theorem dX10_init_32 : decode cX10_init 32 = .ok (.newarray .int, 2) := by decide +kernel
theorem dX10_init_34 : decode cX10_init 34 = .ok (.putfield 19, 3) := by decide +kernel
theorem dX10_init_37 : decode cX10_init 37 = .ok (.aload_n 0, 1) := by decide +kernel
theorem dX10_init_38 : decode cX10_init 38 = .ok (.bipush 80, 2) := by decide +kernel
theorem dX10_init_40 : decode cX10_init 40 = .ok (.newarray .int, 2) := by decide +kernel
theorem dX10_init_42 : decode cX10_init 42 = .ok (.putfield 22, 3) := by decide +kernel
theorem dX10_init_45 : decode cX10_init 45 = .ok (.aload_n 0, 1) := by decide +kernel
theorem dX10_init_46 : decode cX10_init 46 = .ok (.bipush 124, 2) := by decide +kernel
theorem dX10_init_48 : decode cX10_init 48 = .ok (.newarray .int, 2) := by decide +kernel
theorem dX10_init_50 : decode cX10_init 50 = .ok (.putfield 25, 3) := by decide +kernel
theorem dX10_init_53 : decode cX10_init 53 = .ok (.aload_n 0, 1) := by decide +kernel
theorem dX10_init_54 : decode cX10_init 54 = .ok (.bipush 124, 2) := by decide +kernel
theorem dX10_init_56 : decode cX10_init 56 = .ok (.newarray .int, 2) := by decide +kernel
theorem dX10_init_58 : decode cX10_init 58 = .ok (.putfield 28, 3) := by decide +kernel
theorem dX10_init_61 : decode cX10_init 61 = .ok (.aload_n 0, 1) := by decide +kernel
theorem dX10_init_62 : decode cX10_init 62 = .ok (.bipush 124, 2) := by decide +kernel
theorem dX10_init_64 : decode cX10_init 64 = .ok (.newarray .int, 2) := by decide +kernel
theorem dX10_init_66 : decode cX10_init 66 = .ok (.putfield 31, 3) := by decide +kernel
theorem dX10_init_69 : decode cX10_init 69 = .ok (.aload_n 0, 1) := by decide +kernel
theorem dX10_init_70 : decode cX10_init 70 = .ok (.sipush 2976, 3) := by decide +kernel
theorem dX10_init_73 : decode cX10_init 73 = .ok (.newarray .int, 2) := by decide +kernel
theorem dX10_init_75 : decode cX10_init 75 = .ok (.putfield 34, 3) := by decide +kernel
theorem dX10_init_78 : decode cX10_init 78 = .ok (.aload_n 0, 1) := by decide +kernel
theorem dX10_init_79 : decode cX10_init 79 = .ok (.sipush 248, 3) := by decide +kernel
theorem dX10_init_82 : decode cX10_init 82 = .ok (.newarray .int, 2) := by decide +kernel
theorem dX10_init_84 : decode cX10_init 84 = .ok (.putfield 37, 3) := by decide +kernel
theorem dX10_init_87 : decode cX10_init 87 = .ok (.aload_n 0, 1) := by decide +kernel
theorem dX10_init_88 : decode cX10_init 88 = .ok (.iconst 2, 1) := by decide +kernel
theorem dX10_init_89 : decode cX10_init 89 = .ok (.newarray .boolean, 2) := by decide +kernel
theorem dX10_init_91 : decode cX10_init 91 = .ok (.putfield 40, 3) := by decide +kernel
theorem dX10_init_94 : decode cX10_init 94 = .ok (.aload_n 0, 1) := by decide +kernel
theorem dX10_init_95 : decode cX10_init 95 = .ok (.bipush 8, 2) := by decide +kernel
theorem dX10_init_97 : decode cX10_init 97 = .ok (.newarray .int, 2) := by decide +kernel
theorem dX10_init_99 : decode cX10_init 99 = .ok (.putfield 44, 3) := by decide +kernel
theorem dX10_init_102 : decode cX10_init 102 = .ok (.aload_n 0, 1) := by decide +kernel
theorem dX10_init_103 : decode cX10_init 103 = .ok (.bipush 8, 2) := by decide +kernel
theorem dX10_init_105 : decode cX10_init 105 = .ok (.newarray .int, 2) := by decide +kernel
theorem dX10_init_107 : decode cX10_init 107 = .ok (.putfield 47, 3) := by decide +kernel
theorem dX10_init_110 : decode cX10_init 110 = .ok (.aload_n 0, 1) := by decide +kernel
theorem dX10_init_111 : decode cX10_init 111 = .ok (.iconst 4, 1) := by decide +kernel
theorem dX10_init_112 : decode cX10_init 112 = .ok (.newarray .int, 2) := by decide +kernel
theorem dX10_init_114 : decode cX10_init 114 = .ok (.putfield 50, 3) := by decide +kernel
theorem dX10_init_117 : decode cX10_init 117 = .ok (.aload_n 0, 1) := by decide +kernel
theorem dX10_init_118 : decode cX10_init 118 = .ok (.bipush 16, 2) := by decide +kernel
theorem dX10_init_120 : decode cX10_init 120 = .ok (.newarray .int, 2) := by decide +kernel
theorem dX10_init_122 : decode cX10_init 122 = .ok (.putfield 53, 3) := by decide +kernel
theorem dX10_init_125 : decode cX10_init 125 = .ok (.iconst 0, 1) := by decide +kernel
theorem dX10_init_126 : decode cX10_init 126 = .ok (.istore_n 1, 1) := by decide +kernel
theorem dX10_init_127 : decode cX10_init 127 = .ok (.iload_n 1, 1) := by decide +kernel
theorem dX10_init_128 : decode cX10_init 128 = .ok (.bipush 8, 2) := by decide +kernel
theorem dX10_init_130 : decode cX10_init 130 = .ok (.if_icmp .ge 17, 3) := by decide +kernel
theorem dX10_init_133 : decode cX10_init 133 = .ok (.aload_n 0, 1) := by decide +kernel
theorem dX10_init_134 : decode cX10_init 134 = .ok (.getfield 7, 3) := by decide +kernel
theorem dX10_init_137 : decode cX10_init 137 = .ok (.iload_n 1, 1) := by decide +kernel
theorem dX10_init_138 : decode cX10_init 138 = .ok (.ldc 56, 2) := by decide +kernel
theorem dX10_init_140 : decode cX10_init 140 = .ok (.iastore, 1) := by decide +kernel
theorem dX10_init_141 : decode cX10_init 141 = .ok (.iinc 1 1, 3) := by decide +kernel
theorem dX10_init_144 : decode cX10_init 144 = .ok (.goto (-17), 3) := by decide +kernel
theorem dX10_init_147 : decode cX10_init 147 = .ok (.return_, 1) := by decide +kernel
theorem dX10_in_0 : decode cX10_in 0 = .ok (.iload_n 0, 1) := by decide +kernel
theorem dX10_in_1 : decode cX10_in 1 = .ok (.iload_n 1, 1) := by decide +kernel
theorem dX10_in_2 : decode cX10_in 2 = .ok (.if_icmp .lt 12, 3) := by decide +kernel
theorem dX10_in_5 : decode cX10_in 5 = .ok (.iload_n 0, 1) := by decide +kernel
theorem dX10_in_6 : decode cX10_in 6 = .ok (.iload_n 2, 1) := by decide +kernel
theorem dX10_in_7 : decode cX10_in 7 = .ok (.if_icmp .gt 7, 3) := by decide +kernel
theorem dX10_in_10 : decode cX10_in 10 = .ok (.iconst 1, 1) := by decide +kernel
theorem dX10_in_11 : decode cX10_in 11 = .ok (.goto 4, 3) := by decide +kernel
theorem dX10_in_14 : decode cX10_in 14 = .ok (.iconst 0, 1) := by decide +kernel
theorem dX10_in_15 : decode cX10_in 15 = .ok (.ireturn, 1) := by decide +kernel
theorem dX10_found_0 : decode cX10_found 0 = .ok (.aload_n 0, 1) := by decide +kernel
theorem dX10_found_1 : decode cX10_found 1 = .ok (.iload_n 1, 1) := by decide +kernel
theorem dX10_found_2 : decode cX10_found 2 = .ok (.putfield 57, 3) := by decide +kernel
theorem dX10_found_5 : decode cX10_found 5 = .ok (.ldc 61, 2) := by decide +kernel
theorem dX10_found_7 : decode cX10_found 7 = .ok (.iload_n 1, 1) := by decide +kernel
theorem dX10_found_8 : decode cX10_found 8 = .ok (.isub, 1) := by decide +kernel
theorem dX10_found_9 : decode cX10_found 9 = .ok (.ireturn, 1) := by decide +kernel
theorem dX10_well_0 : decode cX10_well 0 = .ok (.aload_n 0, 1) := by decide +kernel
theorem dX10_well_1 : decode cX10_well 1 = .ok (.iconst 0, 1) := by decide +kernel
theorem dX10_well_2 : decode cX10_well 2 = .ok (.putfield 57, 3) := by decide +kernel
theorem dX10_well_5 : decode cX10_well 5 = .ok (.iload_n 1, 1) := by decide +kernel
theorem dX10_well_6 : decode cX10_well 6 = .ok (.ireturn, 1) := by decide +kernel
theorem dX10_copies_0 : decode cX10_copies 0 = .ok (.iconst 0, 1) := by decide +kernel
theorem dX10_copies_1 : decode cX10_copies 1 = .ok (.istore 4, 2) := by decide +kernel
theorem dX10_copies_3 : decode cX10_copies 3 = .ok (.iload 4, 2) := by decide +kernel
theorem dX10_copies_5 : decode cX10_copies 5 = .ok (.bipush 124, 2) := by decide +kernel
theorem dX10_copies_7 : decode cX10_copies 7 = .ok (.if_icmp .ge 21, 3) := by decide +kernel
theorem dX10_copies_10 : decode cX10_copies 10 = .ok (.aload_n 2, 1) := by decide +kernel
theorem dX10_copies_11 : decode cX10_copies 11 = .ok (.iload_n 3, 1) := by decide +kernel
theorem dX10_copies_12 : decode cX10_copies 12 = .ok (.iload 4, 2) := by decide +kernel
theorem dX10_copies_14 : decode cX10_copies 14 = .ok (.iadd, 1) := by decide +kernel
theorem dX10_copies_15 : decode cX10_copies 15 = .ok (.aload_n 0, 1) := by decide +kernel
theorem dX10_copies_16 : decode cX10_copies 16 = .ok (.iload_n 1, 1) := by decide +kernel
theorem dX10_copies_17 : decode cX10_copies 17 = .ok (.iload 4, 2) := by decide +kernel
theorem dX10_copies_19 : decode cX10_copies 19 = .ok (.iadd, 1) := by decide +kernel
theorem dX10_copies_20 : decode cX10_copies 20 = .ok (.iaload, 1) := by decide +kernel
theorem dX10_copies_21 : decode cX10_copies 21 = .ok (.iastore, 1) := by decide +kernel
theorem dX10_copies_22 : decode cX10_copies 22 = .ok (.iinc 4 1, 3) := by decide +kernel
theorem dX10_copies_25 : decode cX10_copies 25 = .ok (.goto (-22), 3) := by decide +kernel
theorem dX10_copies_28 : decode cX10_copies 28 = .ok (.return_, 1) := by decide +kernel
theorem dX10_isRow_0 : decode cX10_isRow 0 = .ok (.iload_n 0, 1) := by decide +kernel
theorem dX10_isRow_1 : decode cX10_isRow 1 = .ok (.iconst 0, 1) := by decide +kernel
theorem dX10_isRow_2 : decode cX10_isRow 2 = .ok (.bipush 7, 2) := by decide +kernel
theorem dX10_isRow_4 : decode cX10_isRow 4 = .ok (.invokestatic 62, 3) := by decide +kernel
theorem dX10_isRow_7 : decode cX10_isRow 7 = .ok (.ireturn, 1) := by decide +kernel
theorem dX10_isMissing_0 : decode cX10_isMissing 0 = .ok (.aload_n 0, 1) := by decide +kernel
theorem dX10_isMissing_1 : decode cX10_isMissing 1 = .ok (.getfield 7, 3) := by decide +kernel
theorem dX10_isMissing_4 : decode cX10_isMissing 4 = .ok (.iload_n 1, 1) := by decide +kernel
theorem dX10_isMissing_5 : decode cX10_isMissing 5 = .ok (.iaload, 1) := by decide +kernel
theorem dX10_isMissing_6 : decode cX10_isMissing 6 = .ok (.ldc 56, 2) := by decide +kernel
theorem dX10_isMissing_8 : decode cX10_isMissing 8 = .ok (.if_icmp .ne 7, 3) := by decide +kernel
theorem dX10_isMissing_11 : decode cX10_isMissing 11 = .ok (.iconst 1, 1) := by decide +kernel
theorem dX10_isMissing_12 : decode cX10_isMissing 12 = .ok (.goto 4, 3) := by decide +kernel
theorem dX10_isMissing_15 : decode cX10_isMissing 15 = .ok (.iconst 0, 1) := by decide +kernel
theorem dX10_isMissing_16 : decode cX10_isMissing 16 = .ok (.ireturn, 1) := by decide +kernel
theorem dX10_cut_0 : decode cX10_cut 0 = .ok (.iload_n 0, 1) := by decide +kernel
theorem dX10_cut_1 : decode cX10_cut 1 = .ok (.ifCond .ne 13, 3) := by decide +kernel
theorem dX10_cut_4 : decode cX10_cut 4 = .ok (.iload_n 1, 1) := by decide +kernel
theorem dX10_cut_5 : decode cX10_cut 5 = .ok (.bipush 24, 2) := by decide +kernel
theorem dX10_cut_7 : decode cX10_cut 7 = .ok (.ishl, 1) := by decide +kernel
theorem dX10_cut_8 : decode cX10_cut 8 = .ok (.bipush 24, 2) := by decide +kernel
theorem dX10_cut_10 : decode cX10_cut 10 = .ok (.ishr, 1) := by decide +kernel
theorem dX10_cut_11 : decode cX10_cut 11 = .ok (.goto 19, 3) := by decide +kernel
theorem dX10_cut_14 : decode cX10_cut 14 = .ok (.iload_n 0, 1) := by decide +kernel
theorem dX10_cut_15 : decode cX10_cut 15 = .ok (.iconst 1, 1) := by decide +kernel
theorem dX10_cut_16 : decode cX10_cut 16 = .ok (.if_icmp .ne 13, 3) := by decide +kernel
theorem dX10_cut_19 : decode cX10_cut 19 = .ok (.iload_n 1, 1) := by decide +kernel
theorem dX10_cut_20 : decode cX10_cut 20 = .ok (.bipush 16, 2) := by decide +kernel
theorem dX10_cut_22 : decode cX10_cut 22 = .ok (.ishl, 1) := by decide +kernel
theorem dX10_cut_23 : decode cX10_cut 23 = .ok (.bipush 16, 2) := by decide +kernel
theorem dX10_cut_25 : decode cX10_cut 25 = .ok (.ishr, 1) := by decide +kernel
theorem dX10_cut_26 : decode cX10_cut 26 = .ok (.goto 4, 3) := by decide +kernel
theorem dX10_cut_29 : decode cX10_cut 29 = .ok (.iload_n 1, 1) := by decide +kernel
theorem dX10_cut_30 : decode cX10_cut 30 = .ok (.ireturn, 1) := by decide +kernel
theorem dX10_row_0 : decode cX10_row 0 = .ok (.iload_n 1, 1) := by decide +kernel
theorem dX10_row_1 : decode cX10_row 1 = .ok (.invokestatic 66, 3) := by decide +kernel
theorem dX10_row_4 : decode cX10_row 4 = .ok (.ifCond .eq 18, 3) := by decide +kernel
theorem dX10_row_7 : decode cX10_row 7 = .ok (.iload_n 2, 1) := by decide +kernel
theorem dX10_row_8 : decode cX10_row 8 = .ok (.iconst 0, 1) := by decide +kernel
theorem dX10_row_9 : decode cX10_row 9 = .ok (.iconst 2, 1) := by decide +kernel
theorem dX10_row_10 : decode cX10_row 10 = .ok (.invokestatic 62, 3) := by decide +kernel
theorem dX10_row_13 : decode cX10_row 13 = .ok (.ifCond .eq 9, 3) := by decide +kernel
theorem dX10_row_16 : decode cX10_row 16 = .ok (.iload_n 3, 1) := by decide +kernel
theorem dX10_row_17 : decode cX10_row 17 = .ok (.bipush 40, 2) := by decide +kernel
theorem dX10_row_19 : decode cX10_row 19 = .ok (.if_icmp .le 6, 3) := by decide +kernel
theorem dX10_row_22 : decode cX10_row 22 = .ok (.ldc 70, 2) := by decide +kernel
theorem dX10_row_24 : decode cX10_row 24 = .ok (.ireturn, 1) := by decide +kernel
theorem dX10_row_25 : decode cX10_row 25 = .ok (.iload_n 3, 1) := by decide +kernel
theorem dX10_row_26 : decode cX10_row 26 = .ok (.ifCond .ge 9, 3) := by decide +kernel
theorem dX10_row_29 : decode cX10_row 29 = .ok (.aload_n 0, 1) := by decide +kernel
theorem dX10_row_30 : decode cX10_row 30 = .ok (.iconst 4, 1) := by decide +kernel
theorem dX10_row_31 : decode cX10_row 31 = .ok (.invokevirtual 71, 3) := by decide +kernel
theorem dX10_row_34 : decode cX10_row 34 = .ok (.ireturn, 1) := by decide +kernel
theorem dX10_row_35 : decode cX10_row 35 = .ok (.aload_n 0, 1) := by decide +kernel
theorem dX10_row_36 : decode cX10_row 36 = .ok (.getfield 7, 3) := by decide +kernel
theorem dX10_row_39 : decode cX10_row 39 = .ok (.iload_n 1, 1) := by decide +kernel
theorem dX10_row_40 : decode cX10_row 40 = .ok (.iload_n 2, 1) := by decide +kernel
theorem dX10_row_41 : decode cX10_row 41 = .ok (.iastore, 1) := by decide +kernel
theorem dX10_row_42 : decode cX10_row 42 = .ok (.aload_n 0, 1) := by decide +kernel
theorem dX10_row_43 : decode cX10_row 43 = .ok (.getfield 13, 3) := by decide +kernel
theorem dX10_row_46 : decode cX10_row 46 = .ok (.iload_n 1, 1) := by decide +kernel
theorem dX10_row_47 : decode cX10_row 47 = .ok (.iload_n 3, 1) := by decide +kernel
theorem dX10_row_48 : decode cX10_row 48 = .ok (.iastore, 1) := by decide +kernel
theorem dX10_row_49 : decode cX10_row 49 = .ok (.iconst 0, 1) := by decide +kernel
theorem dX10_row_50 : decode cX10_row 50 = .ok (.istore 4, 2) := by decide +kernel
theorem dX10_row_52 : decode cX10_row 52 = .ok (.iload 4, 2) := by decide +kernel
theorem dX10_row_54 : decode cX10_row 54 = .ok (.bipush 40, 2) := by decide +kernel
theorem dX10_row_56 : decode cX10_row 56 = .ok (.if_icmp .ge 22, 3) := by decide +kernel
theorem dX10_row_59 : decode cX10_row 59 = .ok (.aload_n 0, 1) := by decide +kernel
theorem dX10_row_60 : decode cX10_row 60 = .ok (.getfield 16, 3) := by decide +kernel
theorem dX10_row_63 : decode cX10_row 63 = .ok (.bipush 40, 2) := by decide +kernel
theorem dX10_row_65 : decode cX10_row 65 = .ok (.iload_n 1, 1) := by decide +kernel
theorem dX10_row_66 : decode cX10_row 66 = .ok (.imul, 1) := by decide +kernel
theorem dX10_row_67 : decode cX10_row 67 = .ok (.iload 4, 2) := by decide +kernel
theorem dX10_row_69 : decode cX10_row 69 = .ok (.iadd, 1) := by decide +kernel
theorem dX10_row_70 : decode cX10_row 70 = .ok (.iconst 0, 1) := by decide +kernel
theorem dX10_row_71 : decode cX10_row 71 = .ok (.iastore, 1) := by decide +kernel
theorem dX10_row_72 : decode cX10_row 72 = .ok (.iinc 4 1, 3) := by decide +kernel
theorem dX10_row_75 : decode cX10_row 75 = .ok (.goto (-23), 3) := by decide +kernel
theorem dX10_row_78 : decode cX10_row 78 = .ok (.aload_n 0, 1) := by decide +kernel
theorem dX10_row_79 : decode cX10_row 79 = .ok (.iload_n 3, 1) := by decide +kernel
theorem dX10_row_80 : decode cX10_row 80 = .ok (.invokevirtual 75, 3) := by decide +kernel
theorem dX10_row_83 : decode cX10_row 83 = .ok (.ireturn, 1) := by decide +kernel
theorem dX10_set_0 : decode cX10_set 0 = .ok (.iload_n 1, 1) := by decide +kernel
theorem dX10_set_1 : decode cX10_set 1 = .ok (.invokestatic 66, 3) := by decide +kernel
theorem dX10_set_4 : decode cX10_set 4 = .ok (.ifCond .ne 6, 3) := by decide +kernel
theorem dX10_set_7 : decode cX10_set 7 = .ok (.ldc 70, 2) := by decide +kernel
theorem dX10_set_9 : decode cX10_set 9 = .ok (.ireturn, 1) := by decide +kernel
theorem dX10_set_10 : decode cX10_set 10 = .ok (.aload_n 0, 1) := by decide +kernel
theorem dX10_set_11 : decode cX10_set 11 = .ok (.iload_n 1, 1) := by decide +kernel
theorem dX10_set_12 : decode cX10_set 12 = .ok (.invokevirtual 78, 3) := by decide +kernel
theorem dX10_set_15 : decode cX10_set 15 = .ok (.ifCond .eq 9, 3) := by decide +kernel
theorem dX10_set_18 : decode cX10_set 18 = .ok (.aload_n 0, 1) := by decide +kernel
theorem dX10_set_19 : decode cX10_set 19 = .ok (.iconst 1, 1) := by decide +kernel
theorem dX10_set_20 : decode cX10_set 20 = .ok (.invokevirtual 71, 3) := by decide +kernel
theorem dX10_set_23 : decode cX10_set 23 = .ok (.ireturn, 1) := by decide +kernel
theorem dX10_set_24 : decode cX10_set 24 = .ok (.iload_n 2, 1) := by decide +kernel
theorem dX10_set_25 : decode cX10_set 25 = .ok (.iconst 0, 1) := by decide +kernel
theorem dX10_set_26 : decode cX10_set 26 = .ok (.aload_n 0, 1) := by decide +kernel
theorem dX10_set_27 : decode cX10_set 27 = .ok (.getfield 13, 3) := by decide +kernel
theorem dX10_set_30 : decode cX10_set 30 = .ok (.iload_n 1, 1) := by decide +kernel
theorem dX10_set_31 : decode cX10_set 31 = .ok (.iaload, 1) := by decide +kernel
theorem dX10_set_32 : decode cX10_set 32 = .ok (.iconst 1, 1) := by decide +kernel
theorem dX10_set_33 : decode cX10_set 33 = .ok (.isub, 1) := by decide +kernel
theorem dX10_set_34 : decode cX10_set 34 = .ok (.invokestatic 62, 3) := by decide +kernel
theorem dX10_set_37 : decode cX10_set 37 = .ok (.ifCond .ne 9, 3) := by decide +kernel
theorem dX10_set_40 : decode cX10_set 40 = .ok (.aload_n 0, 1) := by decide +kernel
theorem dX10_set_41 : decode cX10_set 41 = .ok (.iconst 2, 1) := by decide +kernel
theorem dX10_set_42 : decode cX10_set 42 = .ok (.invokevirtual 71, 3) := by decide +kernel
theorem dX10_set_45 : decode cX10_set 45 = .ok (.ireturn, 1) := by decide +kernel
theorem dX10_set_46 : decode cX10_set 46 = .ok (.aload_n 0, 1) := by decide +kernel
theorem dX10_set_47 : decode cX10_set 47 = .ok (.getfield 16, 3) := by decide +kernel
theorem dX10_set_50 : decode cX10_set 50 = .ok (.bipush 40, 2) := by decide +kernel
theorem dX10_set_52 : decode cX10_set 52 = .ok (.iload_n 1, 1) := by decide +kernel
theorem dX10_set_53 : decode cX10_set 53 = .ok (.imul, 1) := by decide +kernel
theorem dX10_set_54 : decode cX10_set 54 = .ok (.iload_n 2, 1) := by decide +kernel
theorem dX10_set_55 : decode cX10_set 55 = .ok (.iadd, 1) := by decide +kernel
theorem dX10_set_56 : decode cX10_set 56 = .ok (.aload_n 0, 1) := by decide +kernel
theorem dX10_set_57 : decode cX10_set 57 = .ok (.getfield 7, 3) := by decide +kernel
theorem dX10_set_60 : decode cX10_set 60 = .ok (.iload_n 1, 1) := by decide +kernel
theorem dX10_set_61 : decode cX10_set 61 = .ok (.iaload, 1) := by decide +kernel
theorem dX10_set_62 : decode cX10_set 62 = .ok (.iload_n 3, 1) := by decide +kernel
theorem dX10_set_63 : decode cX10_set 63 = .ok (.invokestatic 81, 3) := by decide +kernel
theorem dX10_set_66 : decode cX10_set 66 = .ok (.iastore, 1) := by decide +kernel
theorem dX10_set_67 : decode cX10_set 67 = .ok (.aload_n 0, 1) := by decide +kernel
theorem dX10_set_68 : decode cX10_set 68 = .ok (.aload_n 0, 1) := by decide +kernel
theorem dX10_set_69 : decode cX10_set 69 = .ok (.getfield 16, 3) := by decide +kernel
theorem dX10_set_72 : decode cX10_set 72 = .ok (.bipush 40, 2) := by decide +kernel
theorem dX10_set_74 : decode cX10_set 74 = .ok (.iload_n 1, 1) := by decide +kernel
theorem dX10_set_75 : decode cX10_set 75 = .ok (.imul, 1) := by decide +kernel
theorem dX10_set_76 : decode cX10_set 76 = .ok (.iload_n 2, 1) := by decide +kernel
theorem dX10_set_77 : decode cX10_set 77 = .ok (.iadd, 1) := by decide +kernel
theorem dX10_set_78 : decode cX10_set 78 = .ok (.iaload, 1) := by decide +kernel
theorem dX10_set_79 : decode cX10_set 79 = .ok (.invokevirtual 75, 3) := by decide +kernel
theorem dX10_set_82 : decode cX10_set 82 = .ok (.ireturn, 1) := by decide +kernel
theorem dX10_isPart_0 : decode cX10_isPart 0 = .ok (.iload_n 2, 1) := by decide +kernel
theorem dX10_isPart_1 : decode cX10_isPart 1 = .ok (.ifCond .lt 33, 3) := by decide +kernel
theorem dX10_isPart_4 : decode cX10_isPart 4 = .ok (.iload_n 3, 1) := by decide +kernel
theorem dX10_isPart_5 : decode cX10_isPart 5 = .ok (.ifCond .lt 29, 3) := by decide +kernel
theorem dX10_isPart_8 : decode cX10_isPart 8 = .ok (.iload_n 2, 1) := by decide +kernel
theorem dX10_isPart_9 : decode cX10_isPart 9 = .ok (.aload_n 0, 1) := by decide +kernel
theorem dX10_isPart_10 : decode cX10_isPart 10 = .ok (.getfield 13, 3) := by decide +kernel
theorem dX10_isPart_13 : decode cX10_isPart 13 = .ok (.iload_n 1, 1) := by decide +kernel
theorem dX10_isPart_14 : decode cX10_isPart 14 = .ok (.iaload, 1) := by decide +kernel
theorem dX10_isPart_15 : decode cX10_isPart 15 = .ok (.if_icmp .gt 19, 3) := by decide +kernel
theorem dX10_isPart_18 : decode cX10_isPart 18 = .ok (.iload_n 3, 1) := by decide +kernel
theorem dX10_isPart_19 : decode cX10_isPart 19 = .ok (.aload_n 0, 1) := by decide +kernel
theorem dX10_isPart_20 : decode cX10_isPart 20 = .ok (.getfield 13, 3) := by decide +kernel
theorem dX10_isPart_23 : decode cX10_isPart 23 = .ok (.iload_n 1, 1) := by decide +kernel
theorem dX10_isPart_24 : decode cX10_isPart 24 = .ok (.iaload, 1) := by decide +kernel
theorem dX10_isPart_25 : decode cX10_isPart 25 = .ok (.iload_n 2, 1) := by decide +kernel
theorem dX10_isPart_26 : decode cX10_isPart 26 = .ok (.isub, 1) := by decide +kernel
theorem dX10_isPart_27 : decode cX10_isPart 27 = .ok (.if_icmp .gt 7, 3) := by decide +kernel
theorem dX10_isPart_30 : decode cX10_isPart 30 = .ok (.iconst 1, 1) := by decide +kernel
theorem dX10_isPart_31 : decode cX10_isPart 31 = .ok (.goto 4, 3) := by decide +kernel
theorem dX10_isPart_34 : decode cX10_isPart 34 = .ok (.iconst 0, 1) := by decide +kernel
theorem dX10_isPart_35 : decode cX10_isPart 35 = .ok (.ireturn, 1) := by decide +kernel
theorem dX10_copy_0 : decode cX10_copy 0 = .ok (.iload_n 1, 1) := by decide +kernel
theorem dX10_copy_1 : decode cX10_copy 1 = .ok (.invokestatic 66, 3) := by decide +kernel
theorem dX10_copy_4 : decode cX10_copy 4 = .ok (.ifCond .eq 10, 3) := by decide +kernel
theorem dX10_copy_7 : decode cX10_copy 7 = .ok (.iload_n 3, 1) := by decide +kernel
theorem dX10_copy_8 : decode cX10_copy 8 = .ok (.invokestatic 66, 3) := by decide +kernel
theorem dX10_copy_11 : decode cX10_copy 11 = .ok (.ifCond .ne 6, 3) := by decide +kernel
theorem dX10_copy_14 : decode cX10_copy 14 = .ok (.ldc 70, 2) := by decide +kernel
theorem dX10_copy_16 : decode cX10_copy 16 = .ok (.ireturn, 1) := by decide +kernel
theorem dX10_copy_17 : decode cX10_copy 17 = .ok (.aload_n 0, 1) := by decide +kernel
theorem dX10_copy_18 : decode cX10_copy 18 = .ok (.iload_n 1, 1) := by decide +kernel
theorem dX10_copy_19 : decode cX10_copy 19 = .ok (.invokevirtual 78, 3) := by decide +kernel
theorem dX10_copy_22 : decode cX10_copy 22 = .ok (.ifCond .ne 11, 3) := by decide +kernel
theorem dX10_copy_25 : decode cX10_copy 25 = .ok (.aload_n 0, 1) := by decide +kernel
theorem dX10_copy_26 : decode cX10_copy 26 = .ok (.iload_n 3, 1) := by decide +kernel
theorem dX10_copy_27 : decode cX10_copy 27 = .ok (.invokevirtual 78, 3) := by decide +kernel
theorem dX10_copy_30 : decode cX10_copy 30 = .ok (.ifCond .eq 9, 3) := by decide +kernel
theorem dX10_copy_33 : decode cX10_copy 33 = .ok (.aload_n 0, 1) := by decide +kernel
theorem dX10_copy_34 : decode cX10_copy 34 = .ok (.iconst 1, 1) := by decide +kernel
theorem dX10_copy_35 : decode cX10_copy 35 = .ok (.invokevirtual 71, 3) := by decide +kernel
theorem dX10_copy_38 : decode cX10_copy 38 = .ok (.ireturn, 1) := by decide +kernel
theorem dX10_copy_39 : decode cX10_copy 39 = .ok (.aload_n 0, 1) := by decide +kernel
theorem dX10_copy_40 : decode cX10_copy 40 = .ok (.getfield 7, 3) := by decide +kernel
theorem dX10_copy_43 : decode cX10_copy 43 = .ok (.iload_n 1, 1) := by decide +kernel
theorem dX10_copy_44 : decode cX10_copy 44 = .ok (.iaload, 1) := by decide +kernel
theorem dX10_copy_45 : decode cX10_copy 45 = .ok (.aload_n 0, 1) := by decide +kernel
theorem dX10_copy_46 : decode cX10_copy 46 = .ok (.getfield 7, 3) := by decide +kernel
theorem dX10_copy_49 : decode cX10_copy 49 = .ok (.iload_n 3, 1) := by decide +kernel
theorem dX10_copy_50 : decode cX10_copy 50 = .ok (.iaload, 1) := by decide +kernel
theorem dX10_copy_51 : decode cX10_copy 51 = .ok (.if_icmp .eq 9, 3) := by decide +kernel
theorem dX10_copy_54 : decode cX10_copy 54 = .ok (.aload_n 0, 1) := by decide +kernel
theorem dX10_copy_55 : decode cX10_copy 55 = .ok (.iconst 5, 1) := by decide +kernel
theorem dX10_copy_56 : decode cX10_copy 56 = .ok (.invokevirtual 71, 3) := by decide +kernel
theorem dX10_copy_59 : decode cX10_copy 59 = .ok (.ireturn, 1) := by decide +kernel
theorem dX10_copy_60 : decode cX10_copy 60 = .ok (.aload_n 0, 1) := by decide +kernel
theorem dX10_copy_61 : decode cX10_copy 61 = .ok (.iload_n 1, 1) := by decide +kernel
theorem dX10_copy_62 : decode cX10_copy 62 = .ok (.iload_n 2, 1) := by decide +kernel
theorem dX10_copy_63 : decode cX10_copy 63 = .ok (.iload 5, 2) := by decide +kernel
theorem dX10_copy_65 : decode cX10_copy 65 = .ok (.invokevirtual 85, 3) := by decide +kernel
theorem dX10_copy_68 : decode cX10_copy 68 = .ok (.ifCond .eq 15, 3) := by decide +kernel
theorem dX10_copy_71 : decode cX10_copy 71 = .ok (.aload_n 0, 1) := by decide +kernel
theorem dX10_copy_72 : decode cX10_copy 72 = .ok (.iload_n 3, 1) := by decide +kernel
theorem dX10_copy_73 : decode cX10_copy 73 = .ok (.iload 4, 2) := by decide +kernel
theorem dX10_copy_75 : decode cX10_copy 75 = .ok (.iload 5, 2) := by decide +kernel
theorem dX10_copy_77 : decode cX10_copy 77 = .ok (.invokevirtual 85, 3) := by decide +kernel
theorem dX10_copy_80 : decode cX10_copy 80 = .ok (.ifCond .ne 9, 3) := by decide +kernel
theorem dX10_copy_83 : decode cX10_copy 83 = .ok (.aload_n 0, 1) := by decide +kernel
theorem dX10_copy_84 : decode cX10_copy 84 = .ok (.iconst 2, 1) := by decide +kernel
theorem dX10_copy_85 : decode cX10_copy 85 = .ok (.invokevirtual 71, 3) := by decide +kernel
theorem dX10_copy_88 : decode cX10_copy 88 = .ok (.ireturn, 1) := by decide +kernel
theorem dX10_copy_89 : decode cX10_copy 89 = .ok (.iconst 0, 1) := by decide +kernel
theorem dX10_copy_90 : decode cX10_copy 90 = .ok (.istore 6, 2) := by decide +kernel
theorem dX10_copy_92 : decode cX10_copy 92 = .ok (.iload 6, 2) := by decide +kernel
theorem dX10_copy_94 : decode cX10_copy 94 = .ok (.iload 5, 2) := by decide +kernel
theorem dX10_copy_96 : decode cX10_copy 96 = .ok (.if_icmp .ge 30, 3) := by decide +kernel
theorem dX10_copy_99 : decode cX10_copy 99 = .ok (.aload_n 0, 1) := by decide +kernel
theorem dX10_copy_100 : decode cX10_copy 100 = .ok (.getfield 19, 3) := by decide +kernel
theorem dX10_copy_103 : decode cX10_copy 103 = .ok (.iload 6, 2) := by decide +kernel
theorem dX10_copy_105 : decode cX10_copy 105 = .ok (.aload_n 0, 1) := by decide +kernel
theorem dX10_copy_106 : decode cX10_copy 106 = .ok (.getfield 16, 3) := by decide +kernel
theorem dX10_copy_109 : decode cX10_copy 109 = .ok (.bipush 40, 2) := by decide +kernel
theorem dX10_copy_111 : decode cX10_copy 111 = .ok (.iload_n 1, 1) := by decide +kernel
theorem dX10_copy_112 : decode cX10_copy 112 = .ok (.imul, 1) := by decide +kernel
theorem dX10_copy_113 : decode cX10_copy 113 = .ok (.iload_n 2, 1) := by decide +kernel
theorem dX10_copy_114 : decode cX10_copy 114 = .ok (.iadd, 1) := by decide +kernel
theorem dX10_copy_115 : decode cX10_copy 115 = .ok (.iload 6, 2) := by decide +kernel
theorem dX10_copy_117 : decode cX10_copy 117 = .ok (.iadd, 1) := by decide +kernel
theorem dX10_copy_118 : decode cX10_copy 118 = .ok (.iaload, 1) := by decide +kernel
theorem dX10_copy_119 : decode cX10_copy 119 = .ok (.iastore, 1) := by decide +kernel
theorem dX10_copy_120 : decode cX10_copy 120 = .ok (.iinc 6 1, 3) := by decide +kernel
theorem dX10_copy_123 : decode cX10_copy 123 = .ok (.goto (-31), 3) := by decide +kernel
theorem dX10_copy_126 : decode cX10_copy 126 = .ok (.iconst 0, 1) := by decide +kernel
theorem dX10_copy_127 : decode cX10_copy 127 = .ok (.istore 6, 2) := by decide +kernel
theorem dX10_copy_129 : decode cX10_copy 129 = .ok (.iload 6, 2) := by decide +kernel
theorem dX10_copy_131 : decode cX10_copy 131 = .ok (.iload 5, 2) := by decide +kernel
theorem dX10_copy_133 : decode cX10_copy 133 = .ok (.if_icmp .ge 31, 3) := by decide +kernel
theorem dX10_copy_136 : decode cX10_copy 136 = .ok (.aload_n 0, 1) := by decide +kernel
theorem dX10_copy_137 : decode cX10_copy 137 = .ok (.getfield 16, 3) := by decide +kernel
theorem dX10_copy_140 : decode cX10_copy 140 = .ok (.bipush 40, 2) := by decide +kernel
theorem dX10_copy_142 : decode cX10_copy 142 = .ok (.iload_n 3, 1) := by decide +kernel
theorem dX10_copy_143 : decode cX10_copy 143 = .ok (.imul, 1) := by decide +kernel
theorem dX10_copy_144 : decode cX10_copy 144 = .ok (.iload 4, 2) := by decide +kernel
theorem dX10_copy_146 : decode cX10_copy 146 = .ok (.iadd, 1) := by decide +kernel
theorem dX10_copy_147 : decode cX10_copy 147 = .ok (.iload 6, 2) := by decide +kernel
theorem dX10_copy_149 : decode cX10_copy 149 = .ok (.iadd, 1) := by decide +kernel
theorem dX10_copy_150 : decode cX10_copy 150 = .ok (.aload_n 0, 1) := by decide +kernel
theorem dX10_copy_151 : decode cX10_copy 151 = .ok (.getfield 19, 3) := by decide +kernel
theorem dX10_copy_154 : decode cX10_copy 154 = .ok (.iload 6, 2) := by decide +kernel
theorem dX10_copy_156 : decode cX10_copy 156 = .ok (.iaload, 1) := by decide +kernel
theorem dX10_copy_157 : decode cX10_copy 157 = .ok (.iastore, 1) := by decide +kernel
theorem dX10_copy_158 : decode cX10_copy 158 = .ok (.iinc 6 1, 3) := by decide +kernel
theorem dX10_copy_161 : decode cX10_copy 161 = .ok (.goto (-32), 3) := by decide +kernel
theorem dX10_copy_164 : decode cX10_copy 164 = .ok (.aload_n 0, 1) := by decide +kernel
theorem dX10_copy_165 : decode cX10_copy 165 = .ok (.iload 5, 2) := by decide +kernel
theorem dX10_copy_167 : decode cX10_copy 167 = .ok (.invokevirtual 75, 3) := by decide +kernel
theorem dX10_copy_170 : decode cX10_copy 170 = .ok (.ireturn, 1) := by decide +kernel
theorem dX10_drop_0 : decode cX10_drop 0 = .ok (.iload_n 1, 1) := by decide +kernel
theorem dX10_drop_1 : decode cX10_drop 1 = .ok (.invokestatic 66, 3) := by decide +kernel
theorem dX10_drop_4 : decode cX10_drop 4 = .ok (.ifCond .ne 6, 3) := by decide +kernel
theorem dX10_drop_7 : decode cX10_drop 7 = .ok (.ldc 70, 2) := by decide +kernel
theorem dX10_drop_9 : decode cX10_drop 9 = .ok (.ireturn, 1) := by decide +kernel
theorem dX10_drop_10 : decode cX10_drop 10 = .ok (.aload_n 0, 1) := by decide +kernel
theorem dX10_drop_11 : decode cX10_drop 11 = .ok (.iload_n 1, 1) := by decide +kernel
theorem dX10_drop_12 : decode cX10_drop 12 = .ok (.invokevirtual 78, 3) := by decide +kernel
theorem dX10_drop_15 : decode cX10_drop 15 = .ok (.ifCond .eq 9, 3) := by decide +kernel
theorem dX10_drop_18 : decode cX10_drop 18 = .ok (.aload_n 0, 1) := by decide +kernel
theorem dX10_drop_19 : decode cX10_drop 19 = .ok (.iconst 1, 1) := by decide +kernel
theorem dX10_drop_20 : decode cX10_drop 20 = .ok (.invokevirtual 71, 3) := by decide +kernel
theorem dX10_drop_23 : decode cX10_drop 23 = .ok (.ireturn, 1) := by decide +kernel
theorem dX10_drop_24 : decode cX10_drop 24 = .ok (.aload_n 0, 1) := by decide +kernel
theorem dX10_drop_25 : decode cX10_drop 25 = .ok (.getfield 7, 3) := by decide +kernel
theorem dX10_drop_28 : decode cX10_drop 28 = .ok (.iload_n 1, 1) := by decide +kernel
theorem dX10_drop_29 : decode cX10_drop 29 = .ok (.ldc 56, 2) := by decide +kernel
theorem dX10_drop_31 : decode cX10_drop 31 = .ok (.iastore, 1) := by decide +kernel
theorem dX10_drop_32 : decode cX10_drop 32 = .ok (.aload_n 0, 1) := by decide +kernel
theorem dX10_drop_33 : decode cX10_drop 33 = .ok (.aload_n 0, 1) := by decide +kernel
theorem dX10_drop_34 : decode cX10_drop 34 = .ok (.getfield 13, 3) := by decide +kernel
theorem dX10_drop_37 : decode cX10_drop 37 = .ok (.iload_n 1, 1) := by decide +kernel
theorem dX10_drop_38 : decode cX10_drop 38 = .ok (.iaload, 1) := by decide +kernel
theorem dX10_drop_39 : decode cX10_drop 39 = .ok (.invokevirtual 75, 3) := by decide +kernel
theorem dX10_drop_42 : decode cX10_drop 42 = .ok (.ireturn, 1) := by decide +kernel
theorem dX10_feed_0 : decode cX10_feed 0 = .ok (.iload_n 1, 1) := by decide +kernel
theorem dX10_feed_1 : decode cX10_feed 1 = .ok (.iconst 0, 1) := by decide +kernel
theorem dX10_feed_2 : decode cX10_feed 2 = .ok (.sipush 255, 3) := by decide +kernel
theorem dX10_feed_5 : decode cX10_feed 5 = .ok (.invokestatic 62, 3) := by decide +kernel
theorem dX10_feed_8 : decode cX10_feed 8 = .ok (.ifCond .ne 6, 3) := by decide +kernel
theorem dX10_feed_11 : decode cX10_feed 11 = .ok (.ldc 70, 2) := by decide +kernel
theorem dX10_feed_13 : decode cX10_feed 13 = .ok (.ireturn, 1) := by decide +kernel
theorem dX10_feed_14 : decode cX10_feed 14 = .ok (.aload_n 0, 1) := by decide +kernel
theorem dX10_feed_15 : decode cX10_feed 15 = .ok (.getfield 88, 3) := by decide +kernel
theorem dX10_feed_18 : decode cX10_feed 18 = .ok (.bipush 80, 2) := by decide +kernel
theorem dX10_feed_20 : decode cX10_feed 20 = .ok (.if_icmp .ne 6, 3) := by decide +kernel
theorem dX10_feed_23 : decode cX10_feed 23 = .ok (.ldc 91, 2) := by decide +kernel
theorem dX10_feed_25 : decode cX10_feed 25 = .ok (.ireturn, 1) := by decide +kernel
theorem dX10_feed_26 : decode cX10_feed 26 = .ok (.aload_n 0, 1) := by decide +kernel
theorem dX10_feed_27 : decode cX10_feed 27 = .ok (.getfield 22, 3) := by decide +kernel
theorem dX10_feed_30 : decode cX10_feed 30 = .ok (.aload_n 0, 1) := by decide +kernel
theorem dX10_feed_31 : decode cX10_feed 31 = .ok (.getfield 88, 3) := by decide +kernel
theorem dX10_feed_34 : decode cX10_feed 34 = .ok (.iload_n 1, 1) := by decide +kernel
theorem dX10_feed_35 : decode cX10_feed 35 = .ok (.iastore, 1) := by decide +kernel
theorem dX10_feed_36 : decode cX10_feed 36 = .ok (.aload_n 0, 1) := by decide +kernel
theorem dX10_feed_37 : decode cX10_feed 37 = .ok (.dup, 1) := by decide +kernel
theorem dX10_feed_38 : decode cX10_feed 38 = .ok (.getfield 88, 3) := by decide +kernel
theorem dX10_feed_41 : decode cX10_feed 41 = .ok (.iconst 1, 1) := by decide +kernel
theorem dX10_feed_42 : decode cX10_feed 42 = .ok (.iadd, 1) := by decide +kernel
theorem dX10_feed_43 : decode cX10_feed 43 = .ok (.putfield 88, 3) := by decide +kernel
theorem dX10_feed_46 : decode cX10_feed 46 = .ok (.aload_n 0, 1) := by decide +kernel
theorem dX10_feed_47 : decode cX10_feed 47 = .ok (.getfield 88, 3) := by decide +kernel
theorem dX10_feed_50 : decode cX10_feed 50 = .ok (.ireturn, 1) := by decide +kernel
theorem dX10_byteAt_0 : decode cX10_byteAt 0 = .ok (.iload_n 1, 1) := by decide +kernel
theorem dX10_byteAt_1 : decode cX10_byteAt 1 = .ok (.aload_n 0, 1) := by decide +kernel
theorem dX10_byteAt_2 : decode cX10_byteAt 2 = .ok (.getfield 88, 3) := by decide +kernel
theorem dX10_byteAt_5 : decode cX10_byteAt 5 = .ok (.if_icmp .ge 12, 3) := by decide +kernel
theorem dX10_byteAt_8 : decode cX10_byteAt 8 = .ok (.aload_n 0, 1) := by decide +kernel
theorem dX10_byteAt_9 : decode cX10_byteAt 9 = .ok (.getfield 22, 3) := by decide +kernel
theorem dX10_byteAt_12 : decode cX10_byteAt 12 = .ok (.iload_n 1, 1) := by decide +kernel
theorem dX10_byteAt_13 : decode cX10_byteAt 13 = .ok (.iaload, 1) := by decide +kernel
theorem dX10_byteAt_14 : decode cX10_byteAt 14 = .ok (.goto 4, 3) := by decide +kernel
theorem dX10_byteAt_17 : decode cX10_byteAt 17 = .ok (.iconst (-1), 1) := by decide +kernel
theorem dX10_byteAt_18 : decode cX10_byteAt 18 = .ok (.ireturn, 1) := by decide +kernel
theorem dX10_advances_0 : decode cX10_advances 0 = .ok (.aload_n 0, 1) := by decide +kernel
theorem dX10_advances_1 : decode cX10_advances 1 = .ok (.aload_n 0, 1) := by decide +kernel
theorem dX10_advances_2 : decode cX10_advances 2 = .ok (.getfield 92, 3) := by decide +kernel
theorem dX10_advances_5 : decode cX10_advances 5 = .ok (.putfield 95, 3) := by decide +kernel
theorem dX10_advances_8 : decode cX10_advances 8 = .ok (.aload_n 0, 1) := by decide +kernel
theorem dX10_advances_9 : decode cX10_advances 9 = .ok (.aload_n 0, 1) := by decide +kernel
theorem dX10_advances_10 : decode cX10_advances 10 = .ok (.getfield 92, 3) := by decide +kernel
theorem dX10_advances_13 : decode cX10_advances 13 = .ok (.invokevirtual 98, 3) := by decide +kernel
theorem dX10_advances_16 : decode cX10_advances 16 = .ok (.istore_n 1, 1) := by decide +kernel
theorem dX10_advances_17 : decode cX10_advances 17 = .ok (.aload_n 0, 1) := by decide +kernel
theorem dX10_advances_18 : decode cX10_advances 18 = .ok (.iload_n 1, 1) := by decide +kernel
theorem dX10_advances_19 : decode cX10_advances 19 = .ok (.putfield 101, 3) := by decide +kernel
theorem dX10_advances_22 : decode cX10_advances 22 = .ok (.iload_n 1, 1) := by decide +kernel
theorem dX10_advances_23 : decode cX10_advances 23 = .ok (.bipush 48, 2) := by decide +kernel
theorem dX10_advances_25 : decode cX10_advances 25 = .ok (.bipush 57, 2) := by decide +kernel
theorem dX10_advances_27 : decode cX10_advances 27 = .ok (.invokestatic 62, 3) := by decide +kernel
theorem dX10_advances_30 : decode cX10_advances 30 = .ok (.ifCond .eq 105, 3) := by decide +kernel
theorem dX10_advances_33 : decode cX10_advances 33 = .ok (.aload_n 0, 1) := by decide +kernel
theorem dX10_advances_34 : decode cX10_advances 34 = .ok (.iconst 0, 1) := by decide +kernel
theorem dX10_advances_35 : decode cX10_advances 35 = .ok (.putfield 101, 3) := by decide +kernel
theorem dX10_advances_38 : decode cX10_advances 38 = .ok (.aload_n 0, 1) := by decide +kernel
theorem dX10_advances_39 : decode cX10_advances 39 = .ok (.aload_n 0, 1) := by decide +kernel
theorem dX10_advances_40 : decode cX10_advances 40 = .ok (.getfield 92, 3) := by decide +kernel
theorem dX10_advances_43 : decode cX10_advances 43 = .ok (.invokevirtual 98, 3) := by decide +kernel
theorem dX10_advances_46 : decode cX10_advances 46 = .ok (.bipush 48, 2) := by decide +kernel
theorem dX10_advances_48 : decode cX10_advances 48 = .ok (.bipush 57, 2) := by decide +kernel
theorem dX10_advances_50 : decode cX10_advances 50 = .ok (.invokestatic 62, 3) := by decide +kernel
theorem dX10_advances_53 : decode cX10_advances 53 = .ok (.ifCond .eq 59, 3) := by decide +kernel
theorem dX10_advances_56 : decode cX10_advances 56 = .ok (.aload_n 0, 1) := by decide +kernel
theorem dX10_advances_57 : decode cX10_advances 57 = .ok (.aload_n 0, 1) := by decide +kernel
theorem dX10_advances_58 : decode cX10_advances 58 = .ok (.getfield 92, 3) := by decide +kernel
theorem dX10_advances_61 : decode cX10_advances 61 = .ok (.aload_n 0, 1) := by decide +kernel
theorem dX10_advances_62 : decode cX10_advances 62 = .ok (.getfield 95, 3) := by decide +kernel
theorem dX10_advances_65 : decode cX10_advances 65 = .ok (.isub, 1) := by decide +kernel
theorem dX10_advances_66 : decode cX10_advances 66 = .ok (.iconst 2, 1) := by decide +kernel
theorem dX10_advances_67 : decode cX10_advances 67 = .ok (.if_icmp .ge 25, 3) := by decide +kernel
theorem dX10_advances_70 : decode cX10_advances 70 = .ok (.bipush 10, 2) := by decide +kernel
theorem dX10_advances_72 : decode cX10_advances 72 = .ok (.aload_n 0, 1) := by decide +kernel
theorem dX10_advances_73 : decode cX10_advances 73 = .ok (.getfield 101, 3) := by decide +kernel
theorem dX10_advances_76 : decode cX10_advances 76 = .ok (.imul, 1) := by decide +kernel
theorem dX10_advances_77 : decode cX10_advances 77 = .ok (.aload_n 0, 1) := by decide +kernel
theorem dX10_advances_78 : decode cX10_advances 78 = .ok (.aload_n 0, 1) := by decide +kernel
theorem dX10_advances_79 : decode cX10_advances 79 = .ok (.getfield 92, 3) := by decide +kernel
theorem dX10_advances_82 : decode cX10_advances 82 = .ok (.invokevirtual 98, 3) := by decide +kernel
theorem dX10_advances_85 : decode cX10_advances 85 = .ok (.iadd, 1) := by decide +kernel
theorem dX10_advances_86 : decode cX10_advances 86 = .ok (.bipush 48, 2) := by decide +kernel
theorem dX10_advances_88 : decode cX10_advances 88 = .ok (.isub, 1) := by decide +kernel
theorem dX10_advances_89 : decode cX10_advances 89 = .ok (.goto 7, 3) := by decide +kernel
theorem dX10_advances_92 : decode cX10_advances 92 = .ok (.aload_n 0, 1) := by decide +kernel
theorem dX10_advances_93 : decode cX10_advances 93 = .ok (.getfield 101, 3) := by decide +kernel
theorem dX10_advances_96 : decode cX10_advances 96 = .ok (.putfield 101, 3) := by decide +kernel
theorem dX10_advances_99 : decode cX10_advances 99 = .ok (.aload_n 0, 1) := by decide +kernel
theorem dX10_advances_100 : decode cX10_advances 100 = .ok (.dup, 1) := by decide +kernel
theorem dX10_advances_101 : decode cX10_advances 101 = .ok (.getfield 92, 3) := by decide +kernel
theorem dX10_advances_104 : decode cX10_advances 104 = .ok (.iconst 1, 1) := by decide +kernel
theorem dX10_advances_105 : decode cX10_advances 105 = .ok (.iadd, 1) := by decide +kernel
theorem dX10_advances_106 : decode cX10_advances 106 = .ok (.putfield 92, 3) := by decide +kernel
theorem dX10_advances_109 : decode cX10_advances 109 = .ok (.goto (-71), 3) := by decide +kernel
theorem dX10_advances_112 : decode cX10_advances 112 = .ok (.aload_n 0, 1) := by decide +kernel
theorem dX10_advances_113 : decode cX10_advances 113 = .ok (.aload_n 0, 1) := by decide +kernel
theorem dX10_advances_114 : decode cX10_advances 114 = .ok (.getfield 92, 3) := by decide +kernel
theorem dX10_advances_117 : decode cX10_advances 117 = .ok (.aload_n 0, 1) := by decide +kernel
theorem dX10_advances_118 : decode cX10_advances 118 = .ok (.getfield 95, 3) := by decide +kernel
theorem dX10_advances_121 : decode cX10_advances 121 = .ok (.isub, 1) := by decide +kernel
theorem dX10_advances_122 : decode cX10_advances 122 = .ok (.iconst 3, 1) := by decide +kernel
theorem dX10_advances_123 : decode cX10_advances 123 = .ok (.if_icmp .ge 7, 3) := by decide +kernel
theorem dX10_advances_126 : decode cX10_advances 126 = .ok (.iconst 2, 1) := by decide +kernel
theorem dX10_advances_127 : decode cX10_advances 127 = .ok (.goto 4, 3) := by decide +kernel
theorem dX10_advances_130 : decode cX10_advances 130 = .ok (.iconst 5, 1) := by decide +kernel
theorem dX10_advances_131 : decode cX10_advances 131 = .ok (.putfield 104, 3) := by decide +kernel
theorem dX10_advances_134 : decode cX10_advances 134 = .ok (.return_, 1) := by decide +kernel
theorem dX10_advances_135 : decode cX10_advances 135 = .ok (.aload_n 0, 1) := by decide +kernel
theorem dX10_advances_136 : decode cX10_advances 136 = .ok (.iload_n 1, 1) := by decide +kernel
theorem dX10_advances_137 : decode cX10_advances 137 = .ok (.ifCond .ge 7, 3) := by decide +kernel
theorem dX10_advances_140 : decode cX10_advances 140 = .ok (.iconst 0, 1) := by decide +kernel
theorem dX10_advances_141 : decode cX10_advances 141 = .ok (.goto 39, 3) := by decide +kernel
theorem dX10_advances_144 : decode cX10_advances 144 = .ok (.iload_n 1, 1) := by decide +kernel
theorem dX10_advances_145 : decode cX10_advances 145 = .ok (.bipush 97, 2) := by decide +kernel
theorem dX10_advances_147 : decode cX10_advances 147 = .ok (.bipush 122, 2) := by decide +kernel
theorem dX10_advances_149 : decode cX10_advances 149 = .ok (.invokestatic 62, 3) := by decide +kernel
theorem dX10_advances_152 : decode cX10_advances 152 = .ok (.ifCond .eq 7, 3) := by decide +kernel
theorem dX10_advances_155 : decode cX10_advances 155 = .ok (.iconst 1, 1) := by decide +kernel
theorem dX10_advances_156 : decode cX10_advances 156 = .ok (.goto 24, 3) := by decide +kernel
theorem dX10_advances_159 : decode cX10_advances 159 = .ok (.iload_n 1, 1) := by decide +kernel
theorem dX10_advances_160 : decode cX10_advances 160 = .ok (.bipush 44, 2) := by decide +kernel
theorem dX10_advances_162 : decode cX10_advances 162 = .ok (.if_icmp .ne 7, 3) := by decide +kernel
theorem dX10_advances_165 : decode cX10_advances 165 = .ok (.iconst 3, 1) := by decide +kernel
theorem dX10_advances_166 : decode cX10_advances 166 = .ok (.goto 14, 3) := by decide +kernel
theorem dX10_advances_169 : decode cX10_advances 169 = .ok (.iload_n 1, 1) := by decide +kernel
theorem dX10_advances_170 : decode cX10_advances 170 = .ok (.bipush 59, 2) := by decide +kernel
theorem dX10_advances_172 : decode cX10_advances 172 = .ok (.if_icmp .ne 7, 3) := by decide +kernel
theorem dX10_advances_175 : decode cX10_advances 175 = .ok (.iconst 4, 1) := by decide +kernel
theorem dX10_advances_176 : decode cX10_advances 176 = .ok (.goto 4, 3) := by decide +kernel
theorem dX10_advances_179 : decode cX10_advances 179 = .ok (.iconst 5, 1) := by decide +kernel
theorem dX10_advances_180 : decode cX10_advances 180 = .ok (.putfield 104, 3) := by decide +kernel
theorem dX10_advances_183 : decode cX10_advances 183 = .ok (.aload_n 0, 1) := by decide +kernel
theorem dX10_advances_184 : decode cX10_advances 184 = .ok (.dup, 1) := by decide +kernel
theorem dX10_advances_185 : decode cX10_advances 185 = .ok (.getfield 92, 3) := by decide +kernel
theorem dX10_advances_188 : decode cX10_advances 188 = .ok (.aload_n 0, 1) := by decide +kernel
theorem dX10_advances_189 : decode cX10_advances 189 = .ok (.getfield 104, 3) := by decide +kernel
theorem dX10_advances_192 : decode cX10_advances 192 = .ok (.ifCond .ne 7, 3) := by decide +kernel
theorem dX10_advances_195 : decode cX10_advances 195 = .ok (.iconst 0, 1) := by decide +kernel
theorem dX10_advances_196 : decode cX10_advances 196 = .ok (.goto 4, 3) := by decide +kernel
theorem dX10_advances_199 : decode cX10_advances 199 = .ok (.iconst 1, 1) := by decide +kernel
theorem dX10_advances_200 : decode cX10_advances 200 = .ok (.iadd, 1) := by decide +kernel
theorem dX10_advances_201 : decode cX10_advances 201 = .ok (.putfield 92, 3) := by decide +kernel
theorem dX10_advances_204 : decode cX10_advances 204 = .ok (.return_, 1) := by decide +kernel
theorem dX10_isWell_0 : decode cX10_isWell 0 = .ok (.aload_n 0, 1) := by decide +kernel
theorem dX10_isWell_1 : decode cX10_isWell 1 = .ok (.getfield 107, 3) := by decide +kernel
theorem dX10_isWell_4 : decode cX10_isWell 4 = .ok (.ifCond .ge 7, 3) := by decide +kernel
theorem dX10_isWell_7 : decode cX10_isWell 7 = .ok (.iconst 1, 1) := by decide +kernel
theorem dX10_isWell_8 : decode cX10_isWell 8 = .ok (.goto 4, 3) := by decide +kernel
theorem dX10_isWell_11 : decode cX10_isWell 11 = .ok (.iconst 0, 1) := by decide +kernel
theorem dX10_isWell_12 : decode cX10_isWell 12 = .ok (.ireturn, 1) := by decide +kernel
theorem dX10_takes_0 : decode cX10_takes 0 = .ok (.aload_n 0, 1) := by decide +kernel
theorem dX10_takes_1 : decode cX10_takes 1 = .ok (.invokevirtual 110, 3) := by decide +kernel
theorem dX10_takes_4 : decode cX10_takes 4 = .ok (.ifCond .ne 5, 3) := by decide +kernel
theorem dX10_takes_7 : decode cX10_takes 7 = .ok (.iconst 0, 1) := by decide +kernel
theorem dX10_takes_8 : decode cX10_takes 8 = .ok (.ireturn, 1) := by decide +kernel
theorem dX10_takes_9 : decode cX10_takes 9 = .ok (.iload_n 1, 1) := by decide +kernel
theorem dX10_takes_10 : decode cX10_takes 10 = .ok (.ifCond .ne 18, 3) := by decide +kernel
theorem dX10_takes_13 : decode cX10_takes 13 = .ok (.aload_n 0, 1) := by decide +kernel
theorem dX10_takes_14 : decode cX10_takes 14 = .ok (.aload_n 0, 1) := by decide +kernel
theorem dX10_takes_15 : decode cX10_takes 15 = .ok (.getfield 95, 3) := by decide +kernel
theorem dX10_takes_18 : decode cX10_takes 18 = .ok (.putfield 107, 3) := by decide +kernel
theorem dX10_takes_21 : decode cX10_takes 21 = .ok (.aload_n 0, 1) := by decide +kernel
theorem dX10_takes_22 : decode cX10_takes 22 = .ok (.iload_n 2, 1) := by decide +kernel
theorem dX10_takes_23 : decode cX10_takes 23 = .ok (.putfield 114, 3) := by decide +kernel
theorem dX10_takes_26 : decode cX10_takes 26 = .ok (.iconst 0, 1) := by decide +kernel
theorem dX10_takes_27 : decode cX10_takes 27 = .ok (.ireturn, 1) := by decide +kernel
theorem dX10_takes_28 : decode cX10_takes 28 = .ok (.aload_n 0, 1) := by decide +kernel
theorem dX10_takes_29 : decode cX10_takes 29 = .ok (.getfield 101, 3) := by decide +kernel
theorem dX10_takes_32 : decode cX10_takes 32 = .ok (.istore_n 3, 1) := by decide +kernel
theorem dX10_takes_33 : decode cX10_takes 33 = .ok (.aload_n 0, 1) := by decide +kernel
theorem dX10_takes_34 : decode cX10_takes 34 = .ok (.invokevirtual 117, 3) := by decide +kernel
theorem dX10_takes_37 : decode cX10_takes 37 = .ok (.iload_n 3, 1) := by decide +kernel
theorem dX10_takes_38 : decode cX10_takes 38 = .ok (.ireturn, 1) := by decide +kernel
theorem dX10_figure_0 : decode cX10_figure 0 = .ok (.aload_n 0, 1) := by decide +kernel
theorem dX10_figure_1 : decode cX10_figure 1 = .ok (.invokevirtual 110, 3) := by decide +kernel
theorem dX10_figure_4 : decode cX10_figure 4 = .ok (.ifCond .eq 18, 3) := by decide +kernel
theorem dX10_figure_7 : decode cX10_figure 7 = .ok (.aload_n 0, 1) := by decide +kernel
theorem dX10_figure_8 : decode cX10_figure 8 = .ok (.getfield 104, 3) := by decide +kernel
theorem dX10_figure_11 : decode cX10_figure 11 = .ok (.iconst 2, 1) := by decide +kernel
theorem dX10_figure_12 : decode cX10_figure 12 = .ok (.if_icmp .eq 10, 3) := by decide +kernel
theorem dX10_figure_15 : decode cX10_figure 15 = .ok (.aload_n 0, 1) := by decide +kernel
theorem dX10_figure_16 : decode cX10_figure 16 = .ok (.iconst 0, 1) := by decide +kernel
theorem dX10_figure_17 : decode cX10_figure 17 = .ok (.iconst 1, 1) := by decide +kernel
theorem dX10_figure_18 : decode cX10_figure 18 = .ok (.invokevirtual 120, 3) := by decide +kernel
theorem dX10_figure_21 : decode cX10_figure 21 = .ok (.ireturn, 1) := by decide +kernel
theorem dX10_figure_22 : decode cX10_figure 22 = .ok (.aload_n 0, 1) := by decide +kernel
theorem dX10_figure_23 : decode cX10_figure 23 = .ok (.aload_n 0, 1) := by decide +kernel
theorem dX10_figure_24 : decode cX10_figure 24 = .ok (.getfield 101, 3) := by decide +kernel
theorem dX10_figure_27 : decode cX10_figure 27 = .ok (.iload_n 1, 1) := by decide +kernel
theorem dX10_figure_28 : decode cX10_figure 28 = .ok (.iload_n 2, 1) := by decide +kernel
theorem dX10_figure_29 : decode cX10_figure 29 = .ok (.invokestatic 62, 3) := by decide +kernel
theorem dX10_figure_32 : decode cX10_figure 32 = .ok (.iconst 2, 1) := by decide +kernel
theorem dX10_figure_33 : decode cX10_figure 33 = .ok (.invokevirtual 120, 3) := by decide +kernel
theorem dX10_figure_36 : decode cX10_figure 36 = .ok (.ireturn, 1) := by decide +kernel
theorem dX10_kindOf_0 : decode cX10_kindOf 0 = .ok (.iload_n 0, 1) := by decide +kernel
theorem dX10_kindOf_1 : decode cX10_kindOf 1 = .ok (.bipush 112, 2) := by decide +kernel
theorem dX10_kindOf_3 : decode cX10_kindOf 3 = .ok (.if_icmp .ne 7, 3) := by decide +kernel
theorem dX10_kindOf_6 : decode cX10_kindOf 6 = .ok (.iconst 1, 1) := by decide +kernel
theorem dX10_kindOf_7 : decode cX10_kindOf 7 = .ok (.goto 44, 3) := by decide +kernel
theorem dX10_kindOf_10 : decode cX10_kindOf 10 = .ok (.iload_n 0, 1) := by decide +kernel
theorem dX10_kindOf_11 : decode cX10_kindOf 11 = .ok (.bipush 115, 2) := by decide +kernel
theorem dX10_kindOf_13 : decode cX10_kindOf 13 = .ok (.if_icmp .ne 7, 3) := by decide +kernel
theorem dX10_kindOf_16 : decode cX10_kindOf 16 = .ok (.iconst 2, 1) := by decide +kernel
theorem dX10_kindOf_17 : decode cX10_kindOf 17 = .ok (.goto 34, 3) := by decide +kernel
theorem dX10_kindOf_20 : decode cX10_kindOf 20 = .ok (.iload_n 0, 1) := by decide +kernel
theorem dX10_kindOf_21 : decode cX10_kindOf 21 = .ok (.bipush 110, 2) := by decide +kernel
theorem dX10_kindOf_23 : decode cX10_kindOf 23 = .ok (.if_icmp .ne 7, 3) := by decide +kernel
theorem dX10_kindOf_26 : decode cX10_kindOf 26 = .ok (.iconst 3, 1) := by decide +kernel
theorem dX10_kindOf_27 : decode cX10_kindOf 27 = .ok (.goto 24, 3) := by decide +kernel
theorem dX10_kindOf_30 : decode cX10_kindOf 30 = .ok (.iload_n 0, 1) := by decide +kernel
theorem dX10_kindOf_31 : decode cX10_kindOf 31 = .ok (.bipush 103, 2) := by decide +kernel
theorem dX10_kindOf_33 : decode cX10_kindOf 33 = .ok (.if_icmp .ne 7, 3) := by decide +kernel
theorem dX10_kindOf_36 : decode cX10_kindOf 36 = .ok (.iconst 4, 1) := by decide +kernel
theorem dX10_kindOf_37 : decode cX10_kindOf 37 = .ok (.goto 14, 3) := by decide +kernel
theorem dX10_kindOf_40 : decode cX10_kindOf 40 = .ok (.iload_n 0, 1) := by decide +kernel
theorem dX10_kindOf_41 : decode cX10_kindOf 41 = .ok (.bipush 107, 2) := by decide +kernel
theorem dX10_kindOf_43 : decode cX10_kindOf 43 = .ok (.if_icmp .ne 7, 3) := by decide +kernel
theorem dX10_kindOf_46 : decode cX10_kindOf 46 = .ok (.iconst 5, 1) := by decide +kernel
theorem dX10_kindOf_47 : decode cX10_kindOf 47 = .ok (.goto 4, 3) := by decide +kernel
theorem dX10_kindOf_50 : decode cX10_kindOf 50 = .ok (.iconst 0, 1) := by decide +kernel
theorem dX10_kindOf_51 : decode cX10_kindOf 51 = .ok (.ireturn, 1) := by decide +kernel
theorem dX10_must_0 : decode cX10_must 0 = .ok (.aload_n 0, 1) := by decide +kernel
theorem dX10_must_1 : decode cX10_must 1 = .ok (.invokevirtual 110, 3) := by decide +kernel
theorem dX10_must_4 : decode cX10_must 4 = .ok (.ifCond .eq 14, 3) := by decide +kernel
theorem dX10_must_7 : decode cX10_must 7 = .ok (.iload_n 1, 1) := by decide +kernel
theorem dX10_must_8 : decode cX10_must 8 = .ok (.ifCond .ne 10, 3) := by decide +kernel
theorem dX10_must_11 : decode cX10_must 11 = .ok (.aload_n 0, 1) := by decide +kernel
theorem dX10_must_12 : decode cX10_must 12 = .ok (.iconst 0, 1) := by decide +kernel
theorem dX10_must_13 : decode cX10_must 13 = .ok (.iconst 1, 1) := by decide +kernel
theorem dX10_must_14 : decode cX10_must 14 = .ok (.invokevirtual 120, 3) := by decide +kernel
theorem dX10_must_17 : decode cX10_must 17 = .ok (.pop, 1) := by decide +kernel
theorem dX10_must_18 : decode cX10_must 18 = .ok (.return_, 1) := by decide +kernel
theorem dX10_readsPage_0 : decode cX10_readsPage 0 = .ok (.iconst 4, 1) := by decide +kernel
theorem dX10_readsPage_1 : decode cX10_readsPage 1 = .ok (.iconst 5, 1) := by decide +kernel
theorem dX10_readsPage_2 : decode cX10_readsPage 2 = .ok (.iload_n 1, 1) := by decide +kernel
theorem dX10_readsPage_3 : decode cX10_readsPage 3 = .ok (.imul, 1) := by decide +kernel
theorem dX10_readsPage_4 : decode cX10_readsPage 4 = .ok (.iadd, 1) := by decide +kernel
theorem dX10_readsPage_5 : decode cX10_readsPage 5 = .ok (.istore_n 2, 1) := by decide +kernel
theorem dX10_readsPage_6 : decode cX10_readsPage 6 = .ok (.aload_n 0, 1) := by decide +kernel
theorem dX10_readsPage_7 : decode cX10_readsPage 7 = .ok (.getfield 28, 3) := by decide +kernel
theorem dX10_readsPage_10 : decode cX10_readsPage 10 = .ok (.iload_n 2, 1) := by decide +kernel
theorem dX10_readsPage_11 : decode cX10_readsPage 11 = .ok (.iconst 1, 1) := by decide +kernel
theorem dX10_readsPage_12 : decode cX10_readsPage 12 = .ok (.iadd, 1) := by decide +kernel
theorem dX10_readsPage_13 : decode cX10_readsPage 13 = .ok (.aload_n 0, 1) := by decide +kernel
theorem dX10_readsPage_14 : decode cX10_readsPage 14 = .ok (.iconst 0, 1) := by decide +kernel
theorem dX10_readsPage_15 : decode cX10_readsPage 15 = .ok (.aload_n 0, 1) := by decide +kernel
theorem dX10_readsPage_16 : decode cX10_readsPage 16 = .ok (.getfield 28, 3) := by decide +kernel
theorem dX10_readsPage_19 : decode cX10_readsPage 19 = .ok (.iconst 0, 1) := by decide +kernel
theorem dX10_readsPage_20 : decode cX10_readsPage 20 = .ok (.iaload, 1) := by decide +kernel
theorem dX10_readsPage_21 : decode cX10_readsPage 21 = .ok (.iconst 1, 1) := by decide +kernel
theorem dX10_readsPage_22 : decode cX10_readsPage 22 = .ok (.isub, 1) := by decide +kernel
theorem dX10_readsPage_23 : decode cX10_readsPage 23 = .ok (.invokevirtual 124, 3) := by decide +kernel
theorem dX10_readsPage_26 : decode cX10_readsPage 26 = .ok (.iastore, 1) := by decide +kernel
theorem dX10_readsPage_27 : decode cX10_readsPage 27 = .ok (.aload_n 0, 1) := by decide +kernel
theorem dX10_readsPage_28 : decode cX10_readsPage 28 = .ok (.getfield 28, 3) := by decide +kernel
theorem dX10_readsPage_31 : decode cX10_readsPage 31 = .ok (.iload_n 2, 1) := by decide +kernel
theorem dX10_readsPage_32 : decode cX10_readsPage 32 = .ok (.iconst 1, 1) := by decide +kernel
theorem dX10_readsPage_33 : decode cX10_readsPage 33 = .ok (.iastore, 1) := by decide +kernel
theorem dX10_readsPage_34 : decode cX10_readsPage 34 = .ok (.aload_n 0, 1) := by decide +kernel
theorem dX10_readsPage_35 : decode cX10_readsPage 35 = .ok (.invokevirtual 110, 3) := by decide +kernel
theorem dX10_readsPage_38 : decode cX10_readsPage 38 = .ok (.ifCond .eq 69, 3) := by decide +kernel
theorem dX10_readsPage_41 : decode cX10_readsPage 41 = .ok (.aload_n 0, 1) := by decide +kernel
theorem dX10_readsPage_42 : decode cX10_readsPage 42 = .ok (.getfield 104, 3) := by decide +kernel
theorem dX10_readsPage_45 : decode cX10_readsPage 45 = .ok (.iconst 3, 1) := by decide +kernel
theorem dX10_readsPage_46 : decode cX10_readsPage 46 = .ok (.if_icmp .ne 61, 3) := by decide +kernel
theorem dX10_readsPage_49 : decode cX10_readsPage 49 = .ok (.aload_n 0, 1) := by decide +kernel
theorem dX10_readsPage_50 : decode cX10_readsPage 50 = .ok (.getfield 28, 3) := by decide +kernel
theorem dX10_readsPage_53 : decode cX10_readsPage 53 = .ok (.iload_n 2, 1) := by decide +kernel
theorem dX10_readsPage_54 : decode cX10_readsPage 54 = .ok (.iaload, 1) := by decide +kernel
theorem dX10_readsPage_55 : decode cX10_readsPage 55 = .ok (.iconst 3, 1) := by decide +kernel
theorem dX10_readsPage_56 : decode cX10_readsPage 56 = .ok (.if_icmp .ge 51, 3) := by decide +kernel
theorem dX10_readsPage_59 : decode cX10_readsPage 59 = .ok (.aload_n 0, 1) := by decide +kernel
theorem dX10_readsPage_60 : decode cX10_readsPage 60 = .ok (.iconst 1, 1) := by decide +kernel
theorem dX10_readsPage_61 : decode cX10_readsPage 61 = .ok (.iconst 1, 1) := by decide +kernel
theorem dX10_readsPage_62 : decode cX10_readsPage 62 = .ok (.invokevirtual 120, 3) := by decide +kernel
theorem dX10_readsPage_65 : decode cX10_readsPage 65 = .ok (.pop, 1) := by decide +kernel
theorem dX10_readsPage_66 : decode cX10_readsPage 66 = .ok (.aload_n 0, 1) := by decide +kernel
theorem dX10_readsPage_67 : decode cX10_readsPage 67 = .ok (.iconst 0, 1) := by decide +kernel
theorem dX10_readsPage_68 : decode cX10_readsPage 68 = .ok (.aload_n 0, 1) := by decide +kernel
theorem dX10_readsPage_69 : decode cX10_readsPage 69 = .ok (.getfield 28, 3) := by decide +kernel
theorem dX10_readsPage_72 : decode cX10_readsPage 72 = .ok (.iconst 0, 1) := by decide +kernel
theorem dX10_readsPage_73 : decode cX10_readsPage 73 = .ok (.iaload, 1) := by decide +kernel
theorem dX10_readsPage_74 : decode cX10_readsPage 74 = .ok (.iconst 1, 1) := by decide +kernel
theorem dX10_readsPage_75 : decode cX10_readsPage 75 = .ok (.isub, 1) := by decide +kernel
theorem dX10_readsPage_76 : decode cX10_readsPage 76 = .ok (.invokevirtual 124, 3) := by decide +kernel
theorem dX10_readsPage_79 : decode cX10_readsPage 79 = .ok (.istore_n 3, 1) := by decide +kernel
theorem dX10_readsPage_80 : decode cX10_readsPage 80 = .ok (.aload_n 0, 1) := by decide +kernel
theorem dX10_readsPage_81 : decode cX10_readsPage 81 = .ok (.getfield 28, 3) := by decide +kernel
theorem dX10_readsPage_84 : decode cX10_readsPage 84 = .ok (.iload_n 2, 1) := by decide +kernel
theorem dX10_readsPage_85 : decode cX10_readsPage 85 = .ok (.dup2, 1) := by decide +kernel
theorem dX10_readsPage_86 : decode cX10_readsPage 86 = .ok (.iaload, 1) := by decide +kernel
theorem dX10_readsPage_87 : decode cX10_readsPage 87 = .ok (.iconst 1, 1) := by decide +kernel
theorem dX10_readsPage_88 : decode cX10_readsPage 88 = .ok (.iadd, 1) := by decide +kernel
theorem dX10_readsPage_89 : decode cX10_readsPage 89 = .ok (.iastore, 1) := by decide +kernel
theorem dX10_readsPage_90 : decode cX10_readsPage 90 = .ok (.aload_n 0, 1) := by decide +kernel
theorem dX10_readsPage_91 : decode cX10_readsPage 91 = .ok (.getfield 28, 3) := by decide +kernel
theorem dX10_readsPage_94 : decode cX10_readsPage 94 = .ok (.iload_n 2, 1) := by decide +kernel
theorem dX10_readsPage_95 : decode cX10_readsPage 95 = .ok (.aload_n 0, 1) := by decide +kernel
theorem dX10_readsPage_96 : decode cX10_readsPage 96 = .ok (.getfield 28, 3) := by decide +kernel
theorem dX10_readsPage_99 : decode cX10_readsPage 99 = .ok (.iload_n 2, 1) := by decide +kernel
theorem dX10_readsPage_100 : decode cX10_readsPage 100 = .ok (.iaload, 1) := by decide +kernel
theorem dX10_readsPage_101 : decode cX10_readsPage 101 = .ok (.iadd, 1) := by decide +kernel
theorem dX10_readsPage_102 : decode cX10_readsPage 102 = .ok (.iload_n 3, 1) := by decide +kernel
theorem dX10_readsPage_103 : decode cX10_readsPage 103 = .ok (.iastore, 1) := by decide +kernel
theorem dX10_readsPage_104 : decode cX10_readsPage 104 = .ok (.goto (-70), 3) := by decide +kernel
theorem dX10_readsPage_107 : decode cX10_readsPage 107 = .ok (.aload_n 0, 1) := by decide +kernel
theorem dX10_readsPage_108 : decode cX10_readsPage 108 = .ok (.aload_n 0, 1) := by decide +kernel
theorem dX10_readsPage_109 : decode cX10_readsPage 109 = .ok (.getfield 104, 3) := by decide +kernel
theorem dX10_readsPage_112 : decode cX10_readsPage 112 = .ok (.iconst 4, 1) := by decide +kernel
theorem dX10_readsPage_113 : decode cX10_readsPage 113 = .ok (.if_icmp .ne 7, 3) := by decide +kernel
theorem dX10_readsPage_116 : decode cX10_readsPage 116 = .ok (.iconst 1, 1) := by decide +kernel
theorem dX10_readsPage_117 : decode cX10_readsPage 117 = .ok (.goto 4, 3) := by decide +kernel
theorem dX10_readsPage_120 : decode cX10_readsPage 120 = .ok (.iconst 0, 1) := by decide +kernel
theorem dX10_readsPage_121 : decode cX10_readsPage 121 = .ok (.iconst 1, 1) := by decide +kernel
theorem dX10_readsPage_122 : decode cX10_readsPage 122 = .ok (.invokevirtual 120, 3) := by decide +kernel
theorem dX10_readsPage_125 : decode cX10_readsPage 125 = .ok (.pop, 1) := by decide +kernel
theorem dX10_readsPage_126 : decode cX10_readsPage 126 = .ok (.return_, 1) := by decide +kernel
theorem dX10_readsTab_0 : decode cX10_readsTab 0 = .ok (.aload_n 0, 1) := by decide +kernel
theorem dX10_readsTab_1 : decode cX10_readsTab 1 = .ok (.getfield 101, 3) := by decide +kernel
theorem dX10_readsTab_4 : decode cX10_readsTab 4 = .ok (.invokestatic 127, 3) := by decide +kernel
theorem dX10_readsTab_7 : decode cX10_readsTab 7 = .ok (.istore_n 1, 1) := by decide +kernel
theorem dX10_readsTab_8 : decode cX10_readsTab 8 = .ok (.aload_n 0, 1) := by decide +kernel
theorem dX10_readsTab_9 : decode cX10_readsTab 9 = .ok (.aload_n 0, 1) := by decide +kernel
theorem dX10_readsTab_10 : decode cX10_readsTab 10 = .ok (.getfield 28, 3) := by decide +kernel
theorem dX10_readsTab_13 : decode cX10_readsTab 13 = .ok (.iconst 1, 1) := by decide +kernel
theorem dX10_readsTab_14 : decode cX10_readsTab 14 = .ok (.iaload, 1) := by decide +kernel
theorem dX10_readsTab_15 : decode cX10_readsTab 15 = .ok (.iconst 5, 1) := by decide +kernel
theorem dX10_readsTab_16 : decode cX10_readsTab 16 = .ok (.if_icmp .ge 7, 3) := by decide +kernel
theorem dX10_readsTab_19 : decode cX10_readsTab 19 = .ok (.iconst 1, 1) := by decide +kernel
theorem dX10_readsTab_20 : decode cX10_readsTab 20 = .ok (.goto 4, 3) := by decide +kernel
theorem dX10_readsTab_23 : decode cX10_readsTab 23 = .ok (.iconst 0, 1) := by decide +kernel
theorem dX10_readsTab_24 : decode cX10_readsTab 24 = .ok (.iconst 3, 1) := by decide +kernel
theorem dX10_readsTab_25 : decode cX10_readsTab 25 = .ok (.invokevirtual 120, 3) := by decide +kernel
theorem dX10_readsTab_28 : decode cX10_readsTab 28 = .ok (.pop, 1) := by decide +kernel
theorem dX10_readsTab_29 : decode cX10_readsTab 29 = .ok (.bipush 44, 2) := by decide +kernel
theorem dX10_readsTab_31 : decode cX10_readsTab 31 = .ok (.bipush 10, 2) := by decide +kernel
theorem dX10_readsTab_33 : decode cX10_readsTab 33 = .ok (.aload_n 0, 1) := by decide +kernel
theorem dX10_readsTab_34 : decode cX10_readsTab 34 = .ok (.getfield 28, 3) := by decide +kernel
theorem dX10_readsTab_37 : decode cX10_readsTab 37 = .ok (.iconst 1, 1) := by decide +kernel
theorem dX10_readsTab_38 : decode cX10_readsTab 38 = .ok (.iaload, 1) := by decide +kernel
theorem dX10_readsTab_39 : decode cX10_readsTab 39 = .ok (.iconst 5, 1) := by decide +kernel
theorem dX10_readsTab_40 : decode cX10_readsTab 40 = .ok (.if_icmp .ge 12, 3) := by decide +kernel
theorem dX10_readsTab_43 : decode cX10_readsTab 43 = .ok (.aload_n 0, 1) := by decide +kernel
theorem dX10_readsTab_44 : decode cX10_readsTab 44 = .ok (.getfield 28, 3) := by decide +kernel
theorem dX10_readsTab_47 : decode cX10_readsTab 47 = .ok (.iconst 1, 1) := by decide +kernel
theorem dX10_readsTab_48 : decode cX10_readsTab 48 = .ok (.iaload, 1) := by decide +kernel
theorem dX10_readsTab_49 : decode cX10_readsTab 49 = .ok (.goto 4, 3) := by decide +kernel
theorem dX10_readsTab_52 : decode cX10_readsTab 52 = .ok (.iconst 0, 1) := by decide +kernel
theorem dX10_readsTab_53 : decode cX10_readsTab 53 = .ok (.imul, 1) := by decide +kernel
theorem dX10_readsTab_54 : decode cX10_readsTab 54 = .ok (.iadd, 1) := by decide +kernel
theorem dX10_readsTab_55 : decode cX10_readsTab 55 = .ok (.istore_n 2, 1) := by decide +kernel
theorem dX10_readsTab_56 : decode cX10_readsTab 56 = .ok (.aload_n 0, 1) := by decide +kernel
theorem dX10_readsTab_57 : decode cX10_readsTab 57 = .ok (.iconst 0, 1) := by decide +kernel
theorem dX10_readsTab_58 : decode cX10_readsTab 58 = .ok (.aload_n 0, 1) := by decide +kernel
theorem dX10_readsTab_59 : decode cX10_readsTab 59 = .ok (.getfield 28, 3) := by decide +kernel
theorem dX10_readsTab_62 : decode cX10_readsTab 62 = .ok (.iconst 0, 1) := by decide +kernel
theorem dX10_readsTab_63 : decode cX10_readsTab 63 = .ok (.iaload, 1) := by decide +kernel
theorem dX10_readsTab_64 : decode cX10_readsTab 64 = .ok (.iconst 1, 1) := by decide +kernel
theorem dX10_readsTab_65 : decode cX10_readsTab 65 = .ok (.isub, 1) := by decide +kernel
theorem dX10_readsTab_66 : decode cX10_readsTab 66 = .ok (.invokevirtual 124, 3) := by decide +kernel
theorem dX10_readsTab_69 : decode cX10_readsTab 69 = .ok (.istore_n 3, 1) := by decide +kernel
theorem dX10_readsTab_70 : decode cX10_readsTab 70 = .ok (.aload_n 0, 1) := by decide +kernel
theorem dX10_readsTab_71 : decode cX10_readsTab 71 = .ok (.aload_n 0, 1) := by decide +kernel
theorem dX10_readsTab_72 : decode cX10_readsTab 72 = .ok (.getfield 104, 3) := by decide +kernel
theorem dX10_readsTab_75 : decode cX10_readsTab 75 = .ok (.iconst 4, 1) := by decide +kernel
theorem dX10_readsTab_76 : decode cX10_readsTab 76 = .ok (.if_icmp .ne 7, 3) := by decide +kernel
theorem dX10_readsTab_79 : decode cX10_readsTab 79 = .ok (.iconst 1, 1) := by decide +kernel
theorem dX10_readsTab_80 : decode cX10_readsTab 80 = .ok (.goto 4, 3) := by decide +kernel
theorem dX10_readsTab_83 : decode cX10_readsTab 83 = .ok (.iconst 0, 1) := by decide +kernel
theorem dX10_readsTab_84 : decode cX10_readsTab 84 = .ok (.iconst 1, 1) := by decide +kernel
theorem dX10_readsTab_85 : decode cX10_readsTab 85 = .ok (.invokevirtual 120, 3) := by decide +kernel
theorem dX10_readsTab_88 : decode cX10_readsTab 88 = .ok (.pop, 1) := by decide +kernel
theorem dX10_readsTab_89 : decode cX10_readsTab 89 = .ok (.aload_n 0, 1) := by decide +kernel
theorem dX10_readsTab_90 : decode cX10_readsTab 90 = .ok (.invokevirtual 110, 3) := by decide +kernel
theorem dX10_readsTab_93 : decode cX10_readsTab 93 = .ok (.ifCond .eq 23, 3) := by decide +kernel
theorem dX10_readsTab_96 : decode cX10_readsTab 96 = .ok (.aload_n 0, 1) := by decide +kernel
theorem dX10_readsTab_97 : decode cX10_readsTab 97 = .ok (.getfield 28, 3) := by decide +kernel
theorem dX10_readsTab_100 : decode cX10_readsTab 100 = .ok (.iload_n 2, 1) := by decide +kernel
theorem dX10_readsTab_101 : decode cX10_readsTab 101 = .ok (.iload_n 1, 1) := by decide +kernel
theorem dX10_readsTab_102 : decode cX10_readsTab 102 = .ok (.iload_n 3, 1) := by decide +kernel
theorem dX10_readsTab_103 : decode cX10_readsTab 103 = .ok (.invokestatic 130, 3) := by decide +kernel
theorem dX10_readsTab_106 : decode cX10_readsTab 106 = .ok (.aload_n 0, 1) := by decide +kernel
theorem dX10_readsTab_107 : decode cX10_readsTab 107 = .ok (.getfield 28, 3) := by decide +kernel
theorem dX10_readsTab_110 : decode cX10_readsTab 110 = .ok (.iconst 1, 1) := by decide +kernel
theorem dX10_readsTab_111 : decode cX10_readsTab 111 = .ok (.dup2, 1) := by decide +kernel
theorem dX10_readsTab_112 : decode cX10_readsTab 112 = .ok (.iaload, 1) := by decide +kernel
theorem dX10_readsTab_113 : decode cX10_readsTab 113 = .ok (.iconst 1, 1) := by decide +kernel
theorem dX10_readsTab_114 : decode cX10_readsTab 114 = .ok (.iadd, 1) := by decide +kernel
theorem dX10_readsTab_115 : decode cX10_readsTab 115 = .ok (.iastore, 1) := by decide +kernel
theorem dX10_readsTab_116 : decode cX10_readsTab 116 = .ok (.return_, 1) := by decide +kernel
theorem dX10_web_0 : decode cX10_web 0 = .ok (.iconst 0, 1) := by decide +kernel
theorem dX10_web_1 : decode cX10_web 1 = .ok (.istore_n 1, 1) := by decide +kernel
theorem dX10_web_2 : decode cX10_web 2 = .ok (.iload_n 1, 1) := by decide +kernel
theorem dX10_web_3 : decode cX10_web 3 = .ok (.bipush 124, 2) := by decide +kernel
theorem dX10_web_5 : decode cX10_web 5 = .ok (.if_icmp .ge 16, 3) := by decide +kernel
theorem dX10_web_8 : decode cX10_web 8 = .ok (.aload_n 0, 1) := by decide +kernel
theorem dX10_web_9 : decode cX10_web 9 = .ok (.getfield 28, 3) := by decide +kernel
theorem dX10_web_12 : decode cX10_web 12 = .ok (.iload_n 1, 1) := by decide +kernel
theorem dX10_web_13 : decode cX10_web 13 = .ok (.iconst 0, 1) := by decide +kernel
theorem dX10_web_14 : decode cX10_web 14 = .ok (.iastore, 1) := by decide +kernel
theorem dX10_web_15 : decode cX10_web 15 = .ok (.iinc 1 1, 3) := by decide +kernel
theorem dX10_web_18 : decode cX10_web 18 = .ok (.goto (-16), 3) := by decide +kernel
theorem dX10_web_21 : decode cX10_web 21 = .ok (.aload_n 0, 1) := by decide +kernel
theorem dX10_web_22 : decode cX10_web 22 = .ok (.iconst 0, 1) := by decide +kernel
theorem dX10_web_23 : decode cX10_web 23 = .ok (.putfield 92, 3) := by decide +kernel
theorem dX10_web_26 : decode cX10_web 26 = .ok (.aload_n 0, 1) := by decide +kernel
theorem dX10_web_27 : decode cX10_web 27 = .ok (.iconst (-1), 1) := by decide +kernel
theorem dX10_web_28 : decode cX10_web 28 = .ok (.putfield 107, 3) := by decide +kernel
theorem dX10_web_31 : decode cX10_web 31 = .ok (.aload_n 0, 1) := by decide +kernel
theorem dX10_web_32 : decode cX10_web 32 = .ok (.invokevirtual 117, 3) := by decide +kernel
theorem dX10_web_35 : decode cX10_web 35 = .ok (.aload_n 0, 1) := by decide +kernel
theorem dX10_web_36 : decode cX10_web 36 = .ok (.aload_n 0, 1) := by decide +kernel
theorem dX10_web_37 : decode cX10_web 37 = .ok (.getfield 104, 3) := by decide +kernel
theorem dX10_web_40 : decode cX10_web 40 = .ok (.iconst 1, 1) := by decide +kernel
theorem dX10_web_41 : decode cX10_web 41 = .ok (.if_icmp .ne 16, 3) := by decide +kernel
theorem dX10_web_44 : decode cX10_web 44 = .ok (.aload_n 0, 1) := by decide +kernel
theorem dX10_web_45 : decode cX10_web 45 = .ok (.getfield 101, 3) := by decide +kernel
theorem dX10_web_48 : decode cX10_web 48 = .ok (.bipush 119, 2) := by decide +kernel
theorem dX10_web_50 : decode cX10_web 50 = .ok (.if_icmp .ne 7, 3) := by decide +kernel
theorem dX10_web_53 : decode cX10_web 53 = .ok (.iconst 1, 1) := by decide +kernel
theorem dX10_web_54 : decode cX10_web 54 = .ok (.goto 4, 3) := by decide +kernel
theorem dX10_web_57 : decode cX10_web 57 = .ok (.iconst 0, 1) := by decide +kernel
theorem dX10_web_58 : decode cX10_web 58 = .ok (.iconst 1, 1) := by decide +kernel
theorem dX10_web_59 : decode cX10_web 59 = .ok (.invokevirtual 120, 3) := by decide +kernel
theorem dX10_web_62 : decode cX10_web 62 = .ok (.pop, 1) := by decide +kernel
theorem dX10_web_63 : decode cX10_web 63 = .ok (.aload_n 0, 1) := by decide +kernel
theorem dX10_web_64 : decode cX10_web 64 = .ok (.getfield 28, 3) := by decide +kernel
theorem dX10_web_67 : decode cX10_web 67 = .ok (.iconst 0, 1) := by decide +kernel
theorem dX10_web_68 : decode cX10_web 68 = .ok (.aload_n 0, 1) := by decide +kernel
theorem dX10_web_69 : decode cX10_web 69 = .ok (.iconst 2, 1) := by decide +kernel
theorem dX10_web_70 : decode cX10_web 70 = .ok (.bipush 8, 2) := by decide +kernel
theorem dX10_web_72 : decode cX10_web 72 = .ok (.invokevirtual 124, 3) := by decide +kernel
theorem dX10_web_75 : decode cX10_web 75 = .ok (.iastore, 1) := by decide +kernel
theorem dX10_web_76 : decode cX10_web 76 = .ok (.aload_n 0, 1) := by decide +kernel
theorem dX10_web_77 : decode cX10_web 77 = .ok (.aload_n 0, 1) := by decide +kernel
theorem dX10_web_78 : decode cX10_web 78 = .ok (.getfield 104, 3) := by decide +kernel
theorem dX10_web_81 : decode cX10_web 81 = .ok (.iconst 4, 1) := by decide +kernel
theorem dX10_web_82 : decode cX10_web 82 = .ok (.if_icmp .ne 7, 3) := by decide +kernel
theorem dX10_web_85 : decode cX10_web 85 = .ok (.iconst 1, 1) := by decide +kernel
theorem dX10_web_86 : decode cX10_web 86 = .ok (.goto 4, 3) := by decide +kernel
theorem dX10_web_89 : decode cX10_web 89 = .ok (.iconst 0, 1) := by decide +kernel
theorem dX10_web_90 : decode cX10_web 90 = .ok (.iconst 1, 1) := by decide +kernel
theorem dX10_web_91 : decode cX10_web 91 = .ok (.invokevirtual 120, 3) := by decide +kernel
theorem dX10_web_94 : decode cX10_web 94 = .ok (.pop, 1) := by decide +kernel
theorem dX10_web_95 : decode cX10_web 95 = .ok (.iconst 0, 1) := by decide +kernel
theorem dX10_web_96 : decode cX10_web 96 = .ok (.istore_n 1, 1) := by decide +kernel
theorem dX10_web_97 : decode cX10_web 97 = .ok (.aload_n 0, 1) := by decide +kernel
theorem dX10_web_98 : decode cX10_web 98 = .ok (.invokevirtual 110, 3) := by decide +kernel
theorem dX10_web_101 : decode cX10_web 101 = .ok (.ifCond .eq 52, 3) := by decide +kernel
theorem dX10_web_104 : decode cX10_web 104 = .ok (.iload_n 1, 1) := by decide +kernel
theorem dX10_web_105 : decode cX10_web 105 = .ok (.aload_n 0, 1) := by decide +kernel
theorem dX10_web_106 : decode cX10_web 106 = .ok (.getfield 28, 3) := by decide +kernel
theorem dX10_web_109 : decode cX10_web 109 = .ok (.iconst 0, 1) := by decide +kernel
theorem dX10_web_110 : decode cX10_web 110 = .ok (.iaload, 1) := by decide +kernel
theorem dX10_web_111 : decode cX10_web 111 = .ok (.if_icmp .ge 42, 3) := by decide +kernel
theorem dX10_web_114 : decode cX10_web 114 = .ok (.aload_n 0, 1) := by decide +kernel
theorem dX10_web_115 : decode cX10_web 115 = .ok (.aload_n 0, 1) := by decide +kernel
theorem dX10_web_116 : decode cX10_web 116 = .ok (.getfield 104, 3) := by decide +kernel
theorem dX10_web_119 : decode cX10_web 119 = .ok (.iconst 1, 1) := by decide +kernel
theorem dX10_web_120 : decode cX10_web 120 = .ok (.if_icmp .ne 16, 3) := by decide +kernel
theorem dX10_web_123 : decode cX10_web 123 = .ok (.aload_n 0, 1) := by decide +kernel
theorem dX10_web_124 : decode cX10_web 124 = .ok (.getfield 101, 3) := by decide +kernel
theorem dX10_web_127 : decode cX10_web 127 = .ok (.bipush 108, 2) := by decide +kernel
theorem dX10_web_129 : decode cX10_web 129 = .ok (.if_icmp .ne 7, 3) := by decide +kernel
theorem dX10_web_132 : decode cX10_web 132 = .ok (.iconst 1, 1) := by decide +kernel
theorem dX10_web_133 : decode cX10_web 133 = .ok (.goto 4, 3) := by decide +kernel
theorem dX10_web_136 : decode cX10_web 136 = .ok (.iconst 0, 1) := by decide +kernel
theorem dX10_web_137 : decode cX10_web 137 = .ok (.iconst 1, 1) := by decide +kernel
theorem dX10_web_138 : decode cX10_web 138 = .ok (.invokevirtual 120, 3) := by decide +kernel
theorem dX10_web_141 : decode cX10_web 141 = .ok (.pop, 1) := by decide +kernel
theorem dX10_web_142 : decode cX10_web 142 = .ok (.aload_n 0, 1) := by decide +kernel
theorem dX10_web_143 : decode cX10_web 143 = .ok (.iload_n 1, 1) := by decide +kernel
theorem dX10_web_144 : decode cX10_web 144 = .ok (.invokevirtual 134, 3) := by decide +kernel
theorem dX10_web_147 : decode cX10_web 147 = .ok (.iinc 1 1, 3) := by decide +kernel
theorem dX10_web_150 : decode cX10_web 150 = .ok (.goto (-53), 3) := by decide +kernel
theorem dX10_web_153 : decode cX10_web 153 = .ok (.aload_n 0, 1) := by decide +kernel
theorem dX10_web_154 : decode cX10_web 154 = .ok (.invokevirtual 110, 3) := by decide +kernel
theorem dX10_web_157 : decode cX10_web 157 = .ok (.ifCond .eq 28, 3) := by decide +kernel
theorem dX10_web_160 : decode cX10_web 160 = .ok (.aload_n 0, 1) := by decide +kernel
theorem dX10_web_161 : decode cX10_web 161 = .ok (.getfield 104, 3) := by decide +kernel
theorem dX10_web_164 : decode cX10_web 164 = .ok (.iconst 1, 1) := by decide +kernel
theorem dX10_web_165 : decode cX10_web 165 = .ok (.if_icmp .ne 20, 3) := by decide +kernel
theorem dX10_web_168 : decode cX10_web 168 = .ok (.aload_n 0, 1) := by decide +kernel
theorem dX10_web_169 : decode cX10_web 169 = .ok (.getfield 101, 3) := by decide +kernel
theorem dX10_web_172 : decode cX10_web 172 = .ok (.invokestatic 127, 3) := by decide +kernel
theorem dX10_web_175 : decode cX10_web 175 = .ok (.ifCond .le 10, 3) := by decide +kernel
theorem dX10_web_178 : decode cX10_web 178 = .ok (.aload_n 0, 1) := by decide +kernel
theorem dX10_web_179 : decode cX10_web 179 = .ok (.invokevirtual 138, 3) := by decide +kernel
theorem dX10_web_182 : decode cX10_web 182 = .ok (.goto (-29), 3) := by decide +kernel
theorem dX10_web_185 : decode cX10_web 185 = .ok (.aload_n 0, 1) := by decide +kernel
theorem dX10_web_186 : decode cX10_web 186 = .ok (.aload_n 0, 1) := by decide +kernel
theorem dX10_web_187 : decode cX10_web 187 = .ok (.getfield 28, 3) := by decide +kernel
theorem dX10_web_190 : decode cX10_web 190 = .ok (.iconst 1, 1) := by decide +kernel
theorem dX10_web_191 : decode cX10_web 191 = .ok (.iaload, 1) := by decide +kernel
theorem dX10_web_192 : decode cX10_web 192 = .ok (.ifCond .le 14, 3) := by decide +kernel
theorem dX10_web_195 : decode cX10_web 195 = .ok (.aload_n 0, 1) := by decide +kernel
theorem dX10_web_196 : decode cX10_web 196 = .ok (.getfield 104, 3) := by decide +kernel
theorem dX10_web_199 : decode cX10_web 199 = .ok (.ifCond .ne 7, 3) := by decide +kernel
theorem dX10_web_202 : decode cX10_web 202 = .ok (.iconst 1, 1) := by decide +kernel
theorem dX10_web_203 : decode cX10_web 203 = .ok (.goto 4, 3) := by decide +kernel
theorem dX10_web_206 : decode cX10_web 206 = .ok (.iconst 0, 1) := by decide +kernel
theorem dX10_web_207 : decode cX10_web 207 = .ok (.invokevirtual 141, 3) := by decide +kernel
theorem dX10_web_210 : decode cX10_web 210 = .ok (.aload_n 0, 1) := by decide +kernel
theorem dX10_web_211 : decode cX10_web 211 = .ok (.iconst 0, 1) := by decide +kernel
theorem dX10_web_212 : decode cX10_web 212 = .ok (.putfield 88, 3) := by decide +kernel
theorem dX10_web_215 : decode cX10_web 215 = .ok (.aload_n 0, 1) := by decide +kernel
theorem dX10_web_216 : decode cX10_web 216 = .ok (.invokevirtual 110, 3) := by decide +kernel
theorem dX10_web_219 : decode cX10_web 219 = .ok (.ifCond .ne 11, 3) := by decide +kernel
theorem dX10_web_222 : decode cX10_web 222 = .ok (.ldc 145, 2) := by decide +kernel
theorem dX10_web_224 : decode cX10_web 224 = .ok (.aload_n 0, 1) := by decide +kernel
theorem dX10_web_225 : decode cX10_web 225 = .ok (.getfield 107, 3) := by decide +kernel
theorem dX10_web_228 : decode cX10_web 228 = .ok (.isub, 1) := by decide +kernel
theorem dX10_web_229 : decode cX10_web 229 = .ok (.ireturn, 1) := by decide +kernel
theorem dX10_web_230 : decode cX10_web 230 = .ok (.aload_n 0, 1) := by decide +kernel
theorem dX10_web_231 : decode cX10_web 231 = .ok (.getfield 28, 3) := by decide +kernel
theorem dX10_web_234 : decode cX10_web 234 = .ok (.iconst 0, 1) := by decide +kernel
theorem dX10_web_235 : decode cX10_web 235 = .ok (.aload_n 0, 1) := by decide +kernel
theorem dX10_web_236 : decode cX10_web 236 = .ok (.getfield 25, 3) := by decide +kernel
theorem dX10_web_239 : decode cX10_web 239 = .ok (.iconst 0, 1) := by decide +kernel
theorem dX10_web_240 : decode cX10_web 240 = .ok (.invokestatic 146, 3) := by decide +kernel
theorem dX10_web_243 : decode cX10_web 243 = .ok (.aload_n 0, 1) := by decide +kernel
theorem dX10_web_244 : decode cX10_web 244 = .ok (.iconst 0, 1) := by decide +kernel
theorem dX10_web_245 : decode cX10_web 245 = .ok (.putfield 150, 3) := by decide +kernel
theorem dX10_web_248 : decode cX10_web 248 = .ok (.aload_n 0, 1) := by decide +kernel
theorem dX10_web_249 : decode cX10_web 249 = .ok (.getfield 25, 3) := by decide +kernel
theorem dX10_web_252 : decode cX10_web 252 = .ok (.iconst 1, 1) := by decide +kernel
theorem dX10_web_253 : decode cX10_web 253 = .ok (.iaload, 1) := by decide +kernel
theorem dX10_web_254 : decode cX10_web 254 = .ok (.ireturn, 1) := by decide +kernel
theorem dX10_fault_0 : decode cX10_fault 0 = .ok (.aload_n 0, 1) := by decide +kernel
theorem dX10_fault_1 : decode cX10_fault 1 = .ok (.getfield 114, 3) := by decide +kernel
theorem dX10_fault_4 : decode cX10_fault 4 = .ok (.ireturn, 1) := by decide +kernel
theorem dX10_isWeb_0 : decode cX10_isWeb 0 = .ok (.aload_n 0, 1) := by decide +kernel
theorem dX10_isWeb_1 : decode cX10_isWeb 1 = .ok (.getfield 25, 3) := by decide +kernel
theorem dX10_isWeb_4 : decode cX10_isWeb 4 = .ok (.iconst 0, 1) := by decide +kernel
theorem dX10_isWeb_5 : decode cX10_isWeb 5 = .ok (.iaload, 1) := by decide +kernel
theorem dX10_isWeb_6 : decode cX10_isWeb 6 = .ok (.ifCond .le 7, 3) := by decide +kernel
theorem dX10_isWeb_9 : decode cX10_isWeb 9 = .ok (.iconst 1, 1) := by decide +kernel
theorem dX10_isWeb_10 : decode cX10_isWeb 10 = .ok (.goto 4, 3) := by decide +kernel
theorem dX10_isWeb_13 : decode cX10_isWeb 13 = .ok (.iconst 0, 1) := by decide +kernel
theorem dX10_isWeb_14 : decode cX10_isWeb 14 = .ok (.ireturn, 1) := by decide +kernel
theorem dX10_isPage_0 : decode cX10_isPage 0 = .ok (.iload_n 1, 1) := by decide +kernel
theorem dX10_isPage_1 : decode cX10_isPage 1 = .ok (.iconst 0, 1) := by decide +kernel
theorem dX10_isPage_2 : decode cX10_isPage 2 = .ok (.aload_n 0, 1) := by decide +kernel
theorem dX10_isPage_3 : decode cX10_isPage 3 = .ok (.getfield 25, 3) := by decide +kernel
theorem dX10_isPage_6 : decode cX10_isPage 6 = .ok (.iconst 0, 1) := by decide +kernel
theorem dX10_isPage_7 : decode cX10_isPage 7 = .ok (.iaload, 1) := by decide +kernel
theorem dX10_isPage_8 : decode cX10_isPage 8 = .ok (.iconst 1, 1) := by decide +kernel
theorem dX10_isPage_9 : decode cX10_isPage 9 = .ok (.isub, 1) := by decide +kernel
theorem dX10_isPage_10 : decode cX10_isPage 10 = .ok (.invokestatic 62, 3) := by decide +kernel
theorem dX10_isPage_13 : decode cX10_isPage 13 = .ok (.ireturn, 1) := by decide +kernel
theorem dX10_isTab_0 : decode cX10_isTab 0 = .ok (.iload_n 1, 1) := by decide +kernel
theorem dX10_isTab_1 : decode cX10_isTab 1 = .ok (.iconst 0, 1) := by decide +kernel
theorem dX10_isTab_2 : decode cX10_isTab 2 = .ok (.aload_n 0, 1) := by decide +kernel
theorem dX10_isTab_3 : decode cX10_isTab 3 = .ok (.getfield 25, 3) := by decide +kernel
theorem dX10_isTab_6 : decode cX10_isTab 6 = .ok (.iconst 1, 1) := by decide +kernel
theorem dX10_isTab_7 : decode cX10_isTab 7 = .ok (.iaload, 1) := by decide +kernel
theorem dX10_isTab_8 : decode cX10_isTab 8 = .ok (.iconst 1, 1) := by decide +kernel
theorem dX10_isTab_9 : decode cX10_isTab 9 = .ok (.isub, 1) := by decide +kernel
theorem dX10_isTab_10 : decode cX10_isTab 10 = .ok (.invokestatic 62, 3) := by decide +kernel
theorem dX10_isTab_13 : decode cX10_isTab 13 = .ok (.ireturn, 1) := by decide +kernel
theorem dX10_fresh_0 : decode cX10_fresh 0 = .ok (.aload_n 0, 1) := by decide +kernel
theorem dX10_fresh_1 : decode cX10_fresh 1 = .ok (.iload_n 1, 1) := by decide +kernel
theorem dX10_fresh_2 : decode cX10_fresh 2 = .ok (.iload_n 2, 1) := by decide +kernel
theorem dX10_fresh_3 : decode cX10_fresh 3 = .ok (.iastore, 1) := by decide +kernel
theorem dX10_fresh_4 : decode cX10_fresh 4 = .ok (.aload_n 0, 1) := by decide +kernel
theorem dX10_fresh_5 : decode cX10_fresh 5 = .ok (.iload_n 1, 1) := by decide +kernel
theorem dX10_fresh_6 : decode cX10_fresh 6 = .ok (.iconst 1, 1) := by decide +kernel
theorem dX10_fresh_7 : decode cX10_fresh 7 = .ok (.iadd, 1) := by decide +kernel
theorem dX10_fresh_8 : decode cX10_fresh 8 = .ok (.iload_n 3, 1) := by decide +kernel
theorem dX10_fresh_9 : decode cX10_fresh 9 = .ok (.iastore, 1) := by decide +kernel
theorem dX10_fresh_10 : decode cX10_fresh 10 = .ok (.aload_n 0, 1) := by decide +kernel
theorem dX10_fresh_11 : decode cX10_fresh 11 = .ok (.iload_n 1, 1) := by decide +kernel
theorem dX10_fresh_12 : decode cX10_fresh 12 = .ok (.iconst 2, 1) := by decide +kernel
theorem dX10_fresh_13 : decode cX10_fresh 13 = .ok (.iadd, 1) := by decide +kernel
theorem dX10_fresh_14 : decode cX10_fresh 14 = .ok (.iconst 1, 1) := by decide +kernel
theorem dX10_fresh_15 : decode cX10_fresh 15 = .ok (.iastore, 1) := by decide +kernel
theorem dX10_fresh_16 : decode cX10_fresh 16 = .ok (.aload_n 0, 1) := by decide +kernel
theorem dX10_fresh_17 : decode cX10_fresh 17 = .ok (.iload_n 1, 1) := by decide +kernel
theorem dX10_fresh_18 : decode cX10_fresh 18 = .ok (.iconst 3, 1) := by decide +kernel
theorem dX10_fresh_19 : decode cX10_fresh 19 = .ok (.iadd, 1) := by decide +kernel
theorem dX10_fresh_20 : decode cX10_fresh 20 = .ok (.iconst 0, 1) := by decide +kernel
theorem dX10_fresh_21 : decode cX10_fresh 21 = .ok (.iastore, 1) := by decide +kernel
theorem dX10_fresh_22 : decode cX10_fresh 22 = .ok (.aload_n 0, 1) := by decide +kernel
theorem dX10_fresh_23 : decode cX10_fresh 23 = .ok (.iload_n 1, 1) := by decide +kernel
theorem dX10_fresh_24 : decode cX10_fresh 24 = .ok (.iconst 4, 1) := by decide +kernel
theorem dX10_fresh_25 : decode cX10_fresh 25 = .ok (.iadd, 1) := by decide +kernel
theorem dX10_fresh_26 : decode cX10_fresh 26 = .ok (.iload_n 3, 1) := by decide +kernel
theorem dX10_fresh_27 : decode cX10_fresh 27 = .ok (.iastore, 1) := by decide +kernel
theorem dX10_fresh_28 : decode cX10_fresh 28 = .ok (.return_, 1) := by decide +kernel
theorem dX10_tabNow_0 : decode cX10_tabNow 0 = .ok (.bipush 44, 2) := by decide +kernel
theorem dX10_tabNow_2 : decode cX10_tabNow 2 = .ok (.bipush 10, 2) := by decide +kernel
theorem dX10_tabNow_4 : decode cX10_tabNow 4 = .ok (.aload_n 0, 1) := by decide +kernel
theorem dX10_tabNow_5 : decode cX10_tabNow 5 = .ok (.iconst 2, 1) := by decide +kernel
theorem dX10_tabNow_6 : decode cX10_tabNow 6 = .ok (.iaload, 1) := by decide +kernel
theorem dX10_tabNow_7 : decode cX10_tabNow 7 = .ok (.imul, 1) := by decide +kernel
theorem dX10_tabNow_8 : decode cX10_tabNow 8 = .ok (.iadd, 1) := by decide +kernel
theorem dX10_tabNow_9 : decode cX10_tabNow 9 = .ok (.ireturn, 1) := by decide +kernel
theorem dX10_shows_0 : decode cX10_shows 0 = .ok (.bipush 44, 2) := by decide +kernel
theorem dX10_shows_2 : decode cX10_shows 2 = .ok (.bipush 10, 2) := by decide +kernel
theorem dX10_shows_4 : decode cX10_shows 4 = .ok (.iload_n 1, 1) := by decide +kernel
theorem dX10_shows_5 : decode cX10_shows 5 = .ok (.imul, 1) := by decide +kernel
theorem dX10_shows_6 : decode cX10_shows 6 = .ok (.iadd, 1) := by decide +kernel
theorem dX10_shows_7 : decode cX10_shows 7 = .ok (.istore_n 2, 1) := by decide +kernel
theorem dX10_shows_8 : decode cX10_shows 8 = .ok (.aload_n 0, 1) := by decide +kernel
theorem dX10_shows_9 : decode cX10_shows 9 = .ok (.iload_n 2, 1) := by decide +kernel
theorem dX10_shows_10 : decode cX10_shows 10 = .ok (.iconst 4, 1) := by decide +kernel
theorem dX10_shows_11 : decode cX10_shows 11 = .ok (.iadd, 1) := by decide +kernel
theorem dX10_shows_12 : decode cX10_shows 12 = .ok (.aload_n 0, 1) := by decide +kernel
theorem dX10_shows_13 : decode cX10_shows 13 = .ok (.iload_n 2, 1) := by decide +kernel
theorem dX10_shows_14 : decode cX10_shows 14 = .ok (.iconst 3, 1) := by decide +kernel
theorem dX10_shows_15 : decode cX10_shows 15 = .ok (.iadd, 1) := by decide +kernel
theorem dX10_shows_16 : decode cX10_shows 16 = .ok (.iaload, 1) := by decide +kernel
theorem dX10_shows_17 : decode cX10_shows 17 = .ok (.iadd, 1) := by decide +kernel
theorem dX10_shows_18 : decode cX10_shows 18 = .ok (.iaload, 1) := by decide +kernel
theorem dX10_shows_19 : decode cX10_shows 19 = .ok (.ireturn, 1) := by decide +kernel
theorem dX10_seen_0 : decode cX10_seen 0 = .ok (.aload_n 0, 1) := by decide +kernel
theorem dX10_seen_1 : decode cX10_seen 1 = .ok (.aload_n 0, 1) := by decide +kernel
theorem dX10_seen_2 : decode cX10_seen 2 = .ok (.iconst 2, 1) := by decide +kernel
theorem dX10_seen_3 : decode cX10_seen 3 = .ok (.iaload, 1) := by decide +kernel
theorem dX10_seen_4 : decode cX10_seen 4 = .ok (.invokestatic 153, 3) := by decide +kernel
theorem dX10_seen_7 : decode cX10_seen 7 = .ok (.ireturn, 1) := by decide +kernel
theorem dX10_moves_0 : decode cX10_moves 0 = .ok (.iconst 0, 1) := by decide +kernel
theorem dX10_moves_1 : decode cX10_moves 1 = .ok (.istore_n 3, 1) := by decide +kernel
theorem dX10_moves_2 : decode cX10_moves 2 = .ok (.iload_n 3, 1) := by decide +kernel
theorem dX10_moves_3 : decode cX10_moves 3 = .ok (.bipush 10, 2) := by decide +kernel
theorem dX10_moves_5 : decode cX10_moves 5 = .ok (.if_icmp .ge 19, 3) := by decide +kernel
theorem dX10_moves_8 : decode cX10_moves 8 = .ok (.aload_n 0, 1) := by decide +kernel
theorem dX10_moves_9 : decode cX10_moves 9 = .ok (.iload_n 2, 1) := by decide +kernel
theorem dX10_moves_10 : decode cX10_moves 10 = .ok (.iload_n 3, 1) := by decide +kernel
theorem dX10_moves_11 : decode cX10_moves 11 = .ok (.iadd, 1) := by decide +kernel
theorem dX10_moves_12 : decode cX10_moves 12 = .ok (.aload_n 0, 1) := by decide +kernel
theorem dX10_moves_13 : decode cX10_moves 13 = .ok (.iload_n 1, 1) := by decide +kernel
theorem dX10_moves_14 : decode cX10_moves 14 = .ok (.iload_n 3, 1) := by decide +kernel
theorem dX10_moves_15 : decode cX10_moves 15 = .ok (.iadd, 1) := by decide +kernel
theorem dX10_moves_16 : decode cX10_moves 16 = .ok (.iaload, 1) := by decide +kernel
theorem dX10_moves_17 : decode cX10_moves 17 = .ok (.iastore, 1) := by decide +kernel
theorem dX10_moves_18 : decode cX10_moves 18 = .ok (.iinc 3 1, 3) := by decide +kernel
theorem dX10_moves_21 : decode cX10_moves 21 = .ok (.goto (-19), 3) := by decide +kernel
theorem dX10_moves_24 : decode cX10_moves 24 = .ok (.return_, 1) := by decide +kernel
theorem dX10_visits_0 : decode cX10_visits 0 = .ok (.iconst 4, 1) := by decide +kernel
theorem dX10_visits_1 : decode cX10_visits 1 = .ok (.iconst 5, 1) := by decide +kernel
theorem dX10_visits_2 : decode cX10_visits 2 = .ok (.aload_n 0, 1) := by decide +kernel
theorem dX10_visits_3 : decode cX10_visits 3 = .ok (.invokestatic 157, 3) := by decide +kernel
theorem dX10_visits_6 : decode cX10_visits 6 = .ok (.imul, 1) := by decide +kernel
theorem dX10_visits_7 : decode cX10_visits 7 = .ok (.iadd, 1) := by decide +kernel
theorem dX10_visits_8 : decode cX10_visits 8 = .ok (.iconst 4, 1) := by decide +kernel
theorem dX10_visits_9 : decode cX10_visits 9 = .ok (.iadd, 1) := by decide +kernel
theorem dX10_visits_10 : decode cX10_visits 10 = .ok (.istore_n 1, 1) := by decide +kernel
theorem dX10_visits_11 : decode cX10_visits 11 = .ok (.aload_n 0, 1) := by decide +kernel
theorem dX10_visits_12 : decode cX10_visits 12 = .ok (.iload_n 1, 1) := by decide +kernel
theorem dX10_visits_13 : decode cX10_visits 13 = .ok (.dup2, 1) := by decide +kernel
theorem dX10_visits_14 : decode cX10_visits 14 = .ok (.iaload, 1) := by decide +kernel
theorem dX10_visits_15 : decode cX10_visits 15 = .ok (.aload_n 0, 1) := by decide +kernel
theorem dX10_visits_16 : decode cX10_visits 16 = .ok (.iload_n 1, 1) := by decide +kernel
theorem dX10_visits_17 : decode cX10_visits 17 = .ok (.iaload, 1) := by decide +kernel
theorem dX10_visits_18 : decode cX10_visits 18 = .ok (.sipush 999, 3) := by decide +kernel
theorem dX10_visits_21 : decode cX10_visits 21 = .ok (.if_icmp .ge 7, 3) := by decide +kernel
theorem dX10_visits_24 : decode cX10_visits 24 = .ok (.iconst 1, 1) := by decide +kernel
theorem dX10_visits_25 : decode cX10_visits 25 = .ok (.goto 4, 3) := by decide +kernel
theorem dX10_visits_28 : decode cX10_visits 28 = .ok (.iconst 0, 1) := by decide +kernel
theorem dX10_visits_29 : decode cX10_visits 29 = .ok (.iadd, 1) := by decide +kernel
theorem dX10_visits_30 : decode cX10_visits 30 = .ok (.iastore, 1) := by decide +kernel
theorem dX10_visits_31 : decode cX10_visits 31 = .ok (.return_, 1) := by decide +kernel
theorem dX10_mayFollow_0 : decode cX10_mayFollow 0 = .ok (.iload_n 1, 1) := by decide +kernel
theorem dX10_mayFollow_1 : decode cX10_mayFollow 1 = .ok (.aload_n 0, 1) := by decide +kernel
theorem dX10_mayFollow_2 : decode cX10_mayFollow 2 = .ok (.iconst 4, 1) := by decide +kernel
theorem dX10_mayFollow_3 : decode cX10_mayFollow 3 = .ok (.iconst 5, 1) := by decide +kernel
theorem dX10_mayFollow_4 : decode cX10_mayFollow 4 = .ok (.aload_n 0, 1) := by decide +kernel
theorem dX10_mayFollow_5 : decode cX10_mayFollow 5 = .ok (.invokestatic 157, 3) := by decide +kernel
theorem dX10_mayFollow_8 : decode cX10_mayFollow 8 = .ok (.imul, 1) := by decide +kernel
theorem dX10_mayFollow_9 : decode cX10_mayFollow 9 = .ok (.iadd, 1) := by decide +kernel
theorem dX10_mayFollow_10 : decode cX10_mayFollow 10 = .ok (.iaload, 1) := by decide +kernel
theorem dX10_mayFollow_11 : decode cX10_mayFollow 11 = .ok (.if_icmp .ge 24, 3) := by decide +kernel
theorem dX10_mayFollow_14 : decode cX10_mayFollow 14 = .ok (.aload_n 0, 1) := by decide +kernel
theorem dX10_mayFollow_15 : decode cX10_mayFollow 15 = .ok (.aload_n 0, 1) := by decide +kernel
theorem dX10_mayFollow_16 : decode cX10_mayFollow 16 = .ok (.invokestatic 161, 3) := by decide +kernel
theorem dX10_mayFollow_19 : decode cX10_mayFollow 19 = .ok (.iaload, 1) := by decide +kernel
theorem dX10_mayFollow_20 : decode cX10_mayFollow 20 = .ok (.iconst 3, 1) := by decide +kernel
theorem dX10_mayFollow_21 : decode cX10_mayFollow 21 = .ok (.if_icmp .ne 10, 3) := by decide +kernel
theorem dX10_mayFollow_24 : decode cX10_mayFollow 24 = .ok (.aload_n 0, 1) := by decide +kernel
theorem dX10_mayFollow_25 : decode cX10_mayFollow 25 = .ok (.iconst 1, 1) := by decide +kernel
theorem dX10_mayFollow_26 : decode cX10_mayFollow 26 = .ok (.iaload, 1) := by decide +kernel
theorem dX10_mayFollow_27 : decode cX10_mayFollow 27 = .ok (.iconst 5, 1) := by decide +kernel
theorem dX10_mayFollow_28 : decode cX10_mayFollow 28 = .ok (.if_icmp .ge 7, 3) := by decide +kernel
theorem dX10_mayFollow_31 : decode cX10_mayFollow 31 = .ok (.iconst 1, 1) := by decide +kernel
theorem dX10_mayFollow_32 : decode cX10_mayFollow 32 = .ok (.goto 4, 3) := by decide +kernel
theorem dX10_mayFollow_35 : decode cX10_mayFollow 35 = .ok (.iconst 0, 1) := by decide +kernel
theorem dX10_mayFollow_36 : decode cX10_mayFollow 36 = .ok (.ireturn, 1) := by decide +kernel
theorem dX10_comes_0 : decode cX10_comes 0 = .ok (.aload_n 0, 1) := by decide +kernel
theorem dX10_comes_1 : decode cX10_comes 1 = .ok (.invokestatic 161, 3) := by decide +kernel
theorem dX10_comes_4 : decode cX10_comes 4 = .ok (.istore_n 2, 1) := by decide +kernel
theorem dX10_comes_5 : decode cX10_comes 5 = .ok (.aload_n 0, 1) := by decide +kernel
theorem dX10_comes_6 : decode cX10_comes 6 = .ok (.iload_n 2, 1) := by decide +kernel
theorem dX10_comes_7 : decode cX10_comes 7 = .ok (.iconst 3, 1) := by decide +kernel
theorem dX10_comes_8 : decode cX10_comes 8 = .ok (.iadd, 1) := by decide +kernel
theorem dX10_comes_9 : decode cX10_comes 9 = .ok (.iaload, 1) := by decide +kernel
theorem dX10_comes_10 : decode cX10_comes 10 = .ok (.iconst 2, 1) := by decide +kernel
theorem dX10_comes_11 : decode cX10_comes 11 = .ok (.iadd, 1) := by decide +kernel
theorem dX10_comes_12 : decode cX10_comes 12 = .ok (.istore_n 3, 1) := by decide +kernel
theorem dX10_comes_13 : decode cX10_comes 13 = .ok (.aload_n 0, 1) := by decide +kernel
theorem dX10_comes_14 : decode cX10_comes 14 = .ok (.iload_n 2, 1) := by decide +kernel
theorem dX10_comes_15 : decode cX10_comes 15 = .ok (.iaload, 1) := by decide +kernel
theorem dX10_comes_16 : decode cX10_comes 16 = .ok (.iconst 2, 1) := by decide +kernel
theorem dX10_comes_17 : decode cX10_comes 17 = .ok (.if_icmp .eq 10, 3) := by decide +kernel
theorem dX10_comes_20 : decode cX10_comes 20 = .ok (.aload_n 0, 1) := by decide +kernel
theorem dX10_comes_21 : decode cX10_comes 21 = .ok (.iload_n 2, 1) := by decide +kernel
theorem dX10_comes_22 : decode cX10_comes 22 = .ok (.iaload, 1) := by decide +kernel
theorem dX10_comes_23 : decode cX10_comes 23 = .ok (.iconst 5, 1) := by decide +kernel
theorem dX10_comes_24 : decode cX10_comes 24 = .ok (.if_icmp .ne 7, 3) := by decide +kernel
theorem dX10_comes_27 : decode cX10_comes 27 = .ok (.iconst 3, 1) := by decide +kernel
theorem dX10_comes_28 : decode cX10_comes 28 = .ok (.goto 5, 3) := by decide +kernel
theorem dX10_comes_31 : decode cX10_comes 31 = .ok (.bipush 6, 2) := by decide +kernel
theorem dX10_comes_33 : decode cX10_comes 33 = .ok (.istore 4, 2) := by decide +kernel
theorem dX10_comes_35 : decode cX10_comes 35 = .ok (.iload_n 3, 1) := by decide +kernel
theorem dX10_comes_36 : decode cX10_comes 36 = .ok (.iload 4, 2) := by decide +kernel
theorem dX10_comes_38 : decode cX10_comes 38 = .ok (.if_icmp .le 24, 3) := by decide +kernel
theorem dX10_comes_41 : decode cX10_comes 41 = .ok (.aload_n 0, 1) := by decide +kernel
theorem dX10_comes_42 : decode cX10_comes 42 = .ok (.iload_n 2, 1) := by decide +kernel
theorem dX10_comes_43 : decode cX10_comes 43 = .ok (.iaload, 1) := by decide +kernel
theorem dX10_comes_44 : decode cX10_comes 44 = .ok (.iconst 5, 1) := by decide +kernel
theorem dX10_comes_45 : decode cX10_comes 45 = .ok (.if_icmp .ne 17, 3) := by decide +kernel
theorem dX10_comes_48 : decode cX10_comes 48 = .ok (.aload_n 0, 1) := by decide +kernel
theorem dX10_comes_49 : decode cX10_comes 49 = .ok (.iload_n 2, 1) := by decide +kernel
theorem dX10_comes_50 : decode cX10_comes 50 = .ok (.iconst 5, 1) := by decide +kernel
theorem dX10_comes_51 : decode cX10_comes 51 = .ok (.aload_n 0, 1) := by decide +kernel
theorem dX10_comes_52 : decode cX10_comes 52 = .ok (.iload_n 2, 1) := by decide +kernel
theorem dX10_comes_53 : decode cX10_comes 53 = .ok (.iconst 1, 1) := by decide +kernel
theorem dX10_comes_54 : decode cX10_comes 54 = .ok (.iadd, 1) := by decide +kernel
theorem dX10_comes_55 : decode cX10_comes 55 = .ok (.iaload, 1) := by decide +kernel
theorem dX10_comes_56 : decode cX10_comes 56 = .ok (.invokestatic 130, 3) := by decide +kernel
theorem dX10_comes_59 : decode cX10_comes 59 = .ok (.goto 73, 3) := by decide +kernel
theorem dX10_comes_62 : decode cX10_comes 62 = .ok (.iload_n 3, 1) := by decide +kernel
theorem dX10_comes_63 : decode cX10_comes 63 = .ok (.iload 4, 2) := by decide +kernel
theorem dX10_comes_65 : decode cX10_comes 65 = .ok (.if_icmp .le 43, 3) := by decide +kernel
theorem dX10_comes_68 : decode cX10_comes 68 = .ok (.iconst 0, 1) := by decide +kernel
theorem dX10_comes_69 : decode cX10_comes 69 = .ok (.istore 5, 2) := by decide +kernel
theorem dX10_comes_71 : decode cX10_comes 71 = .ok (.iload 5, 2) := by decide +kernel
theorem dX10_comes_73 : decode cX10_comes 73 = .ok (.iconst 1, 1) := by decide +kernel
theorem dX10_comes_74 : decode cX10_comes 74 = .ok (.iadd, 1) := by decide +kernel
theorem dX10_comes_75 : decode cX10_comes 75 = .ok (.iload_n 3, 1) := by decide +kernel
theorem dX10_comes_76 : decode cX10_comes 76 = .ok (.iconst 1, 1) := by decide +kernel
theorem dX10_comes_77 : decode cX10_comes 77 = .ok (.isub, 1) := by decide +kernel
theorem dX10_comes_78 : decode cX10_comes 78 = .ok (.if_icmp .ge 27, 3) := by decide +kernel
theorem dX10_comes_81 : decode cX10_comes 81 = .ok (.aload_n 0, 1) := by decide +kernel
theorem dX10_comes_82 : decode cX10_comes 82 = .ok (.iload_n 2, 1) := by decide +kernel
theorem dX10_comes_83 : decode cX10_comes 83 = .ok (.iconst 4, 1) := by decide +kernel
theorem dX10_comes_84 : decode cX10_comes 84 = .ok (.iadd, 1) := by decide +kernel
theorem dX10_comes_85 : decode cX10_comes 85 = .ok (.iload 5, 2) := by decide +kernel
theorem dX10_comes_87 : decode cX10_comes 87 = .ok (.iadd, 1) := by decide +kernel
theorem dX10_comes_88 : decode cX10_comes 88 = .ok (.aload_n 0, 1) := by decide +kernel
theorem dX10_comes_89 : decode cX10_comes 89 = .ok (.iload_n 2, 1) := by decide +kernel
theorem dX10_comes_90 : decode cX10_comes 90 = .ok (.iconst 4, 1) := by decide +kernel
theorem dX10_comes_91 : decode cX10_comes 91 = .ok (.iadd, 1) := by decide +kernel
theorem dX10_comes_92 : decode cX10_comes 92 = .ok (.iload 5, 2) := by decide +kernel
theorem dX10_comes_94 : decode cX10_comes 94 = .ok (.iadd, 1) := by decide +kernel
theorem dX10_comes_95 : decode cX10_comes 95 = .ok (.iconst 1, 1) := by decide +kernel
theorem dX10_comes_96 : decode cX10_comes 96 = .ok (.iadd, 1) := by decide +kernel
theorem dX10_comes_97 : decode cX10_comes 97 = .ok (.iaload, 1) := by decide +kernel
theorem dX10_comes_98 : decode cX10_comes 98 = .ok (.iastore, 1) := by decide +kernel
theorem dX10_comes_99 : decode cX10_comes 99 = .ok (.iinc 5 1, 3) := by decide +kernel
theorem dX10_comes_102 : decode cX10_comes 102 = .ok (.goto (-31), 3) := by decide +kernel
theorem dX10_comes_105 : decode cX10_comes 105 = .ok (.iinc 3 (-1), 3) := by decide +kernel
theorem dX10_comes_108 : decode cX10_comes 108 = .ok (.aload_n 0, 1) := by decide +kernel
theorem dX10_comes_109 : decode cX10_comes 109 = .ok (.iload_n 2, 1) := by decide +kernel
theorem dX10_comes_110 : decode cX10_comes 110 = .ok (.iconst 4, 1) := by decide +kernel
theorem dX10_comes_111 : decode cX10_comes 111 = .ok (.iadd, 1) := by decide +kernel
theorem dX10_comes_112 : decode cX10_comes 112 = .ok (.iload_n 3, 1) := by decide +kernel
theorem dX10_comes_113 : decode cX10_comes 113 = .ok (.iadd, 1) := by decide +kernel
theorem dX10_comes_114 : decode cX10_comes 114 = .ok (.iconst 1, 1) := by decide +kernel
theorem dX10_comes_115 : decode cX10_comes 115 = .ok (.isub, 1) := by decide +kernel
theorem dX10_comes_116 : decode cX10_comes 116 = .ok (.iload_n 1, 1) := by decide +kernel
theorem dX10_comes_117 : decode cX10_comes 117 = .ok (.iastore, 1) := by decide +kernel
theorem dX10_comes_118 : decode cX10_comes 118 = .ok (.aload_n 0, 1) := by decide +kernel
theorem dX10_comes_119 : decode cX10_comes 119 = .ok (.iload_n 2, 1) := by decide +kernel
theorem dX10_comes_120 : decode cX10_comes 120 = .ok (.iconst 3, 1) := by decide +kernel
theorem dX10_comes_121 : decode cX10_comes 121 = .ok (.iadd, 1) := by decide +kernel
theorem dX10_comes_122 : decode cX10_comes 122 = .ok (.iload_n 3, 1) := by decide +kernel
theorem dX10_comes_123 : decode cX10_comes 123 = .ok (.iconst 1, 1) := by decide +kernel
theorem dX10_comes_124 : decode cX10_comes 124 = .ok (.isub, 1) := by decide +kernel
theorem dX10_comes_125 : decode cX10_comes 125 = .ok (.iastore, 1) := by decide +kernel
theorem dX10_comes_126 : decode cX10_comes 126 = .ok (.aload_n 0, 1) := by decide +kernel
theorem dX10_comes_127 : decode cX10_comes 127 = .ok (.iload_n 2, 1) := by decide +kernel
theorem dX10_comes_128 : decode cX10_comes 128 = .ok (.iconst 2, 1) := by decide +kernel
theorem dX10_comes_129 : decode cX10_comes 129 = .ok (.iadd, 1) := by decide +kernel
theorem dX10_comes_130 : decode cX10_comes 130 = .ok (.iload_n 3, 1) := by decide +kernel
theorem dX10_comes_131 : decode cX10_comes 131 = .ok (.iastore, 1) := by decide +kernel
theorem dX10_comes_132 : decode cX10_comes 132 = .ok (.return_, 1) := by decide +kernel
theorem dX10_inserts_0 : decode cX10_inserts 0 = .ok (.aload_n 0, 1) := by decide +kernel
theorem dX10_inserts_1 : decode cX10_inserts 1 = .ok (.iconst 1, 1) := by decide +kernel
theorem dX10_inserts_2 : decode cX10_inserts 2 = .ok (.iaload, 1) := by decide +kernel
theorem dX10_inserts_3 : decode cX10_inserts 3 = .ok (.istore_n 3, 1) := by decide +kernel
theorem dX10_inserts_4 : decode cX10_inserts 4 = .ok (.iload_n 3, 1) := by decide +kernel
theorem dX10_inserts_5 : decode cX10_inserts 5 = .ok (.iload_n 1, 1) := by decide +kernel
theorem dX10_inserts_6 : decode cX10_inserts 6 = .ok (.if_icmp .le 29, 3) := by decide +kernel
theorem dX10_inserts_9 : decode cX10_inserts 9 = .ok (.aload_n 0, 1) := by decide +kernel
theorem dX10_inserts_10 : decode cX10_inserts 10 = .ok (.bipush 44, 2) := by decide +kernel
theorem dX10_inserts_12 : decode cX10_inserts 12 = .ok (.bipush 10, 2) := by decide +kernel
theorem dX10_inserts_14 : decode cX10_inserts 14 = .ok (.iload_n 3, 1) := by decide +kernel
theorem dX10_inserts_15 : decode cX10_inserts 15 = .ok (.iconst 1, 1) := by decide +kernel
theorem dX10_inserts_16 : decode cX10_inserts 16 = .ok (.isub, 1) := by decide +kernel
theorem dX10_inserts_17 : decode cX10_inserts 17 = .ok (.imul, 1) := by decide +kernel
theorem dX10_inserts_18 : decode cX10_inserts 18 = .ok (.iadd, 1) := by decide +kernel
theorem dX10_inserts_19 : decode cX10_inserts 19 = .ok (.bipush 44, 2) := by decide +kernel
theorem dX10_inserts_21 : decode cX10_inserts 21 = .ok (.bipush 10, 2) := by decide +kernel
theorem dX10_inserts_23 : decode cX10_inserts 23 = .ok (.iload_n 3, 1) := by decide +kernel
theorem dX10_inserts_24 : decode cX10_inserts 24 = .ok (.imul, 1) := by decide +kernel
theorem dX10_inserts_25 : decode cX10_inserts 25 = .ok (.iadd, 1) := by decide +kernel
theorem dX10_inserts_26 : decode cX10_inserts 26 = .ok (.invokestatic 164, 3) := by decide +kernel
theorem dX10_inserts_29 : decode cX10_inserts 29 = .ok (.iinc 3 (-1), 3) := by decide +kernel
theorem dX10_inserts_32 : decode cX10_inserts 32 = .ok (.goto (-28), 3) := by decide +kernel
theorem dX10_inserts_35 : decode cX10_inserts 35 = .ok (.aload_n 0, 1) := by decide +kernel
theorem dX10_inserts_36 : decode cX10_inserts 36 = .ok (.bipush 44, 2) := by decide +kernel
theorem dX10_inserts_38 : decode cX10_inserts 38 = .ok (.bipush 10, 2) := by decide +kernel
theorem dX10_inserts_40 : decode cX10_inserts 40 = .ok (.iload_n 1, 1) := by decide +kernel
theorem dX10_inserts_41 : decode cX10_inserts 41 = .ok (.imul, 1) := by decide +kernel
theorem dX10_inserts_42 : decode cX10_inserts 42 = .ok (.iadd, 1) := by decide +kernel
theorem dX10_inserts_43 : decode cX10_inserts 43 = .ok (.iconst 1, 1) := by decide +kernel
theorem dX10_inserts_44 : decode cX10_inserts 44 = .ok (.iload_n 2, 1) := by decide +kernel
theorem dX10_inserts_45 : decode cX10_inserts 45 = .ok (.invokestatic 130, 3) := by decide +kernel
theorem dX10_inserts_48 : decode cX10_inserts 48 = .ok (.aload_n 0, 1) := by decide +kernel
theorem dX10_inserts_49 : decode cX10_inserts 49 = .ok (.iconst 1, 1) := by decide +kernel
theorem dX10_inserts_50 : decode cX10_inserts 50 = .ok (.dup2, 1) := by decide +kernel
theorem dX10_inserts_51 : decode cX10_inserts 51 = .ok (.iaload, 1) := by decide +kernel
theorem dX10_inserts_52 : decode cX10_inserts 52 = .ok (.iconst 1, 1) := by decide +kernel
theorem dX10_inserts_53 : decode cX10_inserts 53 = .ok (.iadd, 1) := by decide +kernel
theorem dX10_inserts_54 : decode cX10_inserts 54 = .ok (.iastore, 1) := by decide +kernel
theorem dX10_inserts_55 : decode cX10_inserts 55 = .ok (.aload_n 0, 1) := by decide +kernel
theorem dX10_inserts_56 : decode cX10_inserts 56 = .ok (.iconst 2, 1) := by decide +kernel
theorem dX10_inserts_57 : decode cX10_inserts 57 = .ok (.iload_n 1, 1) := by decide +kernel
theorem dX10_inserts_58 : decode cX10_inserts 58 = .ok (.iastore, 1) := by decide +kernel
theorem dX10_inserts_59 : decode cX10_inserts 59 = .ok (.return_, 1) := by decide +kernel
theorem dX10_follows_0 : decode cX10_follows 0 = .ok (.aload_n 0, 1) := by decide +kernel
theorem dX10_follows_1 : decode cX10_follows 1 = .ok (.iconst 4, 1) := by decide +kernel
theorem dX10_follows_2 : decode cX10_follows 2 = .ok (.iconst 5, 1) := by decide +kernel
theorem dX10_follows_3 : decode cX10_follows 3 = .ok (.aload_n 0, 1) := by decide +kernel
theorem dX10_follows_4 : decode cX10_follows 4 = .ok (.invokestatic 157, 3) := by decide +kernel
theorem dX10_follows_7 : decode cX10_follows 7 = .ok (.imul, 1) := by decide +kernel
theorem dX10_follows_8 : decode cX10_follows 8 = .ok (.iadd, 1) := by decide +kernel
theorem dX10_follows_9 : decode cX10_follows 9 = .ok (.iconst 1, 1) := by decide +kernel
theorem dX10_follows_10 : decode cX10_follows 10 = .ok (.iadd, 1) := by decide +kernel
theorem dX10_follows_11 : decode cX10_follows 11 = .ok (.iload_n 1, 1) := by decide +kernel
theorem dX10_follows_12 : decode cX10_follows 12 = .ok (.iadd, 1) := by decide +kernel
theorem dX10_follows_13 : decode cX10_follows 13 = .ok (.iaload, 1) := by decide +kernel
theorem dX10_follows_14 : decode cX10_follows 14 = .ok (.istore_n 2, 1) := by decide +kernel
theorem dX10_follows_15 : decode cX10_follows 15 = .ok (.aload_n 0, 1) := by decide +kernel
theorem dX10_follows_16 : decode cX10_follows 16 = .ok (.aload_n 0, 1) := by decide +kernel
theorem dX10_follows_17 : decode cX10_follows 17 = .ok (.invokestatic 161, 3) := by decide +kernel
theorem dX10_follows_20 : decode cX10_follows 20 = .ok (.iaload, 1) := by decide +kernel
theorem dX10_follows_21 : decode cX10_follows 21 = .ok (.iconst 3, 1) := by decide +kernel
theorem dX10_follows_22 : decode cX10_follows 22 = .ok (.if_icmp .ne 16, 3) := by decide +kernel
theorem dX10_follows_25 : decode cX10_follows 25 = .ok (.aload_n 0, 1) := by decide +kernel
theorem dX10_follows_26 : decode cX10_follows 26 = .ok (.aload_n 0, 1) := by decide +kernel
theorem dX10_follows_27 : decode cX10_follows 27 = .ok (.iconst 2, 1) := by decide +kernel
theorem dX10_follows_28 : decode cX10_follows 28 = .ok (.iaload, 1) := by decide +kernel
theorem dX10_follows_29 : decode cX10_follows 29 = .ok (.iconst 1, 1) := by decide +kernel
theorem dX10_follows_30 : decode cX10_follows 30 = .ok (.iadd, 1) := by decide +kernel
theorem dX10_follows_31 : decode cX10_follows 31 = .ok (.iload_n 2, 1) := by decide +kernel
theorem dX10_follows_32 : decode cX10_follows 32 = .ok (.invokestatic 168, 3) := by decide +kernel
theorem dX10_follows_35 : decode cX10_follows 35 = .ok (.goto 8, 3) := by decide +kernel
theorem dX10_follows_38 : decode cX10_follows 38 = .ok (.aload_n 0, 1) := by decide +kernel
theorem dX10_follows_39 : decode cX10_follows 39 = .ok (.iload_n 2, 1) := by decide +kernel
theorem dX10_follows_40 : decode cX10_follows 40 = .ok (.invokestatic 171, 3) := by decide +kernel
theorem dX10_follows_43 : decode cX10_follows 43 = .ok (.aload_n 0, 1) := by decide +kernel
theorem dX10_follows_44 : decode cX10_follows 44 = .ok (.invokestatic 175, 3) := by decide +kernel
theorem dX10_follows_47 : decode cX10_follows 47 = .ok (.return_, 1) := by decide +kernel
theorem dX10_mayGo_0 : decode cX10_mayGo 0 = .ok (.aload_n 0, 1) := by decide +kernel
theorem dX10_mayGo_1 : decode cX10_mayGo 1 = .ok (.invokestatic 161, 3) := by decide +kernel
theorem dX10_mayGo_4 : decode cX10_mayGo 4 = .ok (.istore_n 2, 1) := by decide +kernel
theorem dX10_mayGo_5 : decode cX10_mayGo 5 = .ok (.aload_n 0, 1) := by decide +kernel
theorem dX10_mayGo_6 : decode cX10_mayGo 6 = .ok (.iload_n 2, 1) := by decide +kernel
theorem dX10_mayGo_7 : decode cX10_mayGo 7 = .ok (.iaload, 1) := by decide +kernel
theorem dX10_mayGo_8 : decode cX10_mayGo 8 = .ok (.iconst 5, 1) := by decide +kernel
theorem dX10_mayGo_9 : decode cX10_mayGo 9 = .ok (.if_icmp .eq 37, 3) := by decide +kernel
theorem dX10_mayGo_12 : decode cX10_mayGo 12 = .ok (.iload_n 1, 1) := by decide +kernel
theorem dX10_mayGo_13 : decode cX10_mayGo 13 = .ok (.ifCond .ne 14, 3) := by decide +kernel
theorem dX10_mayGo_16 : decode cX10_mayGo 16 = .ok (.aload_n 0, 1) := by decide +kernel
theorem dX10_mayGo_17 : decode cX10_mayGo 17 = .ok (.iload_n 2, 1) := by decide +kernel
theorem dX10_mayGo_18 : decode cX10_mayGo 18 = .ok (.iconst 3, 1) := by decide +kernel
theorem dX10_mayGo_19 : decode cX10_mayGo 19 = .ok (.iadd, 1) := by decide +kernel
theorem dX10_mayGo_20 : decode cX10_mayGo 20 = .ok (.iaload, 1) := by decide +kernel
theorem dX10_mayGo_21 : decode cX10_mayGo 21 = .ok (.ifCond .le 25, 3) := by decide +kernel
theorem dX10_mayGo_24 : decode cX10_mayGo 24 = .ok (.goto 18, 3) := by decide +kernel
theorem dX10_mayGo_27 : decode cX10_mayGo 27 = .ok (.aload_n 0, 1) := by decide +kernel
theorem dX10_mayGo_28 : decode cX10_mayGo 28 = .ok (.iload_n 2, 1) := by decide +kernel
theorem dX10_mayGo_29 : decode cX10_mayGo 29 = .ok (.iconst 3, 1) := by decide +kernel
theorem dX10_mayGo_30 : decode cX10_mayGo 30 = .ok (.iadd, 1) := by decide +kernel
theorem dX10_mayGo_31 : decode cX10_mayGo 31 = .ok (.iaload, 1) := by decide +kernel
theorem dX10_mayGo_32 : decode cX10_mayGo 32 = .ok (.iconst 1, 1) := by decide +kernel
theorem dX10_mayGo_33 : decode cX10_mayGo 33 = .ok (.iadd, 1) := by decide +kernel
theorem dX10_mayGo_34 : decode cX10_mayGo 34 = .ok (.aload_n 0, 1) := by decide +kernel
theorem dX10_mayGo_35 : decode cX10_mayGo 35 = .ok (.iload_n 2, 1) := by decide +kernel
theorem dX10_mayGo_36 : decode cX10_mayGo 36 = .ok (.iconst 2, 1) := by decide +kernel
theorem dX10_mayGo_37 : decode cX10_mayGo 37 = .ok (.iadd, 1) := by decide +kernel
theorem dX10_mayGo_38 : decode cX10_mayGo 38 = .ok (.iaload, 1) := by decide +kernel
theorem dX10_mayGo_39 : decode cX10_mayGo 39 = .ok (.if_icmp .ge 7, 3) := by decide +kernel
theorem dX10_mayGo_42 : decode cX10_mayGo 42 = .ok (.iconst 1, 1) := by decide +kernel
theorem dX10_mayGo_43 : decode cX10_mayGo 43 = .ok (.goto 4, 3) := by decide +kernel
theorem dX10_mayGo_46 : decode cX10_mayGo 46 = .ok (.iconst 0, 1) := by decide +kernel
theorem dX10_mayGo_47 : decode cX10_mayGo 47 = .ok (.ireturn, 1) := by decide +kernel
theorem dX10_goes_0 : decode cX10_goes 0 = .ok (.aload_n 0, 1) := by decide +kernel
theorem dX10_goes_1 : decode cX10_goes 1 = .ok (.aload_n 0, 1) := by decide +kernel
theorem dX10_goes_2 : decode cX10_goes 2 = .ok (.invokestatic 161, 3) := by decide +kernel
theorem dX10_goes_5 : decode cX10_goes 5 = .ok (.iconst 3, 1) := by decide +kernel
theorem dX10_goes_6 : decode cX10_goes 6 = .ok (.iadd, 1) := by decide +kernel
theorem dX10_goes_7 : decode cX10_goes 7 = .ok (.dup2, 1) := by decide +kernel
theorem dX10_goes_8 : decode cX10_goes 8 = .ok (.iaload, 1) := by decide +kernel
theorem dX10_goes_9 : decode cX10_goes 9 = .ok (.iload_n 1, 1) := by decide +kernel
theorem dX10_goes_10 : decode cX10_goes 10 = .ok (.ifCond .ne 7, 3) := by decide +kernel
theorem dX10_goes_13 : decode cX10_goes 13 = .ok (.iconst (-1), 1) := by decide +kernel
theorem dX10_goes_14 : decode cX10_goes 14 = .ok (.goto 4, 3) := by decide +kernel
theorem dX10_goes_17 : decode cX10_goes 17 = .ok (.iconst 1, 1) := by decide +kernel
theorem dX10_goes_18 : decode cX10_goes 18 = .ok (.iadd, 1) := by decide +kernel
theorem dX10_goes_19 : decode cX10_goes 19 = .ok (.iastore, 1) := by decide +kernel
theorem dX10_goes_20 : decode cX10_goes 20 = .ok (.return_, 1) := by decide +kernel
theorem dX10_opens_0 : decode cX10_opens 0 = .ok (.aload_n 0, 1) := by decide +kernel
theorem dX10_opens_1 : decode cX10_opens 1 = .ok (.aload_n 0, 1) := by decide +kernel
theorem dX10_opens_2 : decode cX10_opens 2 = .ok (.iconst 1, 1) := by decide +kernel
theorem dX10_opens_3 : decode cX10_opens 3 = .ok (.iaload, 1) := by decide +kernel
theorem dX10_opens_4 : decode cX10_opens 4 = .ok (.iload_n 1, 1) := by decide +kernel
theorem dX10_opens_5 : decode cX10_opens 5 = .ok (.invokestatic 168, 3) := by decide +kernel
theorem dX10_opens_8 : decode cX10_opens 8 = .ok (.aload_n 0, 1) := by decide +kernel
theorem dX10_opens_9 : decode cX10_opens 9 = .ok (.invokestatic 175, 3) := by decide +kernel
theorem dX10_opens_12 : decode cX10_opens 12 = .ok (.return_, 1) := by decide +kernel
theorem dX10_closes_0 : decode cX10_closes 0 = .ok (.aload_n 0, 1) := by decide +kernel
theorem dX10_closes_1 : decode cX10_closes 1 = .ok (.aload_n 0, 1) := by decide +kernel
theorem dX10_closes_2 : decode cX10_closes 2 = .ok (.invokestatic 161, 3) := by decide +kernel
theorem dX10_closes_5 : decode cX10_closes 5 = .ok (.iaload, 1) := by decide +kernel
theorem dX10_closes_6 : decode cX10_closes 6 = .ok (.iconst 4, 1) := by decide +kernel
theorem dX10_closes_7 : decode cX10_closes 7 = .ok (.if_icmp .ge 57, 3) := by decide +kernel
theorem dX10_closes_10 : decode cX10_closes 10 = .ok (.aload_n 0, 1) := by decide +kernel
theorem dX10_closes_11 : decode cX10_closes 11 = .ok (.iconst 3, 1) := by decide +kernel
theorem dX10_closes_12 : decode cX10_closes 12 = .ok (.iaload, 1) := by decide +kernel
theorem dX10_closes_13 : decode cX10_closes 13 = .ok (.iconst 3, 1) := by decide +kernel
theorem dX10_closes_14 : decode cX10_closes 14 = .ok (.if_icmp .ne 26, 3) := by decide +kernel
theorem dX10_closes_17 : decode cX10_closes 17 = .ok (.aload_n 0, 1) := by decide +kernel
theorem dX10_closes_18 : decode cX10_closes 18 = .ok (.bipush 104, 2) := by decide +kernel
theorem dX10_closes_20 : decode cX10_closes 20 = .ok (.bipush 94, 2) := by decide +kernel
theorem dX10_closes_22 : decode cX10_closes 22 = .ok (.invokestatic 164, 3) := by decide +kernel
theorem dX10_closes_25 : decode cX10_closes 25 = .ok (.aload_n 0, 1) := by decide +kernel
theorem dX10_closes_26 : decode cX10_closes 26 = .ok (.bipush 114, 2) := by decide +kernel
theorem dX10_closes_28 : decode cX10_closes 28 = .ok (.bipush 104, 2) := by decide +kernel
theorem dX10_closes_30 : decode cX10_closes 30 = .ok (.invokestatic 164, 3) := by decide +kernel
theorem dX10_closes_33 : decode cX10_closes 33 = .ok (.aload_n 0, 1) := by decide +kernel
theorem dX10_closes_34 : decode cX10_closes 34 = .ok (.iconst 3, 1) := by decide +kernel
theorem dX10_closes_35 : decode cX10_closes 35 = .ok (.dup2, 1) := by decide +kernel
theorem dX10_closes_36 : decode cX10_closes 36 = .ok (.iaload, 1) := by decide +kernel
theorem dX10_closes_37 : decode cX10_closes 37 = .ok (.iconst 1, 1) := by decide +kernel
theorem dX10_closes_38 : decode cX10_closes 38 = .ok (.isub, 1) := by decide +kernel
theorem dX10_closes_39 : decode cX10_closes 39 = .ok (.iastore, 1) := by decide +kernel
theorem dX10_closes_40 : decode cX10_closes 40 = .ok (.aload_n 0, 1) := by decide +kernel
theorem dX10_closes_41 : decode cX10_closes 41 = .ok (.aload_n 0, 1) := by decide +kernel
theorem dX10_closes_42 : decode cX10_closes 42 = .ok (.invokestatic 161, 3) := by decide +kernel
theorem dX10_closes_45 : decode cX10_closes 45 = .ok (.bipush 94, 2) := by decide +kernel
theorem dX10_closes_47 : decode cX10_closes 47 = .ok (.bipush 10, 2) := by decide +kernel
theorem dX10_closes_49 : decode cX10_closes 49 = .ok (.aload_n 0, 1) := by decide +kernel
theorem dX10_closes_50 : decode cX10_closes 50 = .ok (.iconst 3, 1) := by decide +kernel
theorem dX10_closes_51 : decode cX10_closes 51 = .ok (.iaload, 1) := by decide +kernel
theorem dX10_closes_52 : decode cX10_closes 52 = .ok (.imul, 1) := by decide +kernel
theorem dX10_closes_53 : decode cX10_closes 53 = .ok (.iadd, 1) := by decide +kernel
theorem dX10_closes_54 : decode cX10_closes 54 = .ok (.invokestatic 164, 3) := by decide +kernel
theorem dX10_closes_57 : decode cX10_closes 57 = .ok (.aload_n 0, 1) := by decide +kernel
theorem dX10_closes_58 : decode cX10_closes 58 = .ok (.iconst 3, 1) := by decide +kernel
theorem dX10_closes_59 : decode cX10_closes 59 = .ok (.dup2, 1) := by decide +kernel
theorem dX10_closes_60 : decode cX10_closes 60 = .ok (.iaload, 1) := by decide +kernel
theorem dX10_closes_61 : decode cX10_closes 61 = .ok (.iconst 1, 1) := by decide +kernel
theorem dX10_closes_62 : decode cX10_closes 62 = .ok (.iadd, 1) := by decide +kernel
theorem dX10_closes_63 : decode cX10_closes 63 = .ok (.iastore, 1) := by decide +kernel
theorem dX10_closes_64 : decode cX10_closes 64 = .ok (.aload_n 0, 1) := by decide +kernel
theorem dX10_closes_65 : decode cX10_closes 65 = .ok (.iconst 1, 1) := by decide +kernel
theorem dX10_closes_66 : decode cX10_closes 66 = .ok (.dup2, 1) := by decide +kernel
theorem dX10_closes_67 : decode cX10_closes 67 = .ok (.iaload, 1) := by decide +kernel
theorem dX10_closes_68 : decode cX10_closes 68 = .ok (.iconst 1, 1) := by decide +kernel
theorem dX10_closes_69 : decode cX10_closes 69 = .ok (.isub, 1) := by decide +kernel
theorem dX10_closes_70 : decode cX10_closes 70 = .ok (.iastore, 1) := by decide +kernel
theorem dX10_closes_71 : decode cX10_closes 71 = .ok (.aload_n 0, 1) := by decide +kernel
theorem dX10_closes_72 : decode cX10_closes 72 = .ok (.iconst 2, 1) := by decide +kernel
theorem dX10_closes_73 : decode cX10_closes 73 = .ok (.iaload, 1) := by decide +kernel
theorem dX10_closes_74 : decode cX10_closes 74 = .ok (.istore_n 1, 1) := by decide +kernel
theorem dX10_closes_75 : decode cX10_closes 75 = .ok (.iload_n 1, 1) := by decide +kernel
theorem dX10_closes_76 : decode cX10_closes 76 = .ok (.aload_n 0, 1) := by decide +kernel
theorem dX10_closes_77 : decode cX10_closes 77 = .ok (.iconst 1, 1) := by decide +kernel
theorem dX10_closes_78 : decode cX10_closes 78 = .ok (.iaload, 1) := by decide +kernel
theorem dX10_closes_79 : decode cX10_closes 79 = .ok (.if_icmp .ge 29, 3) := by decide +kernel
theorem dX10_closes_82 : decode cX10_closes 82 = .ok (.aload_n 0, 1) := by decide +kernel
theorem dX10_closes_83 : decode cX10_closes 83 = .ok (.bipush 44, 2) := by decide +kernel
theorem dX10_closes_85 : decode cX10_closes 85 = .ok (.bipush 10, 2) := by decide +kernel
theorem dX10_closes_87 : decode cX10_closes 87 = .ok (.iload_n 1, 1) := by decide +kernel
theorem dX10_closes_88 : decode cX10_closes 88 = .ok (.iconst 1, 1) := by decide +kernel
theorem dX10_closes_89 : decode cX10_closes 89 = .ok (.iadd, 1) := by decide +kernel
theorem dX10_closes_90 : decode cX10_closes 90 = .ok (.imul, 1) := by decide +kernel
theorem dX10_closes_91 : decode cX10_closes 91 = .ok (.iadd, 1) := by decide +kernel
theorem dX10_closes_92 : decode cX10_closes 92 = .ok (.bipush 44, 2) := by decide +kernel
theorem dX10_closes_94 : decode cX10_closes 94 = .ok (.bipush 10, 2) := by decide +kernel
theorem dX10_closes_96 : decode cX10_closes 96 = .ok (.iload_n 1, 1) := by decide +kernel
theorem dX10_closes_97 : decode cX10_closes 97 = .ok (.imul, 1) := by decide +kernel
theorem dX10_closes_98 : decode cX10_closes 98 = .ok (.iadd, 1) := by decide +kernel
theorem dX10_closes_99 : decode cX10_closes 99 = .ok (.invokestatic 164, 3) := by decide +kernel
theorem dX10_closes_102 : decode cX10_closes 102 = .ok (.iinc 1 1, 3) := by decide +kernel
theorem dX10_closes_105 : decode cX10_closes 105 = .ok (.goto (-30), 3) := by decide +kernel
theorem dX10_closes_108 : decode cX10_closes 108 = .ok (.aload_n 0, 1) := by decide +kernel
theorem dX10_closes_109 : decode cX10_closes 109 = .ok (.iconst 2, 1) := by decide +kernel
theorem dX10_closes_110 : decode cX10_closes 110 = .ok (.aload_n 0, 1) := by decide +kernel
theorem dX10_closes_111 : decode cX10_closes 111 = .ok (.iconst 2, 1) := by decide +kernel
theorem dX10_closes_112 : decode cX10_closes 112 = .ok (.iaload, 1) := by decide +kernel
theorem dX10_closes_113 : decode cX10_closes 113 = .ok (.aload_n 0, 1) := by decide +kernel
theorem dX10_closes_114 : decode cX10_closes 114 = .ok (.iconst 1, 1) := by decide +kernel
theorem dX10_closes_115 : decode cX10_closes 115 = .ok (.iaload, 1) := by decide +kernel
theorem dX10_closes_116 : decode cX10_closes 116 = .ok (.if_icmp .ge 9, 3) := by decide +kernel
theorem dX10_closes_119 : decode cX10_closes 119 = .ok (.aload_n 0, 1) := by decide +kernel
theorem dX10_closes_120 : decode cX10_closes 120 = .ok (.iconst 2, 1) := by decide +kernel
theorem dX10_closes_121 : decode cX10_closes 121 = .ok (.iaload, 1) := by decide +kernel
theorem dX10_closes_122 : decode cX10_closes 122 = .ok (.goto 8, 3) := by decide +kernel
theorem dX10_closes_125 : decode cX10_closes 125 = .ok (.aload_n 0, 1) := by decide +kernel
theorem dX10_closes_126 : decode cX10_closes 126 = .ok (.iconst 1, 1) := by decide +kernel
theorem dX10_closes_127 : decode cX10_closes 127 = .ok (.iaload, 1) := by decide +kernel
theorem dX10_closes_128 : decode cX10_closes 128 = .ok (.iconst 1, 1) := by decide +kernel
theorem dX10_closes_129 : decode cX10_closes 129 = .ok (.isub, 1) := by decide +kernel
theorem dX10_closes_130 : decode cX10_closes 130 = .ok (.iastore, 1) := by decide +kernel
theorem dX10_closes_131 : decode cX10_closes 131 = .ok (.return_, 1) := by decide +kernel
theorem dX10_notes_0 : decode cX10_notes 0 = .ok (.aload_n 0, 1) := by decide +kernel
theorem dX10_notes_1 : decode cX10_notes 1 = .ok (.getfield 150, 3) := by decide +kernel
theorem dX10_notes_4 : decode cX10_notes 4 = .ok (.bipush 24, 2) := by decide +kernel
theorem dX10_notes_6 : decode cX10_notes 6 = .ok (.if_icmp .ne 43, 3) := by decide +kernel
theorem dX10_notes_9 : decode cX10_notes 9 = .ok (.iconst 0, 1) := by decide +kernel
theorem dX10_notes_10 : decode cX10_notes 10 = .ok (.istore_n 1, 1) := by decide +kernel
theorem dX10_notes_11 : decode cX10_notes 11 = .ok (.iload_n 1, 1) := by decide +kernel
theorem dX10_notes_12 : decode cX10_notes 12 = .ok (.sipush 2852, 3) := by decide +kernel
theorem dX10_notes_15 : decode cX10_notes 15 = .ok (.if_icmp .ge 24, 3) := by decide +kernel
theorem dX10_notes_18 : decode cX10_notes 18 = .ok (.aload_n 0, 1) := by decide +kernel
theorem dX10_notes_19 : decode cX10_notes 19 = .ok (.getfield 34, 3) := by decide +kernel
theorem dX10_notes_22 : decode cX10_notes 22 = .ok (.iload_n 1, 1) := by decide +kernel
theorem dX10_notes_23 : decode cX10_notes 23 = .ok (.aload_n 0, 1) := by decide +kernel
theorem dX10_notes_24 : decode cX10_notes 24 = .ok (.getfield 34, 3) := by decide +kernel
theorem dX10_notes_27 : decode cX10_notes 27 = .ok (.iload_n 1, 1) := by decide +kernel
theorem dX10_notes_28 : decode cX10_notes 28 = .ok (.bipush 124, 2) := by decide +kernel
theorem dX10_notes_30 : decode cX10_notes 30 = .ok (.iadd, 1) := by decide +kernel
theorem dX10_notes_31 : decode cX10_notes 31 = .ok (.iaload, 1) := by decide +kernel
theorem dX10_notes_32 : decode cX10_notes 32 = .ok (.iastore, 1) := by decide +kernel
theorem dX10_notes_33 : decode cX10_notes 33 = .ok (.iinc 1 1, 3) := by decide +kernel
theorem dX10_notes_36 : decode cX10_notes 36 = .ok (.goto (-25), 3) := by decide +kernel
theorem dX10_notes_39 : decode cX10_notes 39 = .ok (.aload_n 0, 1) := by decide +kernel
theorem dX10_notes_40 : decode cX10_notes 40 = .ok (.dup, 1) := by decide +kernel
theorem dX10_notes_41 : decode cX10_notes 41 = .ok (.getfield 150, 3) := by decide +kernel
theorem dX10_notes_44 : decode cX10_notes 44 = .ok (.iconst 1, 1) := by decide +kernel
theorem dX10_notes_45 : decode cX10_notes 45 = .ok (.isub, 1) := by decide +kernel
theorem dX10_notes_46 : decode cX10_notes 46 = .ok (.putfield 150, 3) := by decide +kernel
theorem dX10_notes_49 : decode cX10_notes 49 = .ok (.aload_n 0, 1) := by decide +kernel
theorem dX10_notes_50 : decode cX10_notes 50 = .ok (.getfield 25, 3) := by decide +kernel
theorem dX10_notes_53 : decode cX10_notes 53 = .ok (.iconst 0, 1) := by decide +kernel
theorem dX10_notes_54 : decode cX10_notes 54 = .ok (.aload_n 0, 1) := by decide +kernel
theorem dX10_notes_55 : decode cX10_notes 55 = .ok (.getfield 34, 3) := by decide +kernel
theorem dX10_notes_58 : decode cX10_notes 58 = .ok (.bipush 124, 2) := by decide +kernel
theorem dX10_notes_60 : decode cX10_notes 60 = .ok (.aload_n 0, 1) := by decide +kernel
theorem dX10_notes_61 : decode cX10_notes 61 = .ok (.getfield 150, 3) := by decide +kernel
theorem dX10_notes_64 : decode cX10_notes 64 = .ok (.imul, 1) := by decide +kernel
theorem dX10_notes_65 : decode cX10_notes 65 = .ok (.invokestatic 146, 3) := by decide +kernel
theorem dX10_notes_68 : decode cX10_notes 68 = .ok (.aload_n 0, 1) := by decide +kernel
theorem dX10_notes_69 : decode cX10_notes 69 = .ok (.dup, 1) := by decide +kernel
theorem dX10_notes_70 : decode cX10_notes 70 = .ok (.getfield 150, 3) := by decide +kernel
theorem dX10_notes_73 : decode cX10_notes 73 = .ok (.iconst 1, 1) := by decide +kernel
theorem dX10_notes_74 : decode cX10_notes 74 = .ok (.iadd, 1) := by decide +kernel
theorem dX10_notes_75 : decode cX10_notes 75 = .ok (.putfield 150, 3) := by decide +kernel
theorem dX10_notes_78 : decode cX10_notes 78 = .ok (.return_, 1) := by decide +kernel
theorem dX10_follow_0 : decode cX10_follow 0 = .ok (.aload_n 0, 1) := by decide +kernel
theorem dX10_follow_1 : decode cX10_follow 1 = .ok (.invokevirtual 179, 3) := by decide +kernel
theorem dX10_follow_4 : decode cX10_follow 4 = .ok (.ifCond .ne 6, 3) := by decide +kernel
theorem dX10_follow_7 : decode cX10_follow 7 = .ok (.ldc 182, 2) := by decide +kernel
theorem dX10_follow_9 : decode cX10_follow 9 = .ok (.ireturn, 1) := by decide +kernel
theorem dX10_follow_10 : decode cX10_follow 10 = .ok (.iload_n 1, 1) := by decide +kernel
theorem dX10_follow_11 : decode cX10_follow 11 = .ok (.iconst 0, 1) := by decide +kernel
theorem dX10_follow_12 : decode cX10_follow 12 = .ok (.iconst 2, 1) := by decide +kernel
theorem dX10_follow_13 : decode cX10_follow 13 = .ok (.invokestatic 62, 3) := by decide +kernel
theorem dX10_follow_16 : decode cX10_follow 16 = .ok (.ifCond .ne 6, 3) := by decide +kernel
theorem dX10_follow_19 : decode cX10_follow 19 = .ok (.ldc 70, 2) := by decide +kernel
theorem dX10_follow_21 : decode cX10_follow 21 = .ok (.ireturn, 1) := by decide +kernel
theorem dX10_follow_22 : decode cX10_follow 22 = .ok (.aload_n 0, 1) := by decide +kernel
theorem dX10_follow_23 : decode cX10_follow 23 = .ok (.getfield 25, 3) := by decide +kernel
theorem dX10_follow_26 : decode cX10_follow 26 = .ok (.iload_n 1, 1) := by decide +kernel
theorem dX10_follow_27 : decode cX10_follow 27 = .ok (.invokestatic 183, 3) := by decide +kernel
theorem dX10_follow_30 : decode cX10_follow 30 = .ok (.ifCond .ne 6, 3) := by decide +kernel
theorem dX10_follow_33 : decode cX10_follow 33 = .ok (.ldc 182, 2) := by decide +kernel
theorem dX10_follow_35 : decode cX10_follow 35 = .ok (.ireturn, 1) := by decide +kernel
theorem dX10_follow_36 : decode cX10_follow 36 = .ok (.aload_n 0, 1) := by decide +kernel
theorem dX10_follow_37 : decode cX10_follow 37 = .ok (.invokevirtual 187, 3) := by decide +kernel
theorem dX10_follow_40 : decode cX10_follow 40 = .ok (.aload_n 0, 1) := by decide +kernel
theorem dX10_follow_41 : decode cX10_follow 41 = .ok (.getfield 25, 3) := by decide +kernel
theorem dX10_follow_44 : decode cX10_follow 44 = .ok (.iload_n 1, 1) := by decide +kernel
theorem dX10_follow_45 : decode cX10_follow 45 = .ok (.invokestatic 190, 3) := by decide +kernel
theorem dX10_follow_48 : decode cX10_follow 48 = .ok (.aload_n 0, 1) := by decide +kernel
theorem dX10_follow_49 : decode cX10_follow 49 = .ok (.getfield 25, 3) := by decide +kernel
theorem dX10_follow_52 : decode cX10_follow 52 = .ok (.invokestatic 157, 3) := by decide +kernel
theorem dX10_follow_55 : decode cX10_follow 55 = .ok (.ireturn, 1) := by decide +kernel
theorem dX10_turned_0 : decode cX10_turned 0 = .ok (.aload_n 0, 1) := by decide +kernel
theorem dX10_turned_1 : decode cX10_turned 1 = .ok (.invokevirtual 179, 3) := by decide +kernel
theorem dX10_turned_4 : decode cX10_turned 4 = .ok (.ifCond .eq 14, 3) := by decide +kernel
theorem dX10_turned_7 : decode cX10_turned 7 = .ok (.aload_n 0, 1) := by decide +kernel
theorem dX10_turned_8 : decode cX10_turned 8 = .ok (.getfield 25, 3) := by decide +kernel
theorem dX10_turned_11 : decode cX10_turned 11 = .ok (.iload_n 1, 1) := by decide +kernel
theorem dX10_turned_12 : decode cX10_turned 12 = .ok (.invokestatic 193, 3) := by decide +kernel
theorem dX10_turned_15 : decode cX10_turned 15 = .ok (.ifCond .ne 6, 3) := by decide +kernel
theorem dX10_turned_18 : decode cX10_turned 18 = .ok (.ldc 182, 2) := by decide +kernel
theorem dX10_turned_20 : decode cX10_turned 20 = .ok (.ireturn, 1) := by decide +kernel
theorem dX10_turned_21 : decode cX10_turned 21 = .ok (.aload_n 0, 1) := by decide +kernel
theorem dX10_turned_22 : decode cX10_turned 22 = .ok (.invokevirtual 187, 3) := by decide +kernel
theorem dX10_turned_25 : decode cX10_turned 25 = .ok (.aload_n 0, 1) := by decide +kernel
theorem dX10_turned_26 : decode cX10_turned 26 = .ok (.getfield 25, 3) := by decide +kernel
theorem dX10_turned_29 : decode cX10_turned 29 = .ok (.iload_n 1, 1) := by decide +kernel
theorem dX10_turned_30 : decode cX10_turned 30 = .ok (.invokestatic 196, 3) := by decide +kernel
theorem dX10_turned_33 : decode cX10_turned 33 = .ok (.aload_n 0, 1) := by decide +kernel
theorem dX10_turned_34 : decode cX10_turned 34 = .ok (.getfield 25, 3) := by decide +kernel
theorem dX10_turned_37 : decode cX10_turned 37 = .ok (.invokestatic 157, 3) := by decide +kernel
theorem dX10_turned_40 : decode cX10_turned 40 = .ok (.ireturn, 1) := by decide +kernel
theorem dX10_back_0 : decode cX10_back 0 = .ok (.aload_n 0, 1) := by decide +kernel
theorem dX10_back_1 : decode cX10_back 1 = .ok (.iconst 0, 1) := by decide +kernel
theorem dX10_back_2 : decode cX10_back 2 = .ok (.invokevirtual 199, 3) := by decide +kernel
theorem dX10_back_5 : decode cX10_back 5 = .ok (.ireturn, 1) := by decide +kernel
theorem dX10_forward_0 : decode cX10_forward 0 = .ok (.aload_n 0, 1) := by decide +kernel
theorem dX10_forward_1 : decode cX10_forward 1 = .ok (.iconst 1, 1) := by decide +kernel
theorem dX10_forward_2 : decode cX10_forward 2 = .ok (.invokevirtual 199, 3) := by decide +kernel
theorem dX10_forward_5 : decode cX10_forward 5 = .ok (.ireturn, 1) := by decide +kernel
theorem dX10_select_0 : decode cX10_select 0 = .ok (.aload_n 0, 1) := by decide +kernel
theorem dX10_select_1 : decode cX10_select 1 = .ok (.iload_n 1, 1) := by decide +kernel
theorem dX10_select_2 : decode cX10_select 2 = .ok (.invokevirtual 202, 3) := by decide +kernel
theorem dX10_select_5 : decode cX10_select 5 = .ok (.ifCond .ne 6, 3) := by decide +kernel
theorem dX10_select_8 : decode cX10_select 8 = .ok (.ldc 70, 2) := by decide +kernel
theorem dX10_select_10 : decode cX10_select 10 = .ok (.ireturn, 1) := by decide +kernel
theorem dX10_select_11 : decode cX10_select 11 = .ok (.aload_n 0, 1) := by decide +kernel
theorem dX10_select_12 : decode cX10_select 12 = .ok (.getfield 25, 3) := by decide +kernel
theorem dX10_select_15 : decode cX10_select 15 = .ok (.iconst 2, 1) := by decide +kernel
theorem dX10_select_16 : decode cX10_select 16 = .ok (.iaload, 1) := by decide +kernel
theorem dX10_select_17 : decode cX10_select 17 = .ok (.istore_n 2, 1) := by decide +kernel
theorem dX10_select_18 : decode cX10_select 18 = .ok (.iload_n 2, 1) := by decide +kernel
theorem dX10_select_19 : decode cX10_select 19 = .ok (.iload_n 1, 1) := by decide +kernel
theorem dX10_select_20 : decode cX10_select 20 = .ok (.if_icmp .ne 6, 3) := by decide +kernel
theorem dX10_select_23 : decode cX10_select 23 = .ok (.ldc 182, 2) := by decide +kernel
theorem dX10_select_25 : decode cX10_select 25 = .ok (.ireturn, 1) := by decide +kernel
theorem dX10_select_26 : decode cX10_select 26 = .ok (.aload_n 0, 1) := by decide +kernel
theorem dX10_select_27 : decode cX10_select 27 = .ok (.invokevirtual 187, 3) := by decide +kernel
theorem dX10_select_30 : decode cX10_select 30 = .ok (.aload_n 0, 1) := by decide +kernel
theorem dX10_select_31 : decode cX10_select 31 = .ok (.getfield 25, 3) := by decide +kernel
theorem dX10_select_34 : decode cX10_select 34 = .ok (.iconst 2, 1) := by decide +kernel
theorem dX10_select_35 : decode cX10_select 35 = .ok (.iload_n 1, 1) := by decide +kernel
theorem dX10_select_36 : decode cX10_select 36 = .ok (.iastore, 1) := by decide +kernel
theorem dX10_select_37 : decode cX10_select 37 = .ok (.iload_n 2, 1) := by decide +kernel
theorem dX10_select_38 : decode cX10_select 38 = .ok (.ireturn, 1) := by decide +kernel
theorem dX10_open_0 : decode cX10_open 0 = .ok (.aload_n 0, 1) := by decide +kernel
theorem dX10_open_1 : decode cX10_open 1 = .ok (.iload_n 1, 1) := by decide +kernel
theorem dX10_open_2 : decode cX10_open 2 = .ok (.invokevirtual 205, 3) := by decide +kernel
theorem dX10_open_5 : decode cX10_open 5 = .ok (.ifCond .ne 6, 3) := by decide +kernel
theorem dX10_open_8 : decode cX10_open 8 = .ok (.ldc 70, 2) := by decide +kernel
theorem dX10_open_10 : decode cX10_open 10 = .ok (.ireturn, 1) := by decide +kernel
theorem dX10_open_11 : decode cX10_open 11 = .ok (.aload_n 0, 1) := by decide +kernel
theorem dX10_open_12 : decode cX10_open 12 = .ok (.getfield 25, 3) := by decide +kernel
theorem dX10_open_15 : decode cX10_open 15 = .ok (.iconst 1, 1) := by decide +kernel
theorem dX10_open_16 : decode cX10_open 16 = .ok (.iaload, 1) := by decide +kernel
theorem dX10_open_17 : decode cX10_open 17 = .ok (.iconst 5, 1) := by decide +kernel
theorem dX10_open_18 : decode cX10_open 18 = .ok (.if_icmp .ne 6, 3) := by decide +kernel
theorem dX10_open_21 : decode cX10_open 21 = .ok (.ldc 182, 2) := by decide +kernel
theorem dX10_open_23 : decode cX10_open 23 = .ok (.ireturn, 1) := by decide +kernel
theorem dX10_open_24 : decode cX10_open 24 = .ok (.aload_n 0, 1) := by decide +kernel
theorem dX10_open_25 : decode cX10_open 25 = .ok (.invokevirtual 187, 3) := by decide +kernel
theorem dX10_open_28 : decode cX10_open 28 = .ok (.aload_n 0, 1) := by decide +kernel
theorem dX10_open_29 : decode cX10_open 29 = .ok (.getfield 25, 3) := by decide +kernel
theorem dX10_open_32 : decode cX10_open 32 = .ok (.iload_n 1, 1) := by decide +kernel
theorem dX10_open_33 : decode cX10_open 33 = .ok (.invokestatic 208, 3) := by decide +kernel
theorem dX10_open_36 : decode cX10_open 36 = .ok (.aload_n 0, 1) := by decide +kernel
theorem dX10_open_37 : decode cX10_open 37 = .ok (.getfield 25, 3) := by decide +kernel
theorem dX10_open_40 : decode cX10_open 40 = .ok (.iconst 1, 1) := by decide +kernel
theorem dX10_open_41 : decode cX10_open 41 = .ok (.iaload, 1) := by decide +kernel
theorem dX10_open_42 : decode cX10_open 42 = .ok (.ireturn, 1) := by decide +kernel
theorem dX10_close_0 : decode cX10_close 0 = .ok (.aload_n 0, 1) := by decide +kernel
theorem dX10_close_1 : decode cX10_close 1 = .ok (.getfield 25, 3) := by decide +kernel
theorem dX10_close_4 : decode cX10_close 4 = .ok (.iconst 1, 1) := by decide +kernel
theorem dX10_close_5 : decode cX10_close 5 = .ok (.iaload, 1) := by decide +kernel
theorem dX10_close_6 : decode cX10_close 6 = .ok (.iconst 2, 1) := by decide +kernel
theorem dX10_close_7 : decode cX10_close 7 = .ok (.if_icmp .ge 6, 3) := by decide +kernel
theorem dX10_close_10 : decode cX10_close 10 = .ok (.ldc 182, 2) := by decide +kernel
theorem dX10_close_12 : decode cX10_close 12 = .ok (.ireturn, 1) := by decide +kernel
theorem dX10_close_13 : decode cX10_close 13 = .ok (.aload_n 0, 1) := by decide +kernel
theorem dX10_close_14 : decode cX10_close 14 = .ok (.invokevirtual 187, 3) := by decide +kernel
theorem dX10_close_17 : decode cX10_close 17 = .ok (.aload_n 0, 1) := by decide +kernel
theorem dX10_close_18 : decode cX10_close 18 = .ok (.getfield 25, 3) := by decide +kernel
theorem dX10_close_21 : decode cX10_close 21 = .ok (.invokestatic 211, 3) := by decide +kernel
theorem dX10_close_24 : decode cX10_close 24 = .ok (.aload_n 0, 1) := by decide +kernel
theorem dX10_close_25 : decode cX10_close 25 = .ok (.getfield 25, 3) := by decide +kernel
theorem dX10_close_28 : decode cX10_close 28 = .ok (.iconst 2, 1) := by decide +kernel
theorem dX10_close_29 : decode cX10_close 29 = .ok (.iaload, 1) := by decide +kernel
theorem dX10_close_30 : decode cX10_close 30 = .ok (.ireturn, 1) := by decide +kernel
theorem dX10_again_0 : decode cX10_again 0 = .ok (.aload_n 0, 1) := by decide +kernel
theorem dX10_again_1 : decode cX10_again 1 = .ok (.getfield 25, 3) := by decide +kernel
theorem dX10_again_4 : decode cX10_again 4 = .ok (.iconst 3, 1) := by decide +kernel
theorem dX10_again_5 : decode cX10_again 5 = .ok (.iaload, 1) := by decide +kernel
theorem dX10_again_6 : decode cX10_again 6 = .ok (.ifCond .eq 13, 3) := by decide +kernel
theorem dX10_again_9 : decode cX10_again 9 = .ok (.aload_n 0, 1) := by decide +kernel
theorem dX10_again_10 : decode cX10_again 10 = .ok (.getfield 25, 3) := by decide +kernel
theorem dX10_again_13 : decode cX10_again 13 = .ok (.iconst 1, 1) := by decide +kernel
theorem dX10_again_14 : decode cX10_again 14 = .ok (.iaload, 1) := by decide +kernel
theorem dX10_again_15 : decode cX10_again 15 = .ok (.iconst 5, 1) := by decide +kernel
theorem dX10_again_16 : decode cX10_again 16 = .ok (.if_icmp .ne 6, 3) := by decide +kernel
theorem dX10_again_19 : decode cX10_again 19 = .ok (.ldc 182, 2) := by decide +kernel
theorem dX10_again_21 : decode cX10_again 21 = .ok (.ireturn, 1) := by decide +kernel
theorem dX10_again_22 : decode cX10_again 22 = .ok (.aload_n 0, 1) := by decide +kernel
theorem dX10_again_23 : decode cX10_again 23 = .ok (.invokevirtual 187, 3) := by decide +kernel
theorem dX10_again_26 : decode cX10_again 26 = .ok (.aload_n 0, 1) := by decide +kernel
theorem dX10_again_27 : decode cX10_again 27 = .ok (.getfield 25, 3) := by decide +kernel
theorem dX10_again_30 : decode cX10_again 30 = .ok (.iconst 3, 1) := by decide +kernel
theorem dX10_again_31 : decode cX10_again 31 = .ok (.dup2, 1) := by decide +kernel
theorem dX10_again_32 : decode cX10_again 32 = .ok (.iaload, 1) := by decide +kernel
theorem dX10_again_33 : decode cX10_again 33 = .ok (.iconst 1, 1) := by decide +kernel
theorem dX10_again_34 : decode cX10_again 34 = .ok (.isub, 1) := by decide +kernel
theorem dX10_again_35 : decode cX10_again 35 = .ok (.iastore, 1) := by decide +kernel
theorem dX10_again_36 : decode cX10_again 36 = .ok (.aload_n 0, 1) := by decide +kernel
theorem dX10_again_37 : decode cX10_again 37 = .ok (.getfield 25, 3) := by decide +kernel
theorem dX10_again_40 : decode cX10_again 40 = .ok (.bipush 94, 2) := by decide +kernel
theorem dX10_again_42 : decode cX10_again 42 = .ok (.bipush 10, 2) := by decide +kernel
theorem dX10_again_44 : decode cX10_again 44 = .ok (.aload_n 0, 1) := by decide +kernel
theorem dX10_again_45 : decode cX10_again 45 = .ok (.getfield 25, 3) := by decide +kernel
theorem dX10_again_48 : decode cX10_again 48 = .ok (.iconst 3, 1) := by decide +kernel
theorem dX10_again_49 : decode cX10_again 49 = .ok (.iaload, 1) := by decide +kernel
theorem dX10_again_50 : decode cX10_again 50 = .ok (.imul, 1) := by decide +kernel
theorem dX10_again_51 : decode cX10_again 51 = .ok (.iadd, 1) := by decide +kernel
theorem dX10_again_52 : decode cX10_again 52 = .ok (.bipush 44, 2) := by decide +kernel
theorem dX10_again_54 : decode cX10_again 54 = .ok (.bipush 10, 2) := by decide +kernel
theorem dX10_again_56 : decode cX10_again 56 = .ok (.aload_n 0, 1) := by decide +kernel
theorem dX10_again_57 : decode cX10_again 57 = .ok (.getfield 25, 3) := by decide +kernel
theorem dX10_again_60 : decode cX10_again 60 = .ok (.iconst 1, 1) := by decide +kernel
theorem dX10_again_61 : decode cX10_again 61 = .ok (.iaload, 1) := by decide +kernel
theorem dX10_again_62 : decode cX10_again 62 = .ok (.imul, 1) := by decide +kernel
theorem dX10_again_63 : decode cX10_again 63 = .ok (.iadd, 1) := by decide +kernel
theorem dX10_again_64 : decode cX10_again 64 = .ok (.invokestatic 164, 3) := by decide +kernel
theorem dX10_again_67 : decode cX10_again 67 = .ok (.aload_n 0, 1) := by decide +kernel
theorem dX10_again_68 : decode cX10_again 68 = .ok (.getfield 25, 3) := by decide +kernel
theorem dX10_again_71 : decode cX10_again 71 = .ok (.iconst 2, 1) := by decide +kernel
theorem dX10_again_72 : decode cX10_again 72 = .ok (.aload_n 0, 1) := by decide +kernel
theorem dX10_again_73 : decode cX10_again 73 = .ok (.getfield 25, 3) := by decide +kernel
theorem dX10_again_76 : decode cX10_again 76 = .ok (.iconst 1, 1) := by decide +kernel
theorem dX10_again_77 : decode cX10_again 77 = .ok (.iaload, 1) := by decide +kernel
theorem dX10_again_78 : decode cX10_again 78 = .ok (.iastore, 1) := by decide +kernel
theorem dX10_again_79 : decode cX10_again 79 = .ok (.aload_n 0, 1) := by decide +kernel
theorem dX10_again_80 : decode cX10_again 80 = .ok (.getfield 25, 3) := by decide +kernel
theorem dX10_again_83 : decode cX10_again 83 = .ok (.iconst 1, 1) := by decide +kernel
theorem dX10_again_84 : decode cX10_again 84 = .ok (.dup2, 1) := by decide +kernel
theorem dX10_again_85 : decode cX10_again 85 = .ok (.iaload, 1) := by decide +kernel
theorem dX10_again_86 : decode cX10_again 86 = .ok (.iconst 1, 1) := by decide +kernel
theorem dX10_again_87 : decode cX10_again 87 = .ok (.iadd, 1) := by decide +kernel
theorem dX10_again_88 : decode cX10_again 88 = .ok (.iastore, 1) := by decide +kernel
theorem dX10_again_89 : decode cX10_again 89 = .ok (.aload_n 0, 1) := by decide +kernel
theorem dX10_again_90 : decode cX10_again 90 = .ok (.getfield 25, 3) := by decide +kernel
theorem dX10_again_93 : decode cX10_again 93 = .ok (.iconst 1, 1) := by decide +kernel
theorem dX10_again_94 : decode cX10_again 94 = .ok (.iaload, 1) := by decide +kernel
theorem dX10_again_95 : decode cX10_again 95 = .ok (.ireturn, 1) := by decide +kernel
theorem dX10_undo_0 : decode cX10_undo 0 = .ok (.aload_n 0, 1) := by decide +kernel
theorem dX10_undo_1 : decode cX10_undo 1 = .ok (.getfield 150, 3) := by decide +kernel
theorem dX10_undo_4 : decode cX10_undo 4 = .ok (.ifCond .ne 6, 3) := by decide +kernel
theorem dX10_undo_7 : decode cX10_undo 7 = .ok (.ldc 182, 2) := by decide +kernel
theorem dX10_undo_9 : decode cX10_undo 9 = .ok (.ireturn, 1) := by decide +kernel
theorem dX10_undo_10 : decode cX10_undo 10 = .ok (.aload_n 0, 1) := by decide +kernel
theorem dX10_undo_11 : decode cX10_undo 11 = .ok (.dup, 1) := by decide +kernel
theorem dX10_undo_12 : decode cX10_undo 12 = .ok (.getfield 150, 3) := by decide +kernel
theorem dX10_undo_15 : decode cX10_undo 15 = .ok (.iconst 1, 1) := by decide +kernel
theorem dX10_undo_16 : decode cX10_undo 16 = .ok (.isub, 1) := by decide +kernel
theorem dX10_undo_17 : decode cX10_undo 17 = .ok (.putfield 150, 3) := by decide +kernel
theorem dX10_undo_20 : decode cX10_undo 20 = .ok (.aload_n 0, 1) := by decide +kernel
theorem dX10_undo_21 : decode cX10_undo 21 = .ok (.getfield 34, 3) := by decide +kernel
theorem dX10_undo_24 : decode cX10_undo 24 = .ok (.bipush 124, 2) := by decide +kernel
theorem dX10_undo_26 : decode cX10_undo 26 = .ok (.aload_n 0, 1) := by decide +kernel
theorem dX10_undo_27 : decode cX10_undo 27 = .ok (.getfield 150, 3) := by decide +kernel
theorem dX10_undo_30 : decode cX10_undo 30 = .ok (.imul, 1) := by decide +kernel
theorem dX10_undo_31 : decode cX10_undo 31 = .ok (.aload_n 0, 1) := by decide +kernel
theorem dX10_undo_32 : decode cX10_undo 32 = .ok (.getfield 25, 3) := by decide +kernel
theorem dX10_undo_35 : decode cX10_undo 35 = .ok (.iconst 0, 1) := by decide +kernel
theorem dX10_undo_36 : decode cX10_undo 36 = .ok (.invokestatic 146, 3) := by decide +kernel
theorem dX10_undo_39 : decode cX10_undo 39 = .ok (.aload_n 0, 1) := by decide +kernel
theorem dX10_undo_40 : decode cX10_undo 40 = .ok (.getfield 150, 3) := by decide +kernel
theorem dX10_undo_43 : decode cX10_undo 43 = .ok (.ireturn, 1) := by decide +kernel
theorem dX10_tab_0 : decode cX10_tab 0 = .ok (.aload_n 0, 1) := by decide +kernel
theorem dX10_tab_1 : decode cX10_tab 1 = .ok (.iload_n 1, 1) := by decide +kernel
theorem dX10_tab_2 : decode cX10_tab 2 = .ok (.invokevirtual 202, 3) := by decide +kernel
theorem dX10_tab_5 : decode cX10_tab 5 = .ok (.ifCond .ne 6, 3) := by decide +kernel
theorem dX10_tab_8 : decode cX10_tab 8 = .ok (.ldc 70, 2) := by decide +kernel
theorem dX10_tab_10 : decode cX10_tab 10 = .ok (.ireturn, 1) := by decide +kernel
theorem dX10_tab_11 : decode cX10_tab 11 = .ok (.iload_n 2, 1) := by decide +kernel
theorem dX10_tab_12 : decode cX10_tab 12 = .ok (.tableswitch 86 0 3 #[32, 41, 56, 71], 32) := by decide +kernel
theorem dX10_tab_44 : decode cX10_tab 44 = .ok (.aload_n 0, 1) := by decide +kernel
theorem dX10_tab_45 : decode cX10_tab 45 = .ok (.getfield 25, 3) := by decide +kernel
theorem dX10_tab_48 : decode cX10_tab 48 = .ok (.iload_n 1, 1) := by decide +kernel
theorem dX10_tab_49 : decode cX10_tab 49 = .ok (.invokestatic 153, 3) := by decide +kernel
theorem dX10_tab_52 : decode cX10_tab 52 = .ok (.ireturn, 1) := by decide +kernel
theorem dX10_tab_53 : decode cX10_tab 53 = .ok (.aload_n 0, 1) := by decide +kernel
theorem dX10_tab_54 : decode cX10_tab 54 = .ok (.getfield 25, 3) := by decide +kernel
theorem dX10_tab_57 : decode cX10_tab 57 = .ok (.bipush 44, 2) := by decide +kernel
theorem dX10_tab_59 : decode cX10_tab 59 = .ok (.bipush 10, 2) := by decide +kernel
theorem dX10_tab_61 : decode cX10_tab 61 = .ok (.iload_n 1, 1) := by decide +kernel
theorem dX10_tab_62 : decode cX10_tab 62 = .ok (.imul, 1) := by decide +kernel
theorem dX10_tab_63 : decode cX10_tab 63 = .ok (.iadd, 1) := by decide +kernel
theorem dX10_tab_64 : decode cX10_tab 64 = .ok (.iconst 1, 1) := by decide +kernel
theorem dX10_tab_65 : decode cX10_tab 65 = .ok (.iadd, 1) := by decide +kernel
theorem dX10_tab_66 : decode cX10_tab 66 = .ok (.iaload, 1) := by decide +kernel
theorem dX10_tab_67 : decode cX10_tab 67 = .ok (.ireturn, 1) := by decide +kernel
theorem dX10_tab_68 : decode cX10_tab 68 = .ok (.aload_n 0, 1) := by decide +kernel
theorem dX10_tab_69 : decode cX10_tab 69 = .ok (.getfield 25, 3) := by decide +kernel
theorem dX10_tab_72 : decode cX10_tab 72 = .ok (.bipush 44, 2) := by decide +kernel
theorem dX10_tab_74 : decode cX10_tab 74 = .ok (.bipush 10, 2) := by decide +kernel
theorem dX10_tab_76 : decode cX10_tab 76 = .ok (.iload_n 1, 1) := by decide +kernel
theorem dX10_tab_77 : decode cX10_tab 77 = .ok (.imul, 1) := by decide +kernel
theorem dX10_tab_78 : decode cX10_tab 78 = .ok (.iadd, 1) := by decide +kernel
theorem dX10_tab_79 : decode cX10_tab 79 = .ok (.iconst 2, 1) := by decide +kernel
theorem dX10_tab_80 : decode cX10_tab 80 = .ok (.iadd, 1) := by decide +kernel
theorem dX10_tab_81 : decode cX10_tab 81 = .ok (.iaload, 1) := by decide +kernel
theorem dX10_tab_82 : decode cX10_tab 82 = .ok (.ireturn, 1) := by decide +kernel
theorem dX10_tab_83 : decode cX10_tab 83 = .ok (.aload_n 0, 1) := by decide +kernel
theorem dX10_tab_84 : decode cX10_tab 84 = .ok (.getfield 25, 3) := by decide +kernel
theorem dX10_tab_87 : decode cX10_tab 87 = .ok (.bipush 44, 2) := by decide +kernel
theorem dX10_tab_89 : decode cX10_tab 89 = .ok (.bipush 10, 2) := by decide +kernel
theorem dX10_tab_91 : decode cX10_tab 91 = .ok (.iload_n 1, 1) := by decide +kernel
theorem dX10_tab_92 : decode cX10_tab 92 = .ok (.imul, 1) := by decide +kernel
theorem dX10_tab_93 : decode cX10_tab 93 = .ok (.iadd, 1) := by decide +kernel
theorem dX10_tab_94 : decode cX10_tab 94 = .ok (.iconst 3, 1) := by decide +kernel
theorem dX10_tab_95 : decode cX10_tab 95 = .ok (.iadd, 1) := by decide +kernel
theorem dX10_tab_96 : decode cX10_tab 96 = .ok (.iaload, 1) := by decide +kernel
theorem dX10_tab_97 : decode cX10_tab 97 = .ok (.ireturn, 1) := by decide +kernel
theorem dX10_tab_98 : decode cX10_tab 98 = .ok (.ldc 70, 2) := by decide +kernel
theorem dX10_tab_100 : decode cX10_tab 100 = .ok (.ireturn, 1) := by decide +kernel
theorem dX10_trail_0 : decode cX10_trail 0 = .ok (.aload_n 0, 1) := by decide +kernel
theorem dX10_trail_1 : decode cX10_trail 1 = .ok (.iload_n 1, 1) := by decide +kernel
theorem dX10_trail_2 : decode cX10_trail 2 = .ok (.invokevirtual 202, 3) := by decide +kernel
theorem dX10_trail_5 : decode cX10_trail 5 = .ok (.ifCond .eq 7, 3) := by decide +kernel
theorem dX10_trail_8 : decode cX10_trail 8 = .ok (.iload_n 2, 1) := by decide +kernel
theorem dX10_trail_9 : decode cX10_trail 9 = .ok (.ifCond .ge 6, 3) := by decide +kernel
theorem dX10_trail_12 : decode cX10_trail 12 = .ok (.ldc 70, 2) := by decide +kernel
theorem dX10_trail_14 : decode cX10_trail 14 = .ok (.ireturn, 1) := by decide +kernel
theorem dX10_trail_15 : decode cX10_trail 15 = .ok (.iload_n 2, 1) := by decide +kernel
theorem dX10_trail_16 : decode cX10_trail 16 = .ok (.aload_n 0, 1) := by decide +kernel
theorem dX10_trail_17 : decode cX10_trail 17 = .ok (.getfield 25, 3) := by decide +kernel
theorem dX10_trail_20 : decode cX10_trail 20 = .ok (.bipush 44, 2) := by decide +kernel
theorem dX10_trail_22 : decode cX10_trail 22 = .ok (.bipush 10, 2) := by decide +kernel
theorem dX10_trail_24 : decode cX10_trail 24 = .ok (.iload_n 1, 1) := by decide +kernel
theorem dX10_trail_25 : decode cX10_trail 25 = .ok (.imul, 1) := by decide +kernel
theorem dX10_trail_26 : decode cX10_trail 26 = .ok (.iadd, 1) := by decide +kernel
theorem dX10_trail_27 : decode cX10_trail 27 = .ok (.iconst 2, 1) := by decide +kernel
theorem dX10_trail_28 : decode cX10_trail 28 = .ok (.iadd, 1) := by decide +kernel
theorem dX10_trail_29 : decode cX10_trail 29 = .ok (.iaload, 1) := by decide +kernel
theorem dX10_trail_30 : decode cX10_trail 30 = .ok (.if_icmp .ge 22, 3) := by decide +kernel
theorem dX10_trail_33 : decode cX10_trail 33 = .ok (.aload_n 0, 1) := by decide +kernel
theorem dX10_trail_34 : decode cX10_trail 34 = .ok (.getfield 25, 3) := by decide +kernel
theorem dX10_trail_37 : decode cX10_trail 37 = .ok (.bipush 44, 2) := by decide +kernel
theorem dX10_trail_39 : decode cX10_trail 39 = .ok (.bipush 10, 2) := by decide +kernel
theorem dX10_trail_41 : decode cX10_trail 41 = .ok (.iload_n 1, 1) := by decide +kernel
theorem dX10_trail_42 : decode cX10_trail 42 = .ok (.imul, 1) := by decide +kernel
theorem dX10_trail_43 : decode cX10_trail 43 = .ok (.iadd, 1) := by decide +kernel
theorem dX10_trail_44 : decode cX10_trail 44 = .ok (.iconst 4, 1) := by decide +kernel
theorem dX10_trail_45 : decode cX10_trail 45 = .ok (.iadd, 1) := by decide +kernel
theorem dX10_trail_46 : decode cX10_trail 46 = .ok (.iload_n 2, 1) := by decide +kernel
theorem dX10_trail_47 : decode cX10_trail 47 = .ok (.iadd, 1) := by decide +kernel
theorem dX10_trail_48 : decode cX10_trail 48 = .ok (.iaload, 1) := by decide +kernel
theorem dX10_trail_49 : decode cX10_trail 49 = .ok (.goto 5, 3) := by decide +kernel
theorem dX10_trail_52 : decode cX10_trail 52 = .ok (.ldc 56, 2) := by decide +kernel
theorem dX10_trail_54 : decode cX10_trail 54 = .ok (.ireturn, 1) := by decide +kernel
theorem dX10_page_0 : decode cX10_page 0 = .ok (.aload_n 0, 1) := by decide +kernel
theorem dX10_page_1 : decode cX10_page 1 = .ok (.iload_n 1, 1) := by decide +kernel
theorem dX10_page_2 : decode cX10_page 2 = .ok (.invokevirtual 205, 3) := by decide +kernel
theorem dX10_page_5 : decode cX10_page 5 = .ok (.ifCond .eq 12, 3) := by decide +kernel
theorem dX10_page_8 : decode cX10_page 8 = .ok (.iload_n 2, 1) := by decide +kernel
theorem dX10_page_9 : decode cX10_page 9 = .ok (.iconst 0, 1) := by decide +kernel
theorem dX10_page_10 : decode cX10_page 10 = .ok (.iconst 4, 1) := by decide +kernel
theorem dX10_page_11 : decode cX10_page 11 = .ok (.invokestatic 62, 3) := by decide +kernel
theorem dX10_page_14 : decode cX10_page 14 = .ok (.ifCond .ne 6, 3) := by decide +kernel
theorem dX10_page_17 : decode cX10_page 17 = .ok (.ldc 70, 2) := by decide +kernel
theorem dX10_page_19 : decode cX10_page 19 = .ok (.ireturn, 1) := by decide +kernel
theorem dX10_page_20 : decode cX10_page 20 = .ok (.iconst 4, 1) := by decide +kernel
theorem dX10_page_21 : decode cX10_page 21 = .ok (.iconst 5, 1) := by decide +kernel
theorem dX10_page_22 : decode cX10_page 22 = .ok (.iload_n 1, 1) := by decide +kernel
theorem dX10_page_23 : decode cX10_page 23 = .ok (.imul, 1) := by decide +kernel
theorem dX10_page_24 : decode cX10_page 24 = .ok (.iadd, 1) := by decide +kernel
theorem dX10_page_25 : decode cX10_page 25 = .ok (.istore_n 3, 1) := by decide +kernel
theorem dX10_page_26 : decode cX10_page 26 = .ok (.iload_n 2, 1) := by decide +kernel
theorem dX10_page_27 : decode cX10_page 27 = .ok (.ifCond .eq 8, 3) := by decide +kernel
theorem dX10_page_30 : decode cX10_page 30 = .ok (.iload_n 2, 1) := by decide +kernel
theorem dX10_page_31 : decode cX10_page 31 = .ok (.iconst 4, 1) := by decide +kernel
theorem dX10_page_32 : decode cX10_page 32 = .ok (.if_icmp .ne 14, 3) := by decide +kernel
theorem dX10_page_35 : decode cX10_page 35 = .ok (.aload_n 0, 1) := by decide +kernel
theorem dX10_page_36 : decode cX10_page 36 = .ok (.getfield 25, 3) := by decide +kernel
theorem dX10_page_39 : decode cX10_page 39 = .ok (.iload_n 3, 1) := by decide +kernel
theorem dX10_page_40 : decode cX10_page 40 = .ok (.iload_n 2, 1) := by decide +kernel
theorem dX10_page_41 : decode cX10_page 41 = .ok (.iadd, 1) := by decide +kernel
theorem dX10_page_42 : decode cX10_page 42 = .ok (.iaload, 1) := by decide +kernel
theorem dX10_page_43 : decode cX10_page 43 = .ok (.goto 26, 3) := by decide +kernel
theorem dX10_page_46 : decode cX10_page 46 = .ok (.iload_n 2, 1) := by decide +kernel
theorem dX10_page_47 : decode cX10_page 47 = .ok (.aload_n 0, 1) := by decide +kernel
theorem dX10_page_48 : decode cX10_page 48 = .ok (.getfield 25, 3) := by decide +kernel
theorem dX10_page_51 : decode cX10_page 51 = .ok (.iload_n 3, 1) := by decide +kernel
theorem dX10_page_52 : decode cX10_page 52 = .ok (.iaload, 1) := by decide +kernel
theorem dX10_page_53 : decode cX10_page 53 = .ok (.if_icmp .le 8, 3) := by decide +kernel
theorem dX10_page_56 : decode cX10_page 56 = .ok (.ldc 56, 2) := by decide +kernel
theorem dX10_page_58 : decode cX10_page 58 = .ok (.goto 11, 3) := by decide +kernel
theorem dX10_page_61 : decode cX10_page 61 = .ok (.aload_n 0, 1) := by decide +kernel
theorem dX10_page_62 : decode cX10_page 62 = .ok (.getfield 25, 3) := by decide +kernel
theorem dX10_page_65 : decode cX10_page 65 = .ok (.iload_n 3, 1) := by decide +kernel
theorem dX10_page_66 : decode cX10_page 66 = .ok (.iload_n 2, 1) := by decide +kernel
theorem dX10_page_67 : decode cX10_page 67 = .ok (.iadd, 1) := by decide +kernel
theorem dX10_page_68 : decode cX10_page 68 = .ok (.iaload, 1) := by decide +kernel
theorem dX10_page_69 : decode cX10_page 69 = .ok (.ireturn, 1) := by decide +kernel
theorem dX10_walk_0 : decode cX10_walk 0 = .ok (.aload_n 0, 1) := by decide +kernel
theorem dX10_walk_1 : decode cX10_walk 1 = .ok (.invokevirtual 179, 3) := by decide +kernel
theorem dX10_walk_4 : decode cX10_walk 4 = .ok (.ifCond .ne 6, 3) := by decide +kernel
theorem dX10_walk_7 : decode cX10_walk 7 = .ok (.ldc 182, 2) := by decide +kernel
theorem dX10_walk_9 : decode cX10_walk 9 = .ok (.ireturn, 1) := by decide +kernel
theorem dX10_walk_10 : decode cX10_walk 10 = .ok (.iload_n 1, 1) := by decide +kernel
theorem dX10_walk_11 : decode cX10_walk 11 = .ok (.iconst 0, 1) := by decide +kernel
theorem dX10_walk_12 : decode cX10_walk 12 = .ok (.bipush 60, 2) := by decide +kernel
theorem dX10_walk_14 : decode cX10_walk 14 = .ok (.invokestatic 62, 3) := by decide +kernel
theorem dX10_walk_17 : decode cX10_walk 17 = .ok (.ifCond .eq 12, 3) := by decide +kernel
theorem dX10_walk_20 : decode cX10_walk 20 = .ok (.iload_n 2, 1) := by decide +kernel
theorem dX10_walk_21 : decode cX10_walk 21 = .ok (.iconst 0, 1) := by decide +kernel
theorem dX10_walk_22 : decode cX10_walk 22 = .ok (.iconst 2, 1) := by decide +kernel
theorem dX10_walk_23 : decode cX10_walk 23 = .ok (.invokestatic 62, 3) := by decide +kernel
theorem dX10_walk_26 : decode cX10_walk 26 = .ok (.ifCond .ne 6, 3) := by decide +kernel
theorem dX10_walk_29 : decode cX10_walk 29 = .ok (.ldc 70, 2) := by decide +kernel
theorem dX10_walk_31 : decode cX10_walk 31 = .ok (.ireturn, 1) := by decide +kernel
theorem dX10_walk_32 : decode cX10_walk 32 = .ok (.aload_n 0, 1) := by decide +kernel
theorem dX10_walk_33 : decode cX10_walk 33 = .ok (.getfield 25, 3) := by decide +kernel
theorem dX10_walk_36 : decode cX10_walk 36 = .ok (.invokestatic 157, 3) := by decide +kernel
theorem dX10_walk_39 : decode cX10_walk 39 = .ok (.istore_n 3, 1) := by decide +kernel
theorem dX10_walk_40 : decode cX10_walk 40 = .ok (.iconst 0, 1) := by decide +kernel
theorem dX10_walk_41 : decode cX10_walk 41 = .ok (.istore 4, 2) := by decide +kernel
theorem dX10_walk_43 : decode cX10_walk 43 = .ok (.iload 4, 2) := by decide +kernel
theorem dX10_walk_45 : decode cX10_walk 45 = .ok (.iload_n 1, 1) := by decide +kernel
theorem dX10_walk_46 : decode cX10_walk 46 = .ok (.if_icmp .ge 47, 3) := by decide +kernel
theorem dX10_walk_49 : decode cX10_walk 49 = .ok (.aload_n 0, 1) := by decide +kernel
theorem dX10_walk_50 : decode cX10_walk 50 = .ok (.getfield 25, 3) := by decide +kernel
theorem dX10_walk_53 : decode cX10_walk 53 = .ok (.iconst 4, 1) := by decide +kernel
theorem dX10_walk_54 : decode cX10_walk 54 = .ok (.iconst 5, 1) := by decide +kernel
theorem dX10_walk_55 : decode cX10_walk 55 = .ok (.iload_n 3, 1) := by decide +kernel
theorem dX10_walk_56 : decode cX10_walk 56 = .ok (.imul, 1) := by decide +kernel
theorem dX10_walk_57 : decode cX10_walk 57 = .ok (.iadd, 1) := by decide +kernel
theorem dX10_walk_58 : decode cX10_walk 58 = .ok (.iaload, 1) := by decide +kernel
theorem dX10_walk_59 : decode cX10_walk 59 = .ok (.istore 5, 2) := by decide +kernel
theorem dX10_walk_61 : decode cX10_walk 61 = .ok (.aload_n 0, 1) := by decide +kernel
theorem dX10_walk_62 : decode cX10_walk 62 = .ok (.getfield 25, 3) := by decide +kernel
theorem dX10_walk_65 : decode cX10_walk 65 = .ok (.iconst 4, 1) := by decide +kernel
theorem dX10_walk_66 : decode cX10_walk 66 = .ok (.iconst 5, 1) := by decide +kernel
theorem dX10_walk_67 : decode cX10_walk 67 = .ok (.iload_n 3, 1) := by decide +kernel
theorem dX10_walk_68 : decode cX10_walk 68 = .ok (.imul, 1) := by decide +kernel
theorem dX10_walk_69 : decode cX10_walk 69 = .ok (.iadd, 1) := by decide +kernel
theorem dX10_walk_70 : decode cX10_walk 70 = .ok (.iload_n 2, 1) := by decide +kernel
theorem dX10_walk_71 : decode cX10_walk 71 = .ok (.iload 5, 2) := by decide +kernel
theorem dX10_walk_73 : decode cX10_walk 73 = .ok (.if_icmp .ge 9, 3) := by decide +kernel
theorem dX10_walk_76 : decode cX10_walk 76 = .ok (.iload_n 2, 1) := by decide +kernel
theorem dX10_walk_77 : decode cX10_walk 77 = .ok (.iconst 1, 1) := by decide +kernel
theorem dX10_walk_78 : decode cX10_walk 78 = .ok (.iadd, 1) := by decide +kernel
theorem dX10_walk_79 : decode cX10_walk 79 = .ok (.goto 5, 3) := by decide +kernel
theorem dX10_walk_82 : decode cX10_walk 82 = .ok (.iload 5, 2) := by decide +kernel
theorem dX10_walk_84 : decode cX10_walk 84 = .ok (.iadd, 1) := by decide +kernel
theorem dX10_walk_85 : decode cX10_walk 85 = .ok (.iaload, 1) := by decide +kernel
theorem dX10_walk_86 : decode cX10_walk 86 = .ok (.istore_n 3, 1) := by decide +kernel
theorem dX10_walk_87 : decode cX10_walk 87 = .ok (.iinc 4 1, 3) := by decide +kernel
theorem dX10_walk_90 : decode cX10_walk 90 = .ok (.goto (-47), 3) := by decide +kernel
theorem dX10_walk_93 : decode cX10_walk 93 = .ok (.iload_n 3, 1) := by decide +kernel
theorem dX10_walk_94 : decode cX10_walk 94 = .ok (.ireturn, 1) := by decide +kernel
theorem dX10_measures_0 : decode cX10_measures 0 = .ok (.iconst 0, 1) := by decide +kernel
theorem dX10_measures_1 : decode cX10_measures 1 = .ok (.istore_n 2, 1) := by decide +kernel
theorem dX10_measures_2 : decode cX10_measures 2 = .ok (.iload_n 2, 1) := by decide +kernel
theorem dX10_measures_3 : decode cX10_measures 3 = .ok (.aload_n 0, 1) := by decide +kernel
theorem dX10_measures_4 : decode cX10_measures 4 = .ok (.getfield 25, 3) := by decide +kernel
theorem dX10_measures_7 : decode cX10_measures 7 = .ok (.iconst 0, 1) := by decide +kernel
theorem dX10_measures_8 : decode cX10_measures 8 = .ok (.iaload, 1) := by decide +kernel
theorem dX10_measures_9 : decode cX10_measures 9 = .ok (.if_icmp .ge 26, 3) := by decide +kernel
theorem dX10_measures_12 : decode cX10_measures 12 = .ok (.aload_n 0, 1) := by decide +kernel
theorem dX10_measures_13 : decode cX10_measures 13 = .ok (.getfield 44, 3) := by decide +kernel
theorem dX10_measures_16 : decode cX10_measures 16 = .ok (.iload_n 2, 1) := by decide +kernel
theorem dX10_measures_17 : decode cX10_measures 17 = .ok (.iload_n 2, 1) := by decide +kernel
theorem dX10_measures_18 : decode cX10_measures 18 = .ok (.iload_n 1, 1) := by decide +kernel
theorem dX10_measures_19 : decode cX10_measures 19 = .ok (.if_icmp .ne 7, 3) := by decide +kernel
theorem dX10_measures_22 : decode cX10_measures 22 = .ok (.iconst 0, 1) := by decide +kernel
theorem dX10_measures_23 : decode cX10_measures 23 = .ok (.goto 5, 3) := by decide +kernel
theorem dX10_measures_26 : decode cX10_measures 26 = .ok (.ldc 56, 2) := by decide +kernel
theorem dX10_measures_28 : decode cX10_measures 28 = .ok (.iastore, 1) := by decide +kernel
theorem dX10_measures_29 : decode cX10_measures 29 = .ok (.iinc 2 1, 3) := by decide +kernel
theorem dX10_measures_32 : decode cX10_measures 32 = .ok (.goto (-30), 3) := by decide +kernel
theorem dX10_measures_35 : decode cX10_measures 35 = .ok (.iconst 0, 1) := by decide +kernel
theorem dX10_measures_36 : decode cX10_measures 36 = .ok (.istore_n 2, 1) := by decide +kernel
theorem dX10_measures_37 : decode cX10_measures 37 = .ok (.iload_n 2, 1) := by decide +kernel
theorem dX10_measures_38 : decode cX10_measures 38 = .ok (.aload_n 0, 1) := by decide +kernel
theorem dX10_measures_39 : decode cX10_measures 39 = .ok (.getfield 25, 3) := by decide +kernel
theorem dX10_measures_42 : decode cX10_measures 42 = .ok (.iconst 0, 1) := by decide +kernel
theorem dX10_measures_43 : decode cX10_measures 43 = .ok (.iaload, 1) := by decide +kernel
theorem dX10_measures_44 : decode cX10_measures 44 = .ok (.if_icmp .ge 108, 3) := by decide +kernel
theorem dX10_measures_47 : decode cX10_measures 47 = .ok (.iconst 0, 1) := by decide +kernel
theorem dX10_measures_48 : decode cX10_measures 48 = .ok (.istore_n 3, 1) := by decide +kernel
theorem dX10_measures_49 : decode cX10_measures 49 = .ok (.iload_n 3, 1) := by decide +kernel
theorem dX10_measures_50 : decode cX10_measures 50 = .ok (.aload_n 0, 1) := by decide +kernel
theorem dX10_measures_51 : decode cX10_measures 51 = .ok (.getfield 25, 3) := by decide +kernel
theorem dX10_measures_54 : decode cX10_measures 54 = .ok (.iconst 0, 1) := by decide +kernel
theorem dX10_measures_55 : decode cX10_measures 55 = .ok (.iaload, 1) := by decide +kernel
theorem dX10_measures_56 : decode cX10_measures 56 = .ok (.if_icmp .ge 90, 3) := by decide +kernel
theorem dX10_measures_59 : decode cX10_measures 59 = .ok (.iconst 1, 1) := by decide +kernel
theorem dX10_measures_60 : decode cX10_measures 60 = .ok (.istore 4, 2) := by decide +kernel
theorem dX10_measures_62 : decode cX10_measures 62 = .ok (.iload 4, 2) := by decide +kernel
theorem dX10_measures_64 : decode cX10_measures 64 = .ok (.aload_n 0, 1) := by decide +kernel
theorem dX10_measures_65 : decode cX10_measures 65 = .ok (.getfield 25, 3) := by decide +kernel
theorem dX10_measures_68 : decode cX10_measures 68 = .ok (.iconst 4, 1) := by decide +kernel
theorem dX10_measures_69 : decode cX10_measures 69 = .ok (.iconst 5, 1) := by decide +kernel
theorem dX10_measures_70 : decode cX10_measures 70 = .ok (.iload_n 3, 1) := by decide +kernel
theorem dX10_measures_71 : decode cX10_measures 71 = .ok (.imul, 1) := by decide +kernel
theorem dX10_measures_72 : decode cX10_measures 72 = .ok (.iadd, 1) := by decide +kernel
theorem dX10_measures_73 : decode cX10_measures 73 = .ok (.iaload, 1) := by decide +kernel
theorem dX10_measures_74 : decode cX10_measures 74 = .ok (.if_icmp .gt 66, 3) := by decide +kernel
theorem dX10_measures_77 : decode cX10_measures 77 = .ok (.aload_n 0, 1) := by decide +kernel
theorem dX10_measures_78 : decode cX10_measures 78 = .ok (.getfield 25, 3) := by decide +kernel
theorem dX10_measures_81 : decode cX10_measures 81 = .ok (.iconst 4, 1) := by decide +kernel
theorem dX10_measures_82 : decode cX10_measures 82 = .ok (.iconst 5, 1) := by decide +kernel
theorem dX10_measures_83 : decode cX10_measures 83 = .ok (.iload_n 3, 1) := by decide +kernel
theorem dX10_measures_84 : decode cX10_measures 84 = .ok (.imul, 1) := by decide +kernel
theorem dX10_measures_85 : decode cX10_measures 85 = .ok (.iadd, 1) := by decide +kernel
theorem dX10_measures_86 : decode cX10_measures 86 = .ok (.iload 4, 2) := by decide +kernel
theorem dX10_measures_88 : decode cX10_measures 88 = .ok (.iadd, 1) := by decide +kernel
theorem dX10_measures_89 : decode cX10_measures 89 = .ok (.iaload, 1) := by decide +kernel
theorem dX10_measures_90 : decode cX10_measures 90 = .ok (.istore 5, 2) := by decide +kernel
theorem dX10_measures_92 : decode cX10_measures 92 = .ok (.aload_n 0, 1) := by decide +kernel
theorem dX10_measures_93 : decode cX10_measures 93 = .ok (.getfield 44, 3) := by decide +kernel
theorem dX10_measures_96 : decode cX10_measures 96 = .ok (.iload 5, 2) := by decide +kernel
theorem dX10_measures_98 : decode cX10_measures 98 = .ok (.aload_n 0, 1) := by decide +kernel
theorem dX10_measures_99 : decode cX10_measures 99 = .ok (.getfield 44, 3) := by decide +kernel
theorem dX10_measures_102 : decode cX10_measures 102 = .ok (.iload_n 3, 1) := by decide +kernel
theorem dX10_measures_103 : decode cX10_measures 103 = .ok (.iaload, 1) := by decide +kernel
theorem dX10_measures_104 : decode cX10_measures 104 = .ok (.iload_n 2, 1) := by decide +kernel
theorem dX10_measures_105 : decode cX10_measures 105 = .ok (.if_icmp .ne 21, 3) := by decide +kernel
theorem dX10_measures_108 : decode cX10_measures 108 = .ok (.aload_n 0, 1) := by decide +kernel
theorem dX10_measures_109 : decode cX10_measures 109 = .ok (.getfield 44, 3) := by decide +kernel
theorem dX10_measures_112 : decode cX10_measures 112 = .ok (.iload 5, 2) := by decide +kernel
theorem dX10_measures_114 : decode cX10_measures 114 = .ok (.iaload, 1) := by decide +kernel
theorem dX10_measures_115 : decode cX10_measures 115 = .ok (.ldc 56, 2) := by decide +kernel
theorem dX10_measures_117 : decode cX10_measures 117 = .ok (.if_icmp .ne 9, 3) := by decide +kernel
theorem dX10_measures_120 : decode cX10_measures 120 = .ok (.iload_n 2, 1) := by decide +kernel
theorem dX10_measures_121 : decode cX10_measures 121 = .ok (.iconst 1, 1) := by decide +kernel
theorem dX10_measures_122 : decode cX10_measures 122 = .ok (.iadd, 1) := by decide +kernel
theorem dX10_measures_123 : decode cX10_measures 123 = .ok (.goto 10, 3) := by decide +kernel
theorem dX10_measures_126 : decode cX10_measures 126 = .ok (.aload_n 0, 1) := by decide +kernel
theorem dX10_measures_127 : decode cX10_measures 127 = .ok (.getfield 44, 3) := by decide +kernel
theorem dX10_measures_130 : decode cX10_measures 130 = .ok (.iload 5, 2) := by decide +kernel
theorem dX10_measures_132 : decode cX10_measures 132 = .ok (.iaload, 1) := by decide +kernel
theorem dX10_measures_133 : decode cX10_measures 133 = .ok (.iastore, 1) := by decide +kernel
theorem dX10_measures_134 : decode cX10_measures 134 = .ok (.iinc 4 1, 3) := by decide +kernel
theorem dX10_measures_137 : decode cX10_measures 137 = .ok (.goto (-75), 3) := by decide +kernel
theorem dX10_measures_140 : decode cX10_measures 140 = .ok (.iinc 3 1, 3) := by decide +kernel
theorem dX10_measures_143 : decode cX10_measures 143 = .ok (.goto (-94), 3) := by decide +kernel
theorem dX10_measures_146 : decode cX10_measures 146 = .ok (.iinc 2 1, 3) := by decide +kernel
theorem dX10_measures_149 : decode cX10_measures 149 = .ok (.goto (-112), 3) := by decide +kernel
theorem dX10_measures_152 : decode cX10_measures 152 = .ok (.return_, 1) := by decide +kernel
theorem dX10_far_0 : decode cX10_far 0 = .ok (.aload_n 0, 1) := by decide +kernel
theorem dX10_far_1 : decode cX10_far 1 = .ok (.iload_n 1, 1) := by decide +kernel
theorem dX10_far_2 : decode cX10_far 2 = .ok (.invokevirtual 205, 3) := by decide +kernel
theorem dX10_far_5 : decode cX10_far 5 = .ok (.ifCond .eq 11, 3) := by decide +kernel
theorem dX10_far_8 : decode cX10_far 8 = .ok (.aload_n 0, 1) := by decide +kernel
theorem dX10_far_9 : decode cX10_far 9 = .ok (.iload_n 2, 1) := by decide +kernel
theorem dX10_far_10 : decode cX10_far 10 = .ok (.invokevirtual 205, 3) := by decide +kernel
theorem dX10_far_13 : decode cX10_far 13 = .ok (.ifCond .ne 6, 3) := by decide +kernel
theorem dX10_far_16 : decode cX10_far 16 = .ok (.ldc 70, 2) := by decide +kernel
theorem dX10_far_18 : decode cX10_far 18 = .ok (.ireturn, 1) := by decide +kernel
theorem dX10_far_19 : decode cX10_far 19 = .ok (.aload_n 0, 1) := by decide +kernel
theorem dX10_far_20 : decode cX10_far 20 = .ok (.iload_n 1, 1) := by decide +kernel
theorem dX10_far_21 : decode cX10_far 21 = .ok (.invokevirtual 214, 3) := by decide +kernel
theorem dX10_far_24 : decode cX10_far 24 = .ok (.aload_n 0, 1) := by decide +kernel
theorem dX10_far_25 : decode cX10_far 25 = .ok (.getfield 44, 3) := by decide +kernel
theorem dX10_far_28 : decode cX10_far 28 = .ok (.iload_n 2, 1) := by decide +kernel
theorem dX10_far_29 : decode cX10_far 29 = .ok (.iaload, 1) := by decide +kernel
theorem dX10_far_30 : decode cX10_far 30 = .ok (.ireturn, 1) := by decide +kernel
theorem dX10_round_0 : decode cX10_round 0 = .ok (.aload_n 0, 1) := by decide +kernel
theorem dX10_round_1 : decode cX10_round 1 = .ok (.iload_n 1, 1) := by decide +kernel
theorem dX10_round_2 : decode cX10_round 2 = .ok (.invokevirtual 205, 3) := by decide +kernel
theorem dX10_round_5 : decode cX10_round 5 = .ok (.ifCond .ne 6, 3) := by decide +kernel
theorem dX10_round_8 : decode cX10_round 8 = .ok (.ldc 70, 2) := by decide +kernel
theorem dX10_round_10 : decode cX10_round 10 = .ok (.ireturn, 1) := by decide +kernel
theorem dX10_round_11 : decode cX10_round 11 = .ok (.iconst 0, 1) := by decide +kernel
theorem dX10_round_12 : decode cX10_round 12 = .ok (.istore_n 2, 1) := by decide +kernel
theorem dX10_round_13 : decode cX10_round 13 = .ok (.iconst 0, 1) := by decide +kernel
theorem dX10_round_14 : decode cX10_round 14 = .ok (.istore_n 3, 1) := by decide +kernel
theorem dX10_round_15 : decode cX10_round 15 = .ok (.iload_n 3, 1) := by decide +kernel
theorem dX10_round_16 : decode cX10_round 16 = .ok (.aload_n 0, 1) := by decide +kernel
theorem dX10_round_17 : decode cX10_round 17 = .ok (.getfield 25, 3) := by decide +kernel
theorem dX10_round_20 : decode cX10_round 20 = .ok (.iconst 0, 1) := by decide +kernel
theorem dX10_round_21 : decode cX10_round 21 = .ok (.iaload, 1) := by decide +kernel
theorem dX10_round_22 : decode cX10_round 22 = .ok (.if_icmp .ge 63, 3) := by decide +kernel
theorem dX10_round_25 : decode cX10_round 25 = .ok (.aload_n 0, 1) := by decide +kernel
theorem dX10_round_26 : decode cX10_round 26 = .ok (.iload_n 3, 1) := by decide +kernel
theorem dX10_round_27 : decode cX10_round 27 = .ok (.invokevirtual 214, 3) := by decide +kernel
theorem dX10_round_30 : decode cX10_round 30 = .ok (.aload_n 0, 1) := by decide +kernel
theorem dX10_round_31 : decode cX10_round 31 = .ok (.getfield 44, 3) := by decide +kernel
theorem dX10_round_34 : decode cX10_round 34 = .ok (.iload_n 1, 1) := by decide +kernel
theorem dX10_round_35 : decode cX10_round 35 = .ok (.iaload, 1) := by decide +kernel
theorem dX10_round_36 : decode cX10_round 36 = .ok (.ldc 56, 2) := by decide +kernel
theorem dX10_round_38 : decode cX10_round 38 = .ok (.if_icmp .eq 7, 3) := by decide +kernel
theorem dX10_round_41 : decode cX10_round 41 = .ok (.iconst 1, 1) := by decide +kernel
theorem dX10_round_42 : decode cX10_round 42 = .ok (.goto 4, 3) := by decide +kernel
theorem dX10_round_45 : decode cX10_round 45 = .ok (.iconst 0, 1) := by decide +kernel
theorem dX10_round_46 : decode cX10_round 46 = .ok (.istore 4, 2) := by decide +kernel
theorem dX10_round_48 : decode cX10_round 48 = .ok (.aload_n 0, 1) := by decide +kernel
theorem dX10_round_49 : decode cX10_round 49 = .ok (.iload_n 1, 1) := by decide +kernel
theorem dX10_round_50 : decode cX10_round 50 = .ok (.invokevirtual 214, 3) := by decide +kernel
theorem dX10_round_53 : decode cX10_round 53 = .ok (.iload_n 2, 1) := by decide +kernel
theorem dX10_round_54 : decode cX10_round 54 = .ok (.iload 4, 2) := by decide +kernel
theorem dX10_round_56 : decode cX10_round 56 = .ok (.ifCond .eq 20, 3) := by decide +kernel
theorem dX10_round_59 : decode cX10_round 59 = .ok (.aload_n 0, 1) := by decide +kernel
theorem dX10_round_60 : decode cX10_round 60 = .ok (.getfield 44, 3) := by decide +kernel
theorem dX10_round_63 : decode cX10_round 63 = .ok (.iload_n 3, 1) := by decide +kernel
theorem dX10_round_64 : decode cX10_round 64 = .ok (.iaload, 1) := by decide +kernel
theorem dX10_round_65 : decode cX10_round 65 = .ok (.ldc 56, 2) := by decide +kernel
theorem dX10_round_67 : decode cX10_round 67 = .ok (.if_icmp .eq 9, 3) := by decide +kernel
theorem dX10_round_70 : decode cX10_round 70 = .ok (.iconst 1, 1) := by decide +kernel
theorem dX10_round_71 : decode cX10_round 71 = .ok (.iload_n 3, 1) := by decide +kernel
theorem dX10_round_72 : decode cX10_round 72 = .ok (.ishl, 1) := by decide +kernel
theorem dX10_round_73 : decode cX10_round 73 = .ok (.goto 4, 3) := by decide +kernel
theorem dX10_round_76 : decode cX10_round 76 = .ok (.iconst 0, 1) := by decide +kernel
theorem dX10_round_77 : decode cX10_round 77 = .ok (.ior, 1) := by decide +kernel
theorem dX10_round_78 : decode cX10_round 78 = .ok (.istore_n 2, 1) := by decide +kernel
theorem dX10_round_79 : decode cX10_round 79 = .ok (.iinc 3 1, 3) := by decide +kernel
theorem dX10_round_82 : decode cX10_round 82 = .ok (.goto (-67), 3) := by decide +kernel
theorem dX10_round_85 : decode cX10_round 85 = .ok (.iload_n 2, 1) := by decide +kernel
theorem dX10_round_86 : decode cX10_round 86 = .ok (.ireturn, 1) := by decide +kernel
theorem dX10_isShown_0 : decode cX10_isShown 0 = .ok (.aload_n 0, 1) := by decide +kernel
theorem dX10_isShown_1 : decode cX10_isShown 1 = .ok (.getfield 25, 3) := by decide +kernel
theorem dX10_isShown_4 : decode cX10_isShown 4 = .ok (.iconst 0, 1) := by decide +kernel
theorem dX10_isShown_5 : decode cX10_isShown 5 = .ok (.aload_n 0, 1) := by decide +kernel
theorem dX10_isShown_6 : decode cX10_isShown 6 = .ok (.getfield 31, 3) := by decide +kernel
theorem dX10_isShown_9 : decode cX10_isShown 9 = .ok (.iconst 0, 1) := by decide +kernel
theorem dX10_isShown_10 : decode cX10_isShown 10 = .ok (.invokestatic 146, 3) := by decide +kernel
theorem dX10_isShown_13 : decode cX10_isShown 13 = .ok (.iconst 1, 1) := by decide +kernel
theorem dX10_isShown_14 : decode cX10_isShown 14 = .ok (.istore 4, 2) := by decide +kernel
theorem dX10_isShown_16 : decode cX10_isShown 16 = .ok (.iconst 1, 1) := by decide +kernel
theorem dX10_isShown_17 : decode cX10_isShown 17 = .ok (.istore 5, 2) := by decide +kernel
theorem dX10_isShown_19 : decode cX10_isShown 19 = .ok (.iload 5, 2) := by decide +kernel
theorem dX10_isShown_21 : decode cX10_isShown 21 = .ok (.iload_n 3, 1) := by decide +kernel
theorem dX10_isShown_22 : decode cX10_isShown 22 = .ok (.if_icmp .ge 15, 3) := by decide +kernel
theorem dX10_isShown_25 : decode cX10_isShown 25 = .ok (.iload 4, 2) := by decide +kernel
theorem dX10_isShown_27 : decode cX10_isShown 27 = .ok (.iconst 5, 1) := by decide +kernel
theorem dX10_isShown_28 : decode cX10_isShown 28 = .ok (.imul, 1) := by decide +kernel
theorem dX10_isShown_29 : decode cX10_isShown 29 = .ok (.istore 4, 2) := by decide +kernel
theorem dX10_isShown_31 : decode cX10_isShown 31 = .ok (.iinc 5 1, 3) := by decide +kernel
theorem dX10_isShown_34 : decode cX10_isShown 34 = .ok (.goto (-15), 3) := by decide +kernel
theorem dX10_isShown_37 : decode cX10_isShown 37 = .ok (.iconst 1, 1) := by decide +kernel
theorem dX10_isShown_38 : decode cX10_isShown 38 = .ok (.istore 5, 2) := by decide +kernel
theorem dX10_isShown_40 : decode cX10_isShown 40 = .ok (.iconst 0, 1) := by decide +kernel
theorem dX10_isShown_41 : decode cX10_isShown 41 = .ok (.istore 6, 2) := by decide +kernel
theorem dX10_isShown_43 : decode cX10_isShown 43 = .ok (.iload 6, 2) := by decide +kernel
theorem dX10_isShown_45 : decode cX10_isShown 45 = .ok (.iload_n 3, 1) := by decide +kernel
theorem dX10_isShown_46 : decode cX10_isShown 46 = .ok (.if_icmp .ge 107, 3) := by decide +kernel
theorem dX10_isShown_49 : decode cX10_isShown 49 = .ok (.iload 5, 2) := by decide +kernel
theorem dX10_isShown_51 : decode cX10_isShown 51 = .ok (.ifCond .eq 102, 3) := by decide +kernel
theorem dX10_isShown_54 : decode cX10_isShown 54 = .ok (.iload_n 2, 1) := by decide +kernel
theorem dX10_isShown_55 : decode cX10_isShown 55 = .ok (.iload 4, 2) := by decide +kernel
theorem dX10_isShown_57 : decode cX10_isShown 57 = .ok (.idiv, 1) := by decide +kernel
theorem dX10_isShown_58 : decode cX10_isShown 58 = .ok (.iconst 5, 1) := by decide +kernel
theorem dX10_isShown_59 : decode cX10_isShown 59 = .ok (.irem, 1) := by decide +kernel
theorem dX10_isShown_60 : decode cX10_isShown 60 = .ok (.istore 7, 2) := by decide +kernel
theorem dX10_isShown_62 : decode cX10_isShown 62 = .ok (.aload_n 0, 1) := by decide +kernel
theorem dX10_isShown_63 : decode cX10_isShown 63 = .ok (.getfield 50, 3) := by decide +kernel
theorem dX10_isShown_66 : decode cX10_isShown 66 = .ok (.iload 6, 2) := by decide +kernel
theorem dX10_isShown_68 : decode cX10_isShown 68 = .ok (.iload 7, 2) := by decide +kernel
theorem dX10_isShown_70 : decode cX10_isShown 70 = .ok (.iastore, 1) := by decide +kernel
theorem dX10_isShown_71 : decode cX10_isShown 71 = .ok (.iload 4, 2) := by decide +kernel
theorem dX10_isShown_73 : decode cX10_isShown 73 = .ok (.iconst 5, 1) := by decide +kernel
theorem dX10_isShown_74 : decode cX10_isShown 74 = .ok (.idiv, 1) := by decide +kernel
theorem dX10_isShown_75 : decode cX10_isShown 75 = .ok (.istore 4, 2) := by decide +kernel
theorem dX10_isShown_77 : decode cX10_isShown 77 = .ok (.iload 7, 2) := by decide +kernel
theorem dX10_isShown_79 : decode cX10_isShown 79 = .ok (.iconst 2, 1) := by decide +kernel
theorem dX10_isShown_80 : decode cX10_isShown 80 = .ok (.if_icmp .ge 15, 3) := by decide +kernel
theorem dX10_isShown_83 : decode cX10_isShown 83 = .ok (.aload_n 0, 1) := by decide +kernel
theorem dX10_isShown_84 : decode cX10_isShown 84 = .ok (.getfield 31, 3) := by decide +kernel
theorem dX10_isShown_87 : decode cX10_isShown 87 = .ok (.iload 7, 2) := by decide +kernel
theorem dX10_isShown_89 : decode cX10_isShown 89 = .ok (.invokestatic 193, 3) := by decide +kernel
theorem dX10_isShown_92 : decode cX10_isShown 92 = .ok (.goto 14, 3) := by decide +kernel
theorem dX10_isShown_95 : decode cX10_isShown 95 = .ok (.aload_n 0, 1) := by decide +kernel
theorem dX10_isShown_96 : decode cX10_isShown 96 = .ok (.getfield 31, 3) := by decide +kernel
theorem dX10_isShown_99 : decode cX10_isShown 99 = .ok (.iload 7, 2) := by decide +kernel
theorem dX10_isShown_101 : decode cX10_isShown 101 = .ok (.iconst 2, 1) := by decide +kernel
theorem dX10_isShown_102 : decode cX10_isShown 102 = .ok (.isub, 1) := by decide +kernel
theorem dX10_isShown_103 : decode cX10_isShown 103 = .ok (.invokestatic 183, 3) := by decide +kernel
theorem dX10_isShown_106 : decode cX10_isShown 106 = .ok (.istore 5, 2) := by decide +kernel
theorem dX10_isShown_108 : decode cX10_isShown 108 = .ok (.iload 5, 2) := by decide +kernel
theorem dX10_isShown_110 : decode cX10_isShown 110 = .ok (.ifCond .eq 21, 3) := by decide +kernel
theorem dX10_isShown_113 : decode cX10_isShown 113 = .ok (.iload 7, 2) := by decide +kernel
theorem dX10_isShown_115 : decode cX10_isShown 115 = .ok (.iconst 2, 1) := by decide +kernel
theorem dX10_isShown_116 : decode cX10_isShown 116 = .ok (.if_icmp .ge 15, 3) := by decide +kernel
theorem dX10_isShown_119 : decode cX10_isShown 119 = .ok (.aload_n 0, 1) := by decide +kernel
theorem dX10_isShown_120 : decode cX10_isShown 120 = .ok (.getfield 31, 3) := by decide +kernel
theorem dX10_isShown_123 : decode cX10_isShown 123 = .ok (.iload 7, 2) := by decide +kernel
theorem dX10_isShown_125 : decode cX10_isShown 125 = .ok (.invokestatic 196, 3) := by decide +kernel
theorem dX10_isShown_128 : decode cX10_isShown 128 = .ok (.goto 19, 3) := by decide +kernel
theorem dX10_isShown_131 : decode cX10_isShown 131 = .ok (.iload 5, 2) := by decide +kernel
theorem dX10_isShown_133 : decode cX10_isShown 133 = .ok (.ifCond .eq 14, 3) := by decide +kernel
theorem dX10_isShown_136 : decode cX10_isShown 136 = .ok (.aload_n 0, 1) := by decide +kernel
theorem dX10_isShown_137 : decode cX10_isShown 137 = .ok (.getfield 31, 3) := by decide +kernel
theorem dX10_isShown_140 : decode cX10_isShown 140 = .ok (.iload 7, 2) := by decide +kernel
theorem dX10_isShown_142 : decode cX10_isShown 142 = .ok (.iconst 2, 1) := by decide +kernel
theorem dX10_isShown_143 : decode cX10_isShown 143 = .ok (.isub, 1) := by decide +kernel
theorem dX10_isShown_144 : decode cX10_isShown 144 = .ok (.invokestatic 190, 3) := by decide +kernel
theorem dX10_isShown_147 : decode cX10_isShown 147 = .ok (.iinc 6 1, 3) := by decide +kernel
theorem dX10_isShown_150 : decode cX10_isShown 150 = .ok (.goto (-107), 3) := by decide +kernel
theorem dX10_isShown_153 : decode cX10_isShown 153 = .ok (.iload 5, 2) := by decide +kernel
theorem dX10_isShown_155 : decode cX10_isShown 155 = .ok (.ifCond .eq 18, 3) := by decide +kernel
theorem dX10_isShown_158 : decode cX10_isShown 158 = .ok (.aload_n 0, 1) := by decide +kernel
theorem dX10_isShown_159 : decode cX10_isShown 159 = .ok (.getfield 31, 3) := by decide +kernel
theorem dX10_isShown_162 : decode cX10_isShown 162 = .ok (.invokestatic 157, 3) := by decide +kernel
theorem dX10_isShown_165 : decode cX10_isShown 165 = .ok (.iload_n 1, 1) := by decide +kernel
theorem dX10_isShown_166 : decode cX10_isShown 166 = .ok (.if_icmp .ne 7, 3) := by decide +kernel
theorem dX10_isShown_169 : decode cX10_isShown 169 = .ok (.iconst 1, 1) := by decide +kernel
theorem dX10_isShown_170 : decode cX10_isShown 170 = .ok (.goto 4, 3) := by decide +kernel
theorem dX10_isShown_173 : decode cX10_isShown 173 = .ok (.iconst 0, 1) := by decide +kernel
theorem dX10_isShown_174 : decode cX10_isShown 174 = .ok (.ireturn, 1) := by decide +kernel
theorem dX10_to_0 : decode cX10_to 0 = .ok (.aload_n 0, 1) := by decide +kernel
theorem dX10_to_1 : decode cX10_to 1 = .ok (.iload_n 1, 1) := by decide +kernel
theorem dX10_to_2 : decode cX10_to 2 = .ok (.invokevirtual 205, 3) := by decide +kernel
theorem dX10_to_5 : decode cX10_to 5 = .ok (.ifCond .eq 8, 3) := by decide +kernel
theorem dX10_to_8 : decode cX10_to 8 = .ok (.iload_n 2, 1) := by decide +kernel
theorem dX10_to_9 : decode cX10_to 9 = .ok (.iconst (-1), 1) := by decide +kernel
theorem dX10_to_10 : decode cX10_to 10 = .ok (.if_icmp .ge 6, 3) := by decide +kernel
theorem dX10_to_13 : decode cX10_to 13 = .ok (.ldc 70, 2) := by decide +kernel
theorem dX10_to_15 : decode cX10_to 15 = .ok (.ireturn, 1) := by decide +kernel
theorem dX10_to_16 : decode cX10_to 16 = .ok (.iconst 1, 1) := by decide +kernel
theorem dX10_to_17 : decode cX10_to 17 = .ok (.istore_n 3, 1) := by decide +kernel
theorem dX10_to_18 : decode cX10_to 18 = .ok (.iconst 0, 1) := by decide +kernel
theorem dX10_to_19 : decode cX10_to 19 = .ok (.istore 4, 2) := by decide +kernel
theorem dX10_to_21 : decode cX10_to 21 = .ok (.iload 4, 2) := by decide +kernel
theorem dX10_to_23 : decode cX10_to 23 = .ok (.iconst 5, 1) := by decide +kernel
theorem dX10_to_24 : decode cX10_to 24 = .ok (.if_icmp .ge 68, 3) := by decide +kernel
theorem dX10_to_27 : decode cX10_to 27 = .ok (.iconst 0, 1) := by decide +kernel
theorem dX10_to_28 : decode cX10_to 28 = .ok (.istore 5, 2) := by decide +kernel
theorem dX10_to_30 : decode cX10_to 30 = .ok (.iload 5, 2) := by decide +kernel
theorem dX10_to_32 : decode cX10_to 32 = .ok (.iload_n 3, 1) := by decide +kernel
theorem dX10_to_33 : decode cX10_to 33 = .ok (.if_icmp .ge 49, 3) := by decide +kernel
theorem dX10_to_36 : decode cX10_to 36 = .ok (.aload_n 0, 1) := by decide +kernel
theorem dX10_to_37 : decode cX10_to 37 = .ok (.iload_n 1, 1) := by decide +kernel
theorem dX10_to_38 : decode cX10_to 38 = .ok (.iload 5, 2) := by decide +kernel
theorem dX10_to_40 : decode cX10_to 40 = .ok (.iload 4, 2) := by decide +kernel
theorem dX10_to_42 : decode cX10_to 42 = .ok (.invokevirtual 217, 3) := by decide +kernel
theorem dX10_to_45 : decode cX10_to 45 = .ok (.ifCond .eq 31, 3) := by decide +kernel
theorem dX10_to_48 : decode cX10_to 48 = .ok (.iload_n 2, 1) := by decide +kernel
theorem dX10_to_49 : decode cX10_to 49 = .ok (.iconst (-1), 1) := by decide +kernel
theorem dX10_to_50 : decode cX10_to 50 = .ok (.if_icmp .ne 8, 3) := by decide +kernel
theorem dX10_to_53 : decode cX10_to 53 = .ok (.iload 4, 2) := by decide +kernel
theorem dX10_to_55 : decode cX10_to 55 = .ok (.goto 20, 3) := by decide +kernel
theorem dX10_to_58 : decode cX10_to 58 = .ok (.iload_n 2, 1) := by decide +kernel
theorem dX10_to_59 : decode cX10_to 59 = .ok (.iload 4, 2) := by decide +kernel
theorem dX10_to_61 : decode cX10_to 61 = .ok (.if_icmp .ge 12, 3) := by decide +kernel
theorem dX10_to_64 : decode cX10_to 64 = .ok (.aload_n 0, 1) := by decide +kernel
theorem dX10_to_65 : decode cX10_to 65 = .ok (.getfield 50, 3) := by decide +kernel
theorem dX10_to_68 : decode cX10_to 68 = .ok (.iload_n 2, 1) := by decide +kernel
theorem dX10_to_69 : decode cX10_to 69 = .ok (.iaload, 1) := by decide +kernel
theorem dX10_to_70 : decode cX10_to 70 = .ok (.goto 5, 3) := by decide +kernel
theorem dX10_to_73 : decode cX10_to 73 = .ok (.ldc 56, 2) := by decide +kernel
theorem dX10_to_75 : decode cX10_to 75 = .ok (.ireturn, 1) := by decide +kernel
theorem dX10_to_76 : decode cX10_to 76 = .ok (.iinc 5 1, 3) := by decide +kernel
theorem dX10_to_79 : decode cX10_to 79 = .ok (.goto (-49), 3) := by decide +kernel
theorem dX10_to_82 : decode cX10_to 82 = .ok (.iload_n 3, 1) := by decide +kernel
theorem dX10_to_83 : decode cX10_to 83 = .ok (.iconst 5, 1) := by decide +kernel
theorem dX10_to_84 : decode cX10_to 84 = .ok (.imul, 1) := by decide +kernel
theorem dX10_to_85 : decode cX10_to 85 = .ok (.istore_n 3, 1) := by decide +kernel
theorem dX10_to_86 : decode cX10_to 86 = .ok (.iinc 4 1, 3) := by decide +kernel
theorem dX10_to_89 : decode cX10_to 89 = .ok (.goto (-68), 3) := by decide +kernel
theorem dX10_to_92 : decode cX10_to 92 = .ok (.ldc 56, 2) := by decide +kernel
theorem dX10_to_94 : decode cX10_to 94 = .ok (.ireturn, 1) := by decide +kernel
theorem dX10_ways_0 : decode cX10_ways 0 = .ok (.aload_n 0, 1) := by decide +kernel
theorem dX10_ways_1 : decode cX10_ways 1 = .ok (.iload_n 1, 1) := by decide +kernel
theorem dX10_ways_2 : decode cX10_ways 2 = .ok (.invokevirtual 205, 3) := by decide +kernel
theorem dX10_ways_5 : decode cX10_ways 5 = .ok (.ifCond .eq 13, 3) := by decide +kernel
theorem dX10_ways_8 : decode cX10_ways 8 = .ok (.iload_n 2, 1) := by decide +kernel
theorem dX10_ways_9 : decode cX10_ways 9 = .ok (.iconst 0, 1) := by decide +kernel
theorem dX10_ways_10 : decode cX10_ways 10 = .ok (.bipush 12, 2) := by decide +kernel
theorem dX10_ways_12 : decode cX10_ways 12 = .ok (.invokestatic 62, 3) := by decide +kernel
theorem dX10_ways_15 : decode cX10_ways 15 = .ok (.ifCond .ne 6, 3) := by decide +kernel
theorem dX10_ways_18 : decode cX10_ways 18 = .ok (.ldc 70, 2) := by decide +kernel
theorem dX10_ways_20 : decode cX10_ways 20 = .ok (.ireturn, 1) := by decide +kernel
theorem dX10_ways_21 : decode cX10_ways 21 = .ok (.aload_n 0, 1) := by decide +kernel
theorem dX10_ways_22 : decode cX10_ways 22 = .ok (.iload_n 2, 1) := by decide +kernel
theorem dX10_ways_23 : decode cX10_ways 23 = .ok (.iconst 0, 1) := by decide +kernel
theorem dX10_ways_24 : decode cX10_ways 24 = .ok (.invokevirtual 220, 3) := by decide +kernel
theorem dX10_ways_27 : decode cX10_ways 27 = .ok (.aload_n 0, 1) := by decide +kernel
theorem dX10_ways_28 : decode cX10_ways 28 = .ok (.getfield 44, 3) := by decide +kernel
theorem dX10_ways_31 : decode cX10_ways 31 = .ok (.iload_n 1, 1) := by decide +kernel
theorem dX10_ways_32 : decode cX10_ways 32 = .ok (.iaload, 1) := by decide +kernel
theorem dX10_ways_33 : decode cX10_ways 33 = .ok (.ireturn, 1) := by decide +kernel
theorem dX10_weighs_0 : decode cX10_weighs 0 = .ok (.iconst 0, 1) := by decide +kernel
theorem dX10_weighs_1 : decode cX10_weighs 1 = .ok (.istore_n 3, 1) := by decide +kernel
theorem dX10_weighs_2 : decode cX10_weighs 2 = .ok (.iload_n 3, 1) := by decide +kernel
theorem dX10_weighs_3 : decode cX10_weighs 3 = .ok (.aload_n 0, 1) := by decide +kernel
theorem dX10_weighs_4 : decode cX10_weighs 4 = .ok (.getfield 25, 3) := by decide +kernel
theorem dX10_weighs_7 : decode cX10_weighs 7 = .ok (.iconst 0, 1) := by decide +kernel
theorem dX10_weighs_8 : decode cX10_weighs 8 = .ok (.iaload, 1) := by decide +kernel
theorem dX10_weighs_9 : decode cX10_weighs 9 = .ok (.if_icmp .ge 31, 3) := by decide +kernel
theorem dX10_weighs_12 : decode cX10_weighs 12 = .ok (.aload_n 0, 1) := by decide +kernel
theorem dX10_weighs_13 : decode cX10_weighs 13 = .ok (.getfield 44, 3) := by decide +kernel
theorem dX10_weighs_16 : decode cX10_weighs 16 = .ok (.iload_n 3, 1) := by decide +kernel
theorem dX10_weighs_17 : decode cX10_weighs 17 = .ok (.iload_n 3, 1) := by decide +kernel
theorem dX10_weighs_18 : decode cX10_weighs 18 = .ok (.aload_n 0, 1) := by decide +kernel
theorem dX10_weighs_19 : decode cX10_weighs 19 = .ok (.getfield 25, 3) := by decide +kernel
theorem dX10_weighs_22 : decode cX10_weighs 22 = .ok (.invokestatic 157, 3) := by decide +kernel
theorem dX10_weighs_25 : decode cX10_weighs 25 = .ok (.if_icmp .ne 7, 3) := by decide +kernel
theorem dX10_weighs_28 : decode cX10_weighs 28 = .ok (.iconst 1, 1) := by decide +kernel
theorem dX10_weighs_29 : decode cX10_weighs 29 = .ok (.goto 4, 3) := by decide +kernel
theorem dX10_weighs_32 : decode cX10_weighs 32 = .ok (.iconst 0, 1) := by decide +kernel
theorem dX10_weighs_33 : decode cX10_weighs 33 = .ok (.iastore, 1) := by decide +kernel
theorem dX10_weighs_34 : decode cX10_weighs 34 = .ok (.iinc 3 1, 3) := by decide +kernel
theorem dX10_weighs_37 : decode cX10_weighs 37 = .ok (.goto (-35), 3) := by decide +kernel
theorem dX10_weighs_40 : decode cX10_weighs 40 = .ok (.iconst 0, 1) := by decide +kernel
theorem dX10_weighs_41 : decode cX10_weighs 41 = .ok (.istore_n 3, 1) := by decide +kernel
theorem dX10_weighs_42 : decode cX10_weighs 42 = .ok (.iload_n 3, 1) := by decide +kernel
theorem dX10_weighs_43 : decode cX10_weighs 43 = .ok (.iload_n 1, 1) := by decide +kernel
theorem dX10_weighs_44 : decode cX10_weighs 44 = .ok (.if_icmp .ge 149, 3) := by decide +kernel
theorem dX10_weighs_47 : decode cX10_weighs 47 = .ok (.iconst 0, 1) := by decide +kernel
theorem dX10_weighs_48 : decode cX10_weighs 48 = .ok (.istore 4, 2) := by decide +kernel
theorem dX10_weighs_50 : decode cX10_weighs 50 = .ok (.iload 4, 2) := by decide +kernel
theorem dX10_weighs_52 : decode cX10_weighs 52 = .ok (.aload_n 0, 1) := by decide +kernel
theorem dX10_weighs_53 : decode cX10_weighs 53 = .ok (.getfield 25, 3) := by decide +kernel
theorem dX10_weighs_56 : decode cX10_weighs 56 = .ok (.iconst 0, 1) := by decide +kernel
theorem dX10_weighs_57 : decode cX10_weighs 57 = .ok (.iaload, 1) := by decide +kernel
theorem dX10_weighs_58 : decode cX10_weighs 58 = .ok (.if_icmp .ge 31, 3) := by decide +kernel
theorem dX10_weighs_61 : decode cX10_weighs 61 = .ok (.aload_n 0, 1) := by decide +kernel
theorem dX10_weighs_62 : decode cX10_weighs 62 = .ok (.getfield 47, 3) := by decide +kernel
theorem dX10_weighs_65 : decode cX10_weighs 65 = .ok (.iload 4, 2) := by decide +kernel
theorem dX10_weighs_67 : decode cX10_weighs 67 = .ok (.aload_n 0, 1) := by decide +kernel
theorem dX10_weighs_68 : decode cX10_weighs 68 = .ok (.getfield 44, 3) := by decide +kernel
theorem dX10_weighs_71 : decode cX10_weighs 71 = .ok (.iload 4, 2) := by decide +kernel
theorem dX10_weighs_73 : decode cX10_weighs 73 = .ok (.iaload, 1) := by decide +kernel
theorem dX10_weighs_74 : decode cX10_weighs 74 = .ok (.iastore, 1) := by decide +kernel
theorem dX10_weighs_75 : decode cX10_weighs 75 = .ok (.aload_n 0, 1) := by decide +kernel
theorem dX10_weighs_76 : decode cX10_weighs 76 = .ok (.getfield 44, 3) := by decide +kernel
theorem dX10_weighs_79 : decode cX10_weighs 79 = .ok (.iload 4, 2) := by decide +kernel
theorem dX10_weighs_81 : decode cX10_weighs 81 = .ok (.iconst 0, 1) := by decide +kernel
theorem dX10_weighs_82 : decode cX10_weighs 82 = .ok (.iastore, 1) := by decide +kernel
theorem dX10_weighs_83 : decode cX10_weighs 83 = .ok (.iinc 4 1, 3) := by decide +kernel
theorem dX10_weighs_86 : decode cX10_weighs 86 = .ok (.goto (-36), 3) := by decide +kernel
theorem dX10_weighs_89 : decode cX10_weighs 89 = .ok (.iconst 0, 1) := by decide +kernel
theorem dX10_weighs_90 : decode cX10_weighs 90 = .ok (.istore 4, 2) := by decide +kernel
theorem dX10_weighs_92 : decode cX10_weighs 92 = .ok (.iload 4, 2) := by decide +kernel
theorem dX10_weighs_94 : decode cX10_weighs 94 = .ok (.aload_n 0, 1) := by decide +kernel
theorem dX10_weighs_95 : decode cX10_weighs 95 = .ok (.getfield 25, 3) := by decide +kernel
theorem dX10_weighs_98 : decode cX10_weighs 98 = .ok (.iconst 0, 1) := by decide +kernel
theorem dX10_weighs_99 : decode cX10_weighs 99 = .ok (.iaload, 1) := by decide +kernel
theorem dX10_weighs_100 : decode cX10_weighs 100 = .ok (.if_icmp .ge 87, 3) := by decide +kernel
theorem dX10_weighs_103 : decode cX10_weighs 103 = .ok (.aload_n 0, 1) := by decide +kernel
theorem dX10_weighs_104 : decode cX10_weighs 104 = .ok (.getfield 25, 3) := by decide +kernel
theorem dX10_weighs_107 : decode cX10_weighs 107 = .ok (.iconst 4, 1) := by decide +kernel
theorem dX10_weighs_108 : decode cX10_weighs 108 = .ok (.iconst 5, 1) := by decide +kernel
theorem dX10_weighs_109 : decode cX10_weighs 109 = .ok (.iload 4, 2) := by decide +kernel
theorem dX10_weighs_111 : decode cX10_weighs 111 = .ok (.imul, 1) := by decide +kernel
theorem dX10_weighs_112 : decode cX10_weighs 112 = .ok (.iadd, 1) := by decide +kernel
theorem dX10_weighs_113 : decode cX10_weighs 113 = .ok (.iaload, 1) := by decide +kernel
theorem dX10_weighs_114 : decode cX10_weighs 114 = .ok (.istore 5, 2) := by decide +kernel
theorem dX10_weighs_116 : decode cX10_weighs 116 = .ok (.iconst 1, 1) := by decide +kernel
theorem dX10_weighs_117 : decode cX10_weighs 117 = .ok (.istore 6, 2) := by decide +kernel
theorem dX10_weighs_119 : decode cX10_weighs 119 = .ok (.iload 6, 2) := by decide +kernel
theorem dX10_weighs_121 : decode cX10_weighs 121 = .ok (.iload 5, 2) := by decide +kernel
theorem dX10_weighs_123 : decode cX10_weighs 123 = .ok (.if_icmp .gt 58, 3) := by decide +kernel
theorem dX10_weighs_126 : decode cX10_weighs 126 = .ok (.aload_n 0, 1) := by decide +kernel
theorem dX10_weighs_127 : decode cX10_weighs 127 = .ok (.getfield 44, 3) := by decide +kernel
theorem dX10_weighs_130 : decode cX10_weighs 130 = .ok (.aload_n 0, 1) := by decide +kernel
theorem dX10_weighs_131 : decode cX10_weighs 131 = .ok (.getfield 25, 3) := by decide +kernel
theorem dX10_weighs_134 : decode cX10_weighs 134 = .ok (.iconst 4, 1) := by decide +kernel
theorem dX10_weighs_135 : decode cX10_weighs 135 = .ok (.iconst 5, 1) := by decide +kernel
theorem dX10_weighs_136 : decode cX10_weighs 136 = .ok (.iload 4, 2) := by decide +kernel
theorem dX10_weighs_138 : decode cX10_weighs 138 = .ok (.imul, 1) := by decide +kernel
theorem dX10_weighs_139 : decode cX10_weighs 139 = .ok (.iadd, 1) := by decide +kernel
theorem dX10_weighs_140 : decode cX10_weighs 140 = .ok (.iload 6, 2) := by decide +kernel
theorem dX10_weighs_142 : decode cX10_weighs 142 = .ok (.iadd, 1) := by decide +kernel
theorem dX10_weighs_143 : decode cX10_weighs 143 = .ok (.iaload, 1) := by decide +kernel
theorem dX10_weighs_144 : decode cX10_weighs 144 = .ok (.dup2, 1) := by decide +kernel
theorem dX10_weighs_145 : decode cX10_weighs 145 = .ok (.iaload, 1) := by decide +kernel
theorem dX10_weighs_146 : decode cX10_weighs 146 = .ok (.iload_n 2, 1) := by decide +kernel
theorem dX10_weighs_147 : decode cX10_weighs 147 = .ok (.ifCond .eq 19, 3) := by decide +kernel
theorem dX10_weighs_150 : decode cX10_weighs 150 = .ok (.aload_n 0, 1) := by decide +kernel
theorem dX10_weighs_151 : decode cX10_weighs 151 = .ok (.getfield 47, 3) := by decide +kernel
theorem dX10_weighs_154 : decode cX10_weighs 154 = .ok (.iload 4, 2) := by decide +kernel
theorem dX10_weighs_156 : decode cX10_weighs 156 = .ok (.iaload, 1) := by decide +kernel
theorem dX10_weighs_157 : decode cX10_weighs 157 = .ok (.bipush 6, 2) := by decide +kernel
theorem dX10_weighs_159 : decode cX10_weighs 159 = .ok (.iload 5, 2) := by decide +kernel
theorem dX10_weighs_161 : decode cX10_weighs 161 = .ok (.idiv, 1) := by decide +kernel
theorem dX10_weighs_162 : decode cX10_weighs 162 = .ok (.imul, 1) := by decide +kernel
theorem dX10_weighs_163 : decode cX10_weighs 163 = .ok (.goto 10, 3) := by decide +kernel
theorem dX10_weighs_166 : decode cX10_weighs 166 = .ok (.aload_n 0, 1) := by decide +kernel
theorem dX10_weighs_167 : decode cX10_weighs 167 = .ok (.getfield 47, 3) := by decide +kernel
theorem dX10_weighs_170 : decode cX10_weighs 170 = .ok (.iload 4, 2) := by decide +kernel
theorem dX10_weighs_172 : decode cX10_weighs 172 = .ok (.iaload, 1) := by decide +kernel
theorem dX10_weighs_173 : decode cX10_weighs 173 = .ok (.iadd, 1) := by decide +kernel
theorem dX10_weighs_174 : decode cX10_weighs 174 = .ok (.iastore, 1) := by decide +kernel
theorem dX10_weighs_175 : decode cX10_weighs 175 = .ok (.iinc 6 1, 3) := by decide +kernel
theorem dX10_weighs_178 : decode cX10_weighs 178 = .ok (.goto (-59), 3) := by decide +kernel
theorem dX10_weighs_181 : decode cX10_weighs 181 = .ok (.iinc 4 1, 3) := by decide +kernel
theorem dX10_weighs_184 : decode cX10_weighs 184 = .ok (.goto (-92), 3) := by decide +kernel
theorem dX10_weighs_187 : decode cX10_weighs 187 = .ok (.iinc 3 1, 3) := by decide +kernel
theorem dX10_weighs_190 : decode cX10_weighs 190 = .ok (.goto (-148), 3) := by decide +kernel
theorem dX10_weighs_193 : decode cX10_weighs 193 = .ok (.return_, 1) := by decide +kernel
theorem dX10_visitsOf_0 : decode cX10_visitsOf 0 = .ok (.iconst 0, 1) := by decide +kernel
theorem dX10_visitsOf_1 : decode cX10_visitsOf 1 = .ok (.istore_n 1, 1) := by decide +kernel
theorem dX10_visitsOf_2 : decode cX10_visitsOf 2 = .ok (.iconst 0, 1) := by decide +kernel
theorem dX10_visitsOf_3 : decode cX10_visitsOf 3 = .ok (.istore_n 2, 1) := by decide +kernel
theorem dX10_visitsOf_4 : decode cX10_visitsOf 4 = .ok (.iload_n 2, 1) := by decide +kernel
theorem dX10_visitsOf_5 : decode cX10_visitsOf 5 = .ok (.aload_n 0, 1) := by decide +kernel
theorem dX10_visitsOf_6 : decode cX10_visitsOf 6 = .ok (.iconst 0, 1) := by decide +kernel
theorem dX10_visitsOf_7 : decode cX10_visitsOf 7 = .ok (.iaload, 1) := by decide +kernel
theorem dX10_visitsOf_8 : decode cX10_visitsOf 8 = .ok (.if_icmp .ge 21, 3) := by decide +kernel
theorem dX10_visitsOf_11 : decode cX10_visitsOf 11 = .ok (.iload_n 1, 1) := by decide +kernel
theorem dX10_visitsOf_12 : decode cX10_visitsOf 12 = .ok (.aload_n 0, 1) := by decide +kernel
theorem dX10_visitsOf_13 : decode cX10_visitsOf 13 = .ok (.iconst 4, 1) := by decide +kernel
theorem dX10_visitsOf_14 : decode cX10_visitsOf 14 = .ok (.iconst 5, 1) := by decide +kernel
theorem dX10_visitsOf_15 : decode cX10_visitsOf 15 = .ok (.iload_n 2, 1) := by decide +kernel
theorem dX10_visitsOf_16 : decode cX10_visitsOf 16 = .ok (.imul, 1) := by decide +kernel
theorem dX10_visitsOf_17 : decode cX10_visitsOf 17 = .ok (.iadd, 1) := by decide +kernel
theorem dX10_visitsOf_18 : decode cX10_visitsOf 18 = .ok (.iconst 4, 1) := by decide +kernel
theorem dX10_visitsOf_19 : decode cX10_visitsOf 19 = .ok (.iadd, 1) := by decide +kernel
theorem dX10_visitsOf_20 : decode cX10_visitsOf 20 = .ok (.iaload, 1) := by decide +kernel
theorem dX10_visitsOf_21 : decode cX10_visitsOf 21 = .ok (.iadd, 1) := by decide +kernel
theorem dX10_visitsOf_22 : decode cX10_visitsOf 22 = .ok (.istore_n 1, 1) := by decide +kernel
theorem dX10_visitsOf_23 : decode cX10_visitsOf 23 = .ok (.iinc 2 1, 3) := by decide +kernel
theorem dX10_visitsOf_26 : decode cX10_visitsOf 26 = .ok (.goto (-22), 3) := by decide +kernel
theorem dX10_visitsOf_29 : decode cX10_visitsOf 29 = .ok (.iload_n 1, 1) := by decide +kernel
theorem dX10_visitsOf_30 : decode cX10_visitsOf 30 = .ok (.ireturn, 1) := by decide +kernel
theorem dX10_share_0 : decode cX10_share 0 = .ok (.aload_n 0, 1) := by decide +kernel
theorem dX10_share_1 : decode cX10_share 1 = .ok (.iload_n 1, 1) := by decide +kernel
theorem dX10_share_2 : decode cX10_share 2 = .ok (.invokevirtual 205, 3) := by decide +kernel
theorem dX10_share_5 : decode cX10_share 5 = .ok (.ifCond .eq 14, 3) := by decide +kernel
theorem dX10_share_8 : decode cX10_share 8 = .ok (.iload_n 2, 1) := by decide +kernel
theorem dX10_share_9 : decode cX10_share 9 = .ok (.iconst 0, 1) := by decide +kernel
theorem dX10_share_10 : decode cX10_share 10 = .ok (.sipush 999, 3) := by decide +kernel
theorem dX10_share_13 : decode cX10_share 13 = .ok (.invokestatic 62, 3) := by decide +kernel
theorem dX10_share_16 : decode cX10_share 16 = .ok (.ifCond .ne 6, 3) := by decide +kernel
theorem dX10_share_19 : decode cX10_share 19 = .ok (.ldc 70, 2) := by decide +kernel
theorem dX10_share_21 : decode cX10_share 21 = .ok (.ireturn, 1) := by decide +kernel
theorem dX10_share_22 : decode cX10_share 22 = .ok (.aload_n 0, 1) := by decide +kernel
theorem dX10_share_23 : decode cX10_share 23 = .ok (.getfield 25, 3) := by decide +kernel
theorem dX10_share_26 : decode cX10_share 26 = .ok (.invokestatic 224, 3) := by decide +kernel
theorem dX10_share_29 : decode cX10_share 29 = .ok (.istore_n 3, 1) := by decide +kernel
theorem dX10_share_30 : decode cX10_share 30 = .ok (.aload_n 0, 1) := by decide +kernel
theorem dX10_share_31 : decode cX10_share 31 = .ok (.getfield 25, 3) := by decide +kernel
theorem dX10_share_34 : decode cX10_share 34 = .ok (.iconst 4, 1) := by decide +kernel
theorem dX10_share_35 : decode cX10_share 35 = .ok (.iconst 5, 1) := by decide +kernel
theorem dX10_share_36 : decode cX10_share 36 = .ok (.iload_n 1, 1) := by decide +kernel
theorem dX10_share_37 : decode cX10_share 37 = .ok (.imul, 1) := by decide +kernel
theorem dX10_share_38 : decode cX10_share 38 = .ok (.iadd, 1) := by decide +kernel
theorem dX10_share_39 : decode cX10_share 39 = .ok (.iconst 4, 1) := by decide +kernel
theorem dX10_share_40 : decode cX10_share 40 = .ok (.iadd, 1) := by decide +kernel
theorem dX10_share_41 : decode cX10_share 41 = .ok (.iaload, 1) := by decide +kernel
theorem dX10_share_42 : decode cX10_share 42 = .ok (.istore 4, 2) := by decide +kernel
theorem dX10_share_44 : decode cX10_share 44 = .ok (.iload 4, 2) := by decide +kernel
theorem dX10_share_46 : decode cX10_share 46 = .ok (.ifCond .ne 5, 3) := by decide +kernel
theorem dX10_share_49 : decode cX10_share 49 = .ok (.iconst 0, 1) := by decide +kernel
theorem dX10_share_50 : decode cX10_share 50 = .ok (.ireturn, 1) := by decide +kernel
theorem dX10_share_51 : decode cX10_share 51 = .ok (.iload_n 2, 1) := by decide +kernel
theorem dX10_share_52 : decode cX10_share 52 = .ok (.istore 5, 2) := by decide +kernel
theorem dX10_share_54 : decode cX10_share 54 = .ok (.iconst 0, 1) := by decide +kernel
theorem dX10_share_55 : decode cX10_share 55 = .ok (.istore 6, 2) := by decide +kernel
theorem dX10_share_57 : decode cX10_share 57 = .ok (.iconst 0, 1) := by decide +kernel
theorem dX10_share_58 : decode cX10_share 58 = .ok (.istore 7, 2) := by decide +kernel
theorem dX10_share_60 : decode cX10_share 60 = .ok (.iload 7, 2) := by decide +kernel
theorem dX10_share_62 : decode cX10_share 62 = .ok (.aload_n 0, 1) := by decide +kernel
theorem dX10_share_63 : decode cX10_share 63 = .ok (.getfield 25, 3) := by decide +kernel
theorem dX10_share_66 : decode cX10_share 66 = .ok (.iconst 0, 1) := by decide +kernel
theorem dX10_share_67 : decode cX10_share 67 = .ok (.iaload, 1) := by decide +kernel
theorem dX10_share_68 : decode cX10_share 68 = .ok (.if_icmp .ge 56, 3) := by decide +kernel
theorem dX10_share_71 : decode cX10_share 71 = .ok (.aload_n 0, 1) := by decide +kernel
theorem dX10_share_72 : decode cX10_share 72 = .ok (.getfield 25, 3) := by decide +kernel
theorem dX10_share_75 : decode cX10_share 75 = .ok (.iconst 4, 1) := by decide +kernel
theorem dX10_share_76 : decode cX10_share 76 = .ok (.iconst 5, 1) := by decide +kernel
theorem dX10_share_77 : decode cX10_share 77 = .ok (.iload 7, 2) := by decide +kernel
theorem dX10_share_79 : decode cX10_share 79 = .ok (.imul, 1) := by decide +kernel
theorem dX10_share_80 : decode cX10_share 80 = .ok (.iadd, 1) := by decide +kernel
theorem dX10_share_81 : decode cX10_share 81 = .ok (.iconst 4, 1) := by decide +kernel
theorem dX10_share_82 : decode cX10_share 82 = .ok (.iadd, 1) := by decide +kernel
theorem dX10_share_83 : decode cX10_share 83 = .ok (.iaload, 1) := by decide +kernel
theorem dX10_share_84 : decode cX10_share 84 = .ok (.istore 8, 2) := by decide +kernel
theorem dX10_share_86 : decode cX10_share 86 = .ok (.iload 5, 2) := by decide +kernel
theorem dX10_share_88 : decode cX10_share 88 = .ok (.iload_n 2, 1) := by decide +kernel
theorem dX10_share_89 : decode cX10_share 89 = .ok (.iload 8, 2) := by decide +kernel
theorem dX10_share_91 : decode cX10_share 91 = .ok (.imul, 1) := by decide +kernel
theorem dX10_share_92 : decode cX10_share 92 = .ok (.iload_n 3, 1) := by decide +kernel
theorem dX10_share_93 : decode cX10_share 93 = .ok (.idiv, 1) := by decide +kernel
theorem dX10_share_94 : decode cX10_share 94 = .ok (.isub, 1) := by decide +kernel
theorem dX10_share_95 : decode cX10_share 95 = .ok (.istore 5, 2) := by decide +kernel
theorem dX10_share_97 : decode cX10_share 97 = .ok (.iload 6, 2) := by decide +kernel
theorem dX10_share_99 : decode cX10_share 99 = .ok (.iload 7, 2) := by decide +kernel
theorem dX10_share_101 : decode cX10_share 101 = .ok (.iload_n 1, 1) := by decide +kernel
theorem dX10_share_102 : decode cX10_share 102 = .ok (.if_icmp .ge 12, 3) := by decide +kernel
theorem dX10_share_105 : decode cX10_share 105 = .ok (.iload 8, 2) := by decide +kernel
theorem dX10_share_107 : decode cX10_share 107 = .ok (.ifCond .le 7, 3) := by decide +kernel
theorem dX10_share_110 : decode cX10_share 110 = .ok (.iconst 1, 1) := by decide +kernel
theorem dX10_share_111 : decode cX10_share 111 = .ok (.goto 4, 3) := by decide +kernel
theorem dX10_share_114 : decode cX10_share 114 = .ok (.iconst 0, 1) := by decide +kernel
theorem dX10_share_115 : decode cX10_share 115 = .ok (.iadd, 1) := by decide +kernel
theorem dX10_share_116 : decode cX10_share 116 = .ok (.istore 6, 2) := by decide +kernel
theorem dX10_share_118 : decode cX10_share 118 = .ok (.iinc 7 1, 3) := by decide +kernel
theorem dX10_share_121 : decode cX10_share 121 = .ok (.goto (-61), 3) := by decide +kernel
theorem dX10_share_124 : decode cX10_share 124 = .ok (.iload_n 2, 1) := by decide +kernel
theorem dX10_share_125 : decode cX10_share 125 = .ok (.iload 4, 2) := by decide +kernel
theorem dX10_share_127 : decode cX10_share 127 = .ok (.imul, 1) := by decide +kernel
theorem dX10_share_128 : decode cX10_share 128 = .ok (.iload_n 3, 1) := by decide +kernel
theorem dX10_share_129 : decode cX10_share 129 = .ok (.idiv, 1) := by decide +kernel
theorem dX10_share_130 : decode cX10_share 130 = .ok (.iload 6, 2) := by decide +kernel
theorem dX10_share_132 : decode cX10_share 132 = .ok (.iload 5, 2) := by decide +kernel
theorem dX10_share_134 : decode cX10_share 134 = .ok (.if_icmp .ge 7, 3) := by decide +kernel
theorem dX10_share_137 : decode cX10_share 137 = .ok (.iconst 1, 1) := by decide +kernel
theorem dX10_share_138 : decode cX10_share 138 = .ok (.goto 4, 3) := by decide +kernel
theorem dX10_share_141 : decode cX10_share 141 = .ok (.iconst 0, 1) := by decide +kernel
theorem dX10_share_142 : decode cX10_share 142 = .ok (.iadd, 1) := by decide +kernel
theorem dX10_share_143 : decode cX10_share 143 = .ok (.ireturn, 1) := by decide +kernel
theorem dX10_isSeen_0 : decode cX10_isSeen 0 = .ok (.aload_n 0, 1) := by decide +kernel
theorem dX10_isSeen_1 : decode cX10_isSeen 1 = .ok (.getfield 25, 3) := by decide +kernel
theorem dX10_isSeen_4 : decode cX10_isSeen 4 = .ok (.iconst 0, 1) := by decide +kernel
theorem dX10_isSeen_5 : decode cX10_isSeen 5 = .ok (.aload_n 0, 1) := by decide +kernel
theorem dX10_isSeen_6 : decode cX10_isSeen 6 = .ok (.getfield 31, 3) := by decide +kernel
theorem dX10_isSeen_9 : decode cX10_isSeen 9 = .ok (.iconst 0, 1) := by decide +kernel
theorem dX10_isSeen_10 : decode cX10_isSeen 10 = .ok (.invokestatic 146, 3) := by decide +kernel
theorem dX10_isSeen_13 : decode cX10_isSeen 13 = .ok (.aload_n 0, 1) := by decide +kernel
theorem dX10_isSeen_14 : decode cX10_isSeen 14 = .ok (.getfield 31, 3) := by decide +kernel
theorem dX10_isSeen_17 : decode cX10_isSeen 17 = .ok (.iload_n 3, 1) := by decide +kernel
theorem dX10_isSeen_18 : decode cX10_isSeen 18 = .ok (.iload 4, 2) := by decide +kernel
theorem dX10_isSeen_20 : decode cX10_isSeen 20 = .ok (.iastore, 1) := by decide +kernel
theorem dX10_isSeen_21 : decode cX10_isSeen 21 = .ok (.iconst 1, 1) := by decide +kernel
theorem dX10_isSeen_22 : decode cX10_isSeen 22 = .ok (.istore 5, 2) := by decide +kernel
theorem dX10_isSeen_24 : decode cX10_isSeen 24 = .ok (.iconst 0, 1) := by decide +kernel
theorem dX10_isSeen_25 : decode cX10_isSeen 25 = .ok (.istore 6, 2) := by decide +kernel
theorem dX10_isSeen_27 : decode cX10_isSeen 27 = .ok (.iload 6, 2) := by decide +kernel
theorem dX10_isSeen_29 : decode cX10_isSeen 29 = .ok (.iload_n 2, 1) := by decide +kernel
theorem dX10_isSeen_30 : decode cX10_isSeen 30 = .ok (.if_icmp .ge 59, 3) := by decide +kernel
theorem dX10_isSeen_33 : decode cX10_isSeen 33 = .ok (.aload_n 0, 1) := by decide +kernel
theorem dX10_isSeen_34 : decode cX10_isSeen 34 = .ok (.getfield 31, 3) := by decide +kernel
theorem dX10_isSeen_37 : decode cX10_isSeen 37 = .ok (.iconst 0, 1) := by decide +kernel
theorem dX10_isSeen_38 : decode cX10_isSeen 38 = .ok (.invokestatic 183, 3) := by decide +kernel
theorem dX10_isSeen_41 : decode cX10_isSeen 41 = .ok (.ifCond .eq 11, 3) := by decide +kernel
theorem dX10_isSeen_44 : decode cX10_isSeen 44 = .ok (.aload_n 0, 1) := by decide +kernel
theorem dX10_isSeen_45 : decode cX10_isSeen 45 = .ok (.getfield 31, 3) := by decide +kernel
theorem dX10_isSeen_48 : decode cX10_isSeen 48 = .ok (.iconst 0, 1) := by decide +kernel
theorem dX10_isSeen_49 : decode cX10_isSeen 49 = .ok (.invokestatic 190, 3) := by decide +kernel
theorem dX10_isSeen_52 : decode cX10_isSeen 52 = .ok (.iload 5, 2) := by decide +kernel
theorem dX10_isSeen_54 : decode cX10_isSeen 54 = .ok (.ifCond .eq 26, 3) := by decide +kernel
theorem dX10_isSeen_57 : decode cX10_isSeen 57 = .ok (.aload_n 0, 1) := by decide +kernel
theorem dX10_isSeen_58 : decode cX10_isSeen 58 = .ok (.getfield 31, 3) := by decide +kernel
theorem dX10_isSeen_61 : decode cX10_isSeen 61 = .ok (.invokestatic 157, 3) := by decide +kernel
theorem dX10_isSeen_64 : decode cX10_isSeen 64 = .ok (.aload_n 0, 1) := by decide +kernel
theorem dX10_isSeen_65 : decode cX10_isSeen 65 = .ok (.getfield 16, 3) := by decide +kernel
theorem dX10_isSeen_68 : decode cX10_isSeen 68 = .ok (.iload_n 1, 1) := by decide +kernel
theorem dX10_isSeen_69 : decode cX10_isSeen 69 = .ok (.iload 6, 2) := by decide +kernel
theorem dX10_isSeen_71 : decode cX10_isSeen 71 = .ok (.iadd, 1) := by decide +kernel
theorem dX10_isSeen_72 : decode cX10_isSeen 72 = .ok (.iaload, 1) := by decide +kernel
theorem dX10_isSeen_73 : decode cX10_isSeen 73 = .ok (.if_icmp .ne 7, 3) := by decide +kernel
theorem dX10_isSeen_76 : decode cX10_isSeen 76 = .ok (.iconst 1, 1) := by decide +kernel
theorem dX10_isSeen_77 : decode cX10_isSeen 77 = .ok (.goto 4, 3) := by decide +kernel
theorem dX10_isSeen_80 : decode cX10_isSeen 80 = .ok (.iconst 0, 1) := by decide +kernel
theorem dX10_isSeen_81 : decode cX10_isSeen 81 = .ok (.istore 5, 2) := by decide +kernel
theorem dX10_isSeen_83 : decode cX10_isSeen 83 = .ok (.iinc 6 1, 3) := by decide +kernel
theorem dX10_isSeen_86 : decode cX10_isSeen 86 = .ok (.goto (-59), 3) := by decide +kernel
theorem dX10_isSeen_89 : decode cX10_isSeen 89 = .ok (.iload 5, 2) := by decide +kernel
theorem dX10_isSeen_91 : decode cX10_isSeen 91 = .ok (.ireturn, 1) := by decide +kernel
theorem dX10_fits_0 : decode cX10_fits 0 = .ok (.aload_n 0, 1) := by decide +kernel
theorem dX10_fits_1 : decode cX10_fits 1 = .ok (.iload_n 1, 1) := by decide +kernel
theorem dX10_fits_2 : decode cX10_fits 2 = .ok (.invokevirtual 205, 3) := by decide +kernel
theorem dX10_fits_5 : decode cX10_fits 5 = .ok (.ifCond .eq 31, 3) := by decide +kernel
theorem dX10_fits_8 : decode cX10_fits 8 = .ok (.iload_n 2, 1) := by decide +kernel
theorem dX10_fits_9 : decode cX10_fits 9 = .ok (.invokestatic 66, 3) := by decide +kernel
theorem dX10_fits_12 : decode cX10_fits 12 = .ok (.ifCond .eq 24, 3) := by decide +kernel
theorem dX10_fits_15 : decode cX10_fits 15 = .ok (.iload 4, 2) := by decide +kernel
theorem dX10_fits_17 : decode cX10_fits 17 = .ok (.iconst 1, 1) := by decide +kernel
theorem dX10_fits_18 : decode cX10_fits 18 = .ok (.bipush 12, 2) := by decide +kernel
theorem dX10_fits_20 : decode cX10_fits 20 = .ok (.invokestatic 62, 3) := by decide +kernel
theorem dX10_fits_23 : decode cX10_fits 23 = .ok (.ifCond .eq 13, 3) := by decide +kernel
theorem dX10_fits_26 : decode cX10_fits 26 = .ok (.iload 5, 2) := by decide +kernel
theorem dX10_fits_28 : decode cX10_fits 28 = .ok (.iconst 0, 1) := by decide +kernel
theorem dX10_fits_29 : decode cX10_fits 29 = .ok (.iconst 3, 1) := by decide +kernel
theorem dX10_fits_30 : decode cX10_fits 30 = .ok (.invokestatic 62, 3) := by decide +kernel
theorem dX10_fits_33 : decode cX10_fits 33 = .ok (.ifCond .ne 6, 3) := by decide +kernel
theorem dX10_fits_36 : decode cX10_fits 36 = .ok (.ldc 70, 2) := by decide +kernel
theorem dX10_fits_38 : decode cX10_fits 38 = .ok (.ireturn, 1) := by decide +kernel
theorem dX10_fits_39 : decode cX10_fits 39 = .ok (.aload_n 0, 1) := by decide +kernel
theorem dX10_fits_40 : decode cX10_fits 40 = .ok (.iload_n 2, 1) := by decide +kernel
theorem dX10_fits_41 : decode cX10_fits 41 = .ok (.invokevirtual 78, 3) := by decide +kernel
theorem dX10_fits_44 : decode cX10_fits 44 = .ok (.ifCond .eq 9, 3) := by decide +kernel
theorem dX10_fits_47 : decode cX10_fits 47 = .ok (.aload_n 0, 1) := by decide +kernel
theorem dX10_fits_48 : decode cX10_fits 48 = .ok (.iconst 1, 1) := by decide +kernel
theorem dX10_fits_49 : decode cX10_fits 49 = .ok (.invokevirtual 71, 3) := by decide +kernel
theorem dX10_fits_52 : decode cX10_fits 52 = .ok (.ireturn, 1) := by decide +kernel
theorem dX10_fits_53 : decode cX10_fits 53 = .ok (.aload_n 0, 1) := by decide +kernel
theorem dX10_fits_54 : decode cX10_fits 54 = .ok (.iload_n 2, 1) := by decide +kernel
theorem dX10_fits_55 : decode cX10_fits 55 = .ok (.iload_n 3, 1) := by decide +kernel
theorem dX10_fits_56 : decode cX10_fits 56 = .ok (.iload 4, 2) := by decide +kernel
theorem dX10_fits_58 : decode cX10_fits 58 = .ok (.invokevirtual 85, 3) := by decide +kernel
theorem dX10_fits_61 : decode cX10_fits 61 = .ok (.ifCond .ne 9, 3) := by decide +kernel
theorem dX10_fits_64 : decode cX10_fits 64 = .ok (.aload_n 0, 1) := by decide +kernel
theorem dX10_fits_65 : decode cX10_fits 65 = .ok (.iconst 2, 1) := by decide +kernel
theorem dX10_fits_66 : decode cX10_fits 66 = .ok (.invokevirtual 71, 3) := by decide +kernel
theorem dX10_fits_69 : decode cX10_fits 69 = .ok (.ireturn, 1) := by decide +kernel
theorem dX10_fits_70 : decode cX10_fits 70 = .ok (.aload_n 0, 1) := by decide +kernel
theorem dX10_fits_71 : decode cX10_fits 71 = .ok (.getfield 25, 3) := by decide +kernel
theorem dX10_fits_74 : decode cX10_fits 74 = .ok (.invokestatic 161, 3) := by decide +kernel
theorem dX10_fits_77 : decode cX10_fits 77 = .ok (.istore 6, 2) := by decide +kernel
theorem dX10_fits_79 : decode cX10_fits 79 = .ok (.iload 5, 2) := by decide +kernel
theorem dX10_fits_81 : decode cX10_fits 81 = .ok (.ifCond .ne 8, 3) := by decide +kernel
theorem dX10_fits_84 : decode cX10_fits 84 = .ok (.iload 6, 2) := by decide +kernel
theorem dX10_fits_86 : decode cX10_fits 86 = .ok (.goto 46, 3) := by decide +kernel
theorem dX10_fits_89 : decode cX10_fits 89 = .ok (.iload 5, 2) := by decide +kernel
theorem dX10_fits_91 : decode cX10_fits 91 = .ok (.iconst 1, 1) := by decide +kernel
theorem dX10_fits_92 : decode cX10_fits 92 = .ok (.if_icmp .ne 20, 3) := by decide +kernel
theorem dX10_fits_95 : decode cX10_fits 95 = .ok (.iload 6, 2) := by decide +kernel
theorem dX10_fits_97 : decode cX10_fits 97 = .ok (.iconst 4, 1) := by decide +kernel
theorem dX10_fits_98 : decode cX10_fits 98 = .ok (.iadd, 1) := by decide +kernel
theorem dX10_fits_99 : decode cX10_fits 99 = .ok (.aload_n 0, 1) := by decide +kernel
theorem dX10_fits_100 : decode cX10_fits 100 = .ok (.getfield 25, 3) := by decide +kernel
theorem dX10_fits_103 : decode cX10_fits 103 = .ok (.iload 6, 2) := by decide +kernel
theorem dX10_fits_105 : decode cX10_fits 105 = .ok (.iconst 3, 1) := by decide +kernel
theorem dX10_fits_106 : decode cX10_fits 106 = .ok (.iadd, 1) := by decide +kernel
theorem dX10_fits_107 : decode cX10_fits 107 = .ok (.iaload, 1) := by decide +kernel
theorem dX10_fits_108 : decode cX10_fits 108 = .ok (.iadd, 1) := by decide +kernel
theorem dX10_fits_109 : decode cX10_fits 109 = .ok (.goto 23, 3) := by decide +kernel
theorem dX10_fits_112 : decode cX10_fits 112 = .ok (.iload 5, 2) := by decide +kernel
theorem dX10_fits_114 : decode cX10_fits 114 = .ok (.iconst 2, 1) := by decide +kernel
theorem dX10_fits_115 : decode cX10_fits 115 = .ok (.if_icmp .ne 13, 3) := by decide +kernel
theorem dX10_fits_118 : decode cX10_fits 118 = .ok (.iconst 4, 1) := by decide +kernel
theorem dX10_fits_119 : decode cX10_fits 119 = .ok (.iconst 5, 1) := by decide +kernel
theorem dX10_fits_120 : decode cX10_fits 120 = .ok (.iload_n 1, 1) := by decide +kernel
theorem dX10_fits_121 : decode cX10_fits 121 = .ok (.imul, 1) := by decide +kernel
theorem dX10_fits_122 : decode cX10_fits 122 = .ok (.iadd, 1) := by decide +kernel
theorem dX10_fits_123 : decode cX10_fits 123 = .ok (.iconst 1, 1) := by decide +kernel
theorem dX10_fits_124 : decode cX10_fits 124 = .ok (.iadd, 1) := by decide +kernel
theorem dX10_fits_125 : decode cX10_fits 125 = .ok (.goto 7, 3) := by decide +kernel
theorem dX10_fits_128 : decode cX10_fits 128 = .ok (.iload 6, 2) := by decide +kernel
theorem dX10_fits_130 : decode cX10_fits 130 = .ok (.iconst 1, 1) := by decide +kernel
theorem dX10_fits_131 : decode cX10_fits 131 = .ok (.iadd, 1) := by decide +kernel
theorem dX10_fits_132 : decode cX10_fits 132 = .ok (.istore 7, 2) := by decide +kernel
theorem dX10_fits_134 : decode cX10_fits 134 = .ok (.iconst 0, 1) := by decide +kernel
theorem dX10_fits_135 : decode cX10_fits 135 = .ok (.istore 8, 2) := by decide +kernel
theorem dX10_fits_137 : decode cX10_fits 137 = .ok (.iload 5, 2) := by decide +kernel
theorem dX10_fits_139 : decode cX10_fits 139 = .ok (.ifCond .ne 7, 3) := by decide +kernel
theorem dX10_fits_142 : decode cX10_fits 142 = .ok (.iconst 1, 1) := by decide +kernel
theorem dX10_fits_143 : decode cX10_fits 143 = .ok (.goto 4, 3) := by decide +kernel
theorem dX10_fits_146 : decode cX10_fits 146 = .ok (.iconst 0, 1) := by decide +kernel
theorem dX10_fits_147 : decode cX10_fits 147 = .ok (.istore 9, 2) := by decide +kernel
theorem dX10_fits_149 : decode cX10_fits 149 = .ok (.iload 9, 2) := by decide +kernel
theorem dX10_fits_151 : decode cX10_fits 151 = .ok (.iload 5, 2) := by decide +kernel
theorem dX10_fits_153 : decode cX10_fits 153 = .ok (.ifCond .ne 8, 3) := by decide +kernel
theorem dX10_fits_156 : decode cX10_fits 156 = .ok (.bipush 6, 2) := by decide +kernel
theorem dX10_fits_158 : decode cX10_fits 158 = .ok (.goto 9, 3) := by decide +kernel
theorem dX10_fits_161 : decode cX10_fits 161 = .ok (.aload_n 0, 1) := by decide +kernel
theorem dX10_fits_162 : decode cX10_fits 162 = .ok (.getfield 25, 3) := by decide +kernel
theorem dX10_fits_165 : decode cX10_fits 165 = .ok (.iconst 0, 1) := by decide +kernel
theorem dX10_fits_166 : decode cX10_fits 166 = .ok (.iaload, 1) := by decide +kernel
theorem dX10_fits_167 : decode cX10_fits 167 = .ok (.if_icmp .ge 41, 3) := by decide +kernel
theorem dX10_fits_170 : decode cX10_fits 170 = .ok (.iload 8, 2) := by decide +kernel
theorem dX10_fits_172 : decode cX10_fits 172 = .ok (.aload_n 0, 1) := by decide +kernel
theorem dX10_fits_173 : decode cX10_fits 173 = .ok (.bipush 40, 2) := by decide +kernel
theorem dX10_fits_175 : decode cX10_fits 175 = .ok (.iload_n 2, 1) := by decide +kernel
theorem dX10_fits_176 : decode cX10_fits 176 = .ok (.imul, 1) := by decide +kernel
theorem dX10_fits_177 : decode cX10_fits 177 = .ok (.iload_n 3, 1) := by decide +kernel
theorem dX10_fits_178 : decode cX10_fits 178 = .ok (.iadd, 1) := by decide +kernel
theorem dX10_fits_179 : decode cX10_fits 179 = .ok (.iload 4, 2) := by decide +kernel
theorem dX10_fits_181 : decode cX10_fits 181 = .ok (.iload 7, 2) := by decide +kernel
theorem dX10_fits_183 : decode cX10_fits 183 = .ok (.iload 9, 2) := by decide +kernel
theorem dX10_fits_185 : decode cX10_fits 185 = .ok (.invokevirtual 227, 3) := by decide +kernel
theorem dX10_fits_188 : decode cX10_fits 188 = .ok (.ifCond .eq 10, 3) := by decide +kernel
theorem dX10_fits_191 : decode cX10_fits 191 = .ok (.iconst 1, 1) := by decide +kernel
theorem dX10_fits_192 : decode cX10_fits 192 = .ok (.iload 9, 2) := by decide +kernel
theorem dX10_fits_194 : decode cX10_fits 194 = .ok (.ishl, 1) := by decide +kernel
theorem dX10_fits_195 : decode cX10_fits 195 = .ok (.goto 4, 3) := by decide +kernel
theorem dX10_fits_198 : decode cX10_fits 198 = .ok (.iconst 0, 1) := by decide +kernel
theorem dX10_fits_199 : decode cX10_fits 199 = .ok (.ior, 1) := by decide +kernel
theorem dX10_fits_200 : decode cX10_fits 200 = .ok (.istore 8, 2) := by decide +kernel
theorem dX10_fits_202 : decode cX10_fits 202 = .ok (.iinc 9 1, 3) := by decide +kernel
theorem dX10_fits_205 : decode cX10_fits 205 = .ok (.goto (-56), 3) := by decide +kernel
theorem dX10_fits_208 : decode cX10_fits 208 = .ok (.aload_n 0, 1) := by decide +kernel
theorem dX10_fits_209 : decode cX10_fits 209 = .ok (.iload 8, 2) := by decide +kernel
theorem dX10_fits_211 : decode cX10_fits 211 = .ok (.invokevirtual 75, 3) := by decide +kernel
theorem dX10_fits_214 : decode cX10_fits 214 = .ok (.ireturn, 1) := by decide +kernel
theorem dX10_chance_0 : decode cX10_chance 0 = .ok (.aload_n 0, 1) := by decide +kernel
theorem dX10_chance_1 : decode cX10_chance 1 = .ok (.iload_n 1, 1) := by decide +kernel
theorem dX10_chance_2 : decode cX10_chance 2 = .ok (.invokevirtual 205, 3) := by decide +kernel
theorem dX10_chance_5 : decode cX10_chance 5 = .ok (.ifCond .eq 22, 3) := by decide +kernel
theorem dX10_chance_8 : decode cX10_chance 8 = .ok (.iload_n 2, 1) := by decide +kernel
theorem dX10_chance_9 : decode cX10_chance 9 = .ok (.iconst 0, 1) := by decide +kernel
theorem dX10_chance_10 : decode cX10_chance 10 = .ok (.bipush 8, 2) := by decide +kernel
theorem dX10_chance_12 : decode cX10_chance 12 = .ok (.invokestatic 62, 3) := by decide +kernel
theorem dX10_chance_15 : decode cX10_chance 15 = .ok (.ifCond .eq 12, 3) := by decide +kernel
theorem dX10_chance_18 : decode cX10_chance 18 = .ok (.iload_n 3, 1) := by decide +kernel
theorem dX10_chance_19 : decode cX10_chance 19 = .ok (.iconst 0, 1) := by decide +kernel
theorem dX10_chance_20 : decode cX10_chance 20 = .ok (.iconst 1, 1) := by decide +kernel
theorem dX10_chance_21 : decode cX10_chance 21 = .ok (.invokestatic 62, 3) := by decide +kernel
theorem dX10_chance_24 : decode cX10_chance 24 = .ok (.ifCond .ne 6, 3) := by decide +kernel
theorem dX10_chance_27 : decode cX10_chance 27 = .ok (.ldc 70, 2) := by decide +kernel
theorem dX10_chance_29 : decode cX10_chance 29 = .ok (.ireturn, 1) := by decide +kernel
theorem dX10_chance_30 : decode cX10_chance 30 = .ok (.aload_n 0, 1) := by decide +kernel
theorem dX10_chance_31 : decode cX10_chance 31 = .ok (.iload_n 2, 1) := by decide +kernel
theorem dX10_chance_32 : decode cX10_chance 32 = .ok (.iconst 1, 1) := by decide +kernel
theorem dX10_chance_33 : decode cX10_chance 33 = .ok (.invokevirtual 220, 3) := by decide +kernel
theorem dX10_chance_36 : decode cX10_chance 36 = .ok (.aload_n 0, 1) := by decide +kernel
theorem dX10_chance_37 : decode cX10_chance 37 = .ok (.getfield 44, 3) := by decide +kernel
theorem dX10_chance_40 : decode cX10_chance 40 = .ok (.iload_n 1, 1) := by decide +kernel
theorem dX10_chance_41 : decode cX10_chance 41 = .ok (.iaload, 1) := by decide +kernel
theorem dX10_chance_42 : decode cX10_chance 42 = .ok (.istore 4, 2) := by decide +kernel
theorem dX10_chance_44 : decode cX10_chance 44 = .ok (.iconst 1, 1) := by decide +kernel
theorem dX10_chance_45 : decode cX10_chance 45 = .ok (.istore 5, 2) := by decide +kernel
theorem dX10_chance_47 : decode cX10_chance 47 = .ok (.iconst 0, 1) := by decide +kernel
theorem dX10_chance_48 : decode cX10_chance 48 = .ok (.istore 6, 2) := by decide +kernel
theorem dX10_chance_50 : decode cX10_chance 50 = .ok (.iload 6, 2) := by decide +kernel
theorem dX10_chance_52 : decode cX10_chance 52 = .ok (.iload_n 2, 1) := by decide +kernel
theorem dX10_chance_53 : decode cX10_chance 53 = .ok (.if_icmp .ge 16, 3) := by decide +kernel
theorem dX10_chance_56 : decode cX10_chance 56 = .ok (.iload 5, 2) := by decide +kernel
theorem dX10_chance_58 : decode cX10_chance 58 = .ok (.bipush 6, 2) := by decide +kernel
theorem dX10_chance_60 : decode cX10_chance 60 = .ok (.imul, 1) := by decide +kernel
theorem dX10_chance_61 : decode cX10_chance 61 = .ok (.istore 5, 2) := by decide +kernel
theorem dX10_chance_63 : decode cX10_chance 63 = .ok (.iinc 6 1, 3) := by decide +kernel
theorem dX10_chance_66 : decode cX10_chance 66 = .ok (.goto (-16), 3) := by decide +kernel
theorem dX10_chance_69 : decode cX10_chance 69 = .ok (.iload 4, 2) := by decide +kernel
theorem dX10_chance_71 : decode cX10_chance 71 = .ok (.istore 6, 2) := by decide +kernel
theorem dX10_chance_73 : decode cX10_chance 73 = .ok (.iload 5, 2) := by decide +kernel
theorem dX10_chance_75 : decode cX10_chance 75 = .ok (.istore 7, 2) := by decide +kernel
theorem dX10_chance_77 : decode cX10_chance 77 = .ok (.iload 7, 2) := by decide +kernel
theorem dX10_chance_79 : decode cX10_chance 79 = .ok (.ifCond .eq 21, 3) := by decide +kernel
theorem dX10_chance_82 : decode cX10_chance 82 = .ok (.iload 6, 2) := by decide +kernel
theorem dX10_chance_84 : decode cX10_chance 84 = .ok (.iload 7, 2) := by decide +kernel
theorem dX10_chance_86 : decode cX10_chance 86 = .ok (.irem, 1) := by decide +kernel
theorem dX10_chance_87 : decode cX10_chance 87 = .ok (.istore 8, 2) := by decide +kernel
theorem dX10_chance_89 : decode cX10_chance 89 = .ok (.iload 7, 2) := by decide +kernel
theorem dX10_chance_91 : decode cX10_chance 91 = .ok (.istore 6, 2) := by decide +kernel
theorem dX10_chance_93 : decode cX10_chance 93 = .ok (.iload 8, 2) := by decide +kernel
theorem dX10_chance_95 : decode cX10_chance 95 = .ok (.istore 7, 2) := by decide +kernel
theorem dX10_chance_97 : decode cX10_chance 97 = .ok (.goto (-20), 3) := by decide +kernel
theorem dX10_chance_100 : decode cX10_chance 100 = .ok (.iload_n 3, 1) := by decide +kernel
theorem dX10_chance_101 : decode cX10_chance 101 = .ok (.ifCond .ne 8, 3) := by decide +kernel
theorem dX10_chance_104 : decode cX10_chance 104 = .ok (.iload 4, 2) := by decide +kernel
theorem dX10_chance_106 : decode cX10_chance 106 = .ok (.goto 5, 3) := by decide +kernel
theorem dX10_chance_109 : decode cX10_chance 109 = .ok (.iload 5, 2) := by decide +kernel
theorem dX10_chance_111 : decode cX10_chance 111 = .ok (.iload 6, 2) := by decide +kernel
theorem dX10_chance_113 : decode cX10_chance 113 = .ok (.idiv, 1) := by decide +kernel
theorem dX10_chance_114 : decode cX10_chance 114 = .ok (.ireturn, 1) := by decide +kernel
theorem dX10_steps_0 : decode cX10_steps 0 = .ok (.lload_n 1, 1) := by decide +kernel
theorem dX10_steps_1 : decode cX10_steps 1 = .ok (.ldc2_w 231, 3) := by decide +kernel
theorem dX10_steps_4 : decode cX10_steps 4 = .ok (.lrem, 1) := by decide +kernel
theorem dX10_steps_5 : decode cX10_steps 5 = .ok (.l2i, 1) := by decide +kernel
theorem dX10_steps_6 : decode cX10_steps 6 = .ok (.istore_n 3, 1) := by decide +kernel
theorem dX10_steps_7 : decode cX10_steps 7 = .ok (.iload_n 3, 1) := by decide +kernel
theorem dX10_steps_8 : decode cX10_steps 8 = .ok (.iconst 3, 1) := by decide +kernel
theorem dX10_steps_9 : decode cX10_steps 9 = .ok (.if_icmp .ge 29, 3) := by decide +kernel
theorem dX10_steps_12 : decode cX10_steps 12 = .ok (.aload_n 0, 1) := by decide +kernel
theorem dX10_steps_13 : decode cX10_steps 13 = .ok (.getfield 31, 3) := by decide +kernel
theorem dX10_steps_16 : decode cX10_steps 16 = .ok (.iload_n 3, 1) := by decide +kernel
theorem dX10_steps_17 : decode cX10_steps 17 = .ok (.invokestatic 183, 3) := by decide +kernel
theorem dX10_steps_20 : decode cX10_steps 20 = .ok (.istore 4, 2) := by decide +kernel
theorem dX10_steps_22 : decode cX10_steps 22 = .ok (.iload 4, 2) := by decide +kernel
theorem dX10_steps_24 : decode cX10_steps 24 = .ok (.ifCond .eq 11, 3) := by decide +kernel
theorem dX10_steps_27 : decode cX10_steps 27 = .ok (.aload_n 0, 1) := by decide +kernel
theorem dX10_steps_28 : decode cX10_steps 28 = .ok (.getfield 31, 3) := by decide +kernel
theorem dX10_steps_31 : decode cX10_steps 31 = .ok (.iload_n 3, 1) := by decide +kernel
theorem dX10_steps_32 : decode cX10_steps 32 = .ok (.invokestatic 190, 3) := by decide +kernel
theorem dX10_steps_35 : decode cX10_steps 35 = .ok (.iload 4, 2) := by decide +kernel
theorem dX10_steps_37 : decode cX10_steps 37 = .ok (.ireturn, 1) := by decide +kernel
theorem dX10_steps_38 : decode cX10_steps 38 = .ok (.iload_n 3, 1) := by decide +kernel
theorem dX10_steps_39 : decode cX10_steps 39 = .ok (.tableswitch 106 3 5 #[25, 46, 64], 25) := by decide +kernel
theorem dX10_steps_64 : decode cX10_steps 64 = .ok (.aload_n 0, 1) := by decide +kernel
theorem dX10_steps_65 : decode cX10_steps 65 = .ok (.getfield 31, 3) := by decide +kernel
theorem dX10_steps_68 : decode cX10_steps 68 = .ok (.iconst 0, 1) := by decide +kernel
theorem dX10_steps_69 : decode cX10_steps 69 = .ok (.invokestatic 193, 3) := by decide +kernel
theorem dX10_steps_72 : decode cX10_steps 72 = .ok (.ifCond .eq 11, 3) := by decide +kernel
theorem dX10_steps_75 : decode cX10_steps 75 = .ok (.aload_n 0, 1) := by decide +kernel
theorem dX10_steps_76 : decode cX10_steps 76 = .ok (.getfield 31, 3) := by decide +kernel
theorem dX10_steps_79 : decode cX10_steps 79 = .ok (.iconst 0, 1) := by decide +kernel
theorem dX10_steps_80 : decode cX10_steps 80 = .ok (.invokestatic 196, 3) := by decide +kernel
theorem dX10_steps_83 : decode cX10_steps 83 = .ok (.iconst 0, 1) := by decide +kernel
theorem dX10_steps_84 : decode cX10_steps 84 = .ok (.ireturn, 1) := by decide +kernel
theorem dX10_steps_85 : decode cX10_steps 85 = .ok (.aload_n 0, 1) := by decide +kernel
theorem dX10_steps_86 : decode cX10_steps 86 = .ok (.getfield 31, 3) := by decide +kernel
theorem dX10_steps_89 : decode cX10_steps 89 = .ok (.iconst 2, 1) := by decide +kernel
theorem dX10_steps_90 : decode cX10_steps 90 = .ok (.lload_n 1, 1) := by decide +kernel
theorem dX10_steps_91 : decode cX10_steps 91 = .ok (.aload_n 0, 1) := by decide +kernel
theorem dX10_steps_92 : decode cX10_steps 92 = .ok (.getfield 31, 3) := by decide +kernel
theorem dX10_steps_95 : decode cX10_steps 95 = .ok (.iconst 1, 1) := by decide +kernel
theorem dX10_steps_96 : decode cX10_steps 96 = .ok (.iaload, 1) := by decide +kernel
theorem dX10_steps_97 : decode cX10_steps 97 = .ok (.i2l, 1) := by decide +kernel
theorem dX10_steps_98 : decode cX10_steps 98 = .ok (.lrem, 1) := by decide +kernel
theorem dX10_steps_99 : decode cX10_steps 99 = .ok (.l2i, 1) := by decide +kernel
theorem dX10_steps_100 : decode cX10_steps 100 = .ok (.iastore, 1) := by decide +kernel
theorem dX10_steps_101 : decode cX10_steps 101 = .ok (.iconst 0, 1) := by decide +kernel
theorem dX10_steps_102 : decode cX10_steps 102 = .ok (.ireturn, 1) := by decide +kernel
theorem dX10_steps_103 : decode cX10_steps 103 = .ok (.aload_n 0, 1) := by decide +kernel
theorem dX10_steps_104 : decode cX10_steps 104 = .ok (.getfield 31, 3) := by decide +kernel
theorem dX10_steps_107 : decode cX10_steps 107 = .ok (.iconst 1, 1) := by decide +kernel
theorem dX10_steps_108 : decode cX10_steps 108 = .ok (.iaload, 1) := by decide +kernel
theorem dX10_steps_109 : decode cX10_steps 109 = .ok (.iconst 5, 1) := by decide +kernel
theorem dX10_steps_110 : decode cX10_steps 110 = .ok (.if_icmp .ge 7, 3) := by decide +kernel
theorem dX10_steps_113 : decode cX10_steps 113 = .ok (.iconst 1, 1) := by decide +kernel
theorem dX10_steps_114 : decode cX10_steps 114 = .ok (.goto 4, 3) := by decide +kernel
theorem dX10_steps_117 : decode cX10_steps 117 = .ok (.iconst 0, 1) := by decide +kernel
theorem dX10_steps_118 : decode cX10_steps 118 = .ok (.istore 4, 2) := by decide +kernel
theorem dX10_steps_120 : decode cX10_steps 120 = .ok (.iload 4, 2) := by decide +kernel
theorem dX10_steps_122 : decode cX10_steps 122 = .ok (.ifCond .eq 20, 3) := by decide +kernel
theorem dX10_steps_125 : decode cX10_steps 125 = .ok (.aload_n 0, 1) := by decide +kernel
theorem dX10_steps_126 : decode cX10_steps 126 = .ok (.getfield 31, 3) := by decide +kernel
theorem dX10_steps_129 : decode cX10_steps 129 = .ok (.lload_n 1, 1) := by decide +kernel
theorem dX10_steps_130 : decode cX10_steps 130 = .ok (.aload_n 0, 1) := by decide +kernel
theorem dX10_steps_131 : decode cX10_steps 131 = .ok (.getfield 31, 3) := by decide +kernel
theorem dX10_steps_134 : decode cX10_steps 134 = .ok (.iconst 0, 1) := by decide +kernel
theorem dX10_steps_135 : decode cX10_steps 135 = .ok (.iaload, 1) := by decide +kernel
theorem dX10_steps_136 : decode cX10_steps 136 = .ok (.i2l, 1) := by decide +kernel
theorem dX10_steps_137 : decode cX10_steps 137 = .ok (.lrem, 1) := by decide +kernel
theorem dX10_steps_138 : decode cX10_steps 138 = .ok (.l2i, 1) := by decide +kernel
theorem dX10_steps_139 : decode cX10_steps 139 = .ok (.invokestatic 208, 3) := by decide +kernel
theorem dX10_steps_142 : decode cX10_steps 142 = .ok (.iload 4, 2) := by decide +kernel
theorem dX10_steps_144 : decode cX10_steps 144 = .ok (.ireturn, 1) := by decide +kernel
theorem dX10_steps_145 : decode cX10_steps 145 = .ok (.aload_n 0, 1) := by decide +kernel
theorem dX10_steps_146 : decode cX10_steps 146 = .ok (.getfield 31, 3) := by decide +kernel
theorem dX10_steps_149 : decode cX10_steps 149 = .ok (.iconst 1, 1) := by decide +kernel
theorem dX10_steps_150 : decode cX10_steps 150 = .ok (.iaload, 1) := by decide +kernel
theorem dX10_steps_151 : decode cX10_steps 151 = .ok (.iconst 1, 1) := by decide +kernel
theorem dX10_steps_152 : decode cX10_steps 152 = .ok (.if_icmp .le 10, 3) := by decide +kernel
theorem dX10_steps_155 : decode cX10_steps 155 = .ok (.aload_n 0, 1) := by decide +kernel
theorem dX10_steps_156 : decode cX10_steps 156 = .ok (.getfield 31, 3) := by decide +kernel
theorem dX10_steps_159 : decode cX10_steps 159 = .ok (.invokestatic 211, 3) := by decide +kernel
theorem dX10_steps_162 : decode cX10_steps 162 = .ok (.iconst 0, 1) := by decide +kernel
theorem dX10_steps_163 : decode cX10_steps 163 = .ok (.ireturn, 1) := by decide +kernel
theorem dX10_drawn_0 : decode cX10_drawn 0 = .ok (.aload_n 0, 1) := by decide +kernel
theorem dX10_drawn_1 : decode cX10_drawn 1 = .ok (.invokevirtual 179, 3) := by decide +kernel
theorem dX10_drawn_4 : decode cX10_drawn 4 = .ok (.ifCond .ne 6, 3) := by decide +kernel
theorem dX10_drawn_7 : decode cX10_drawn 7 = .ok (.ldc 182, 2) := by decide +kernel
theorem dX10_drawn_9 : decode cX10_drawn 9 = .ok (.ireturn, 1) := by decide +kernel
theorem dX10_drawn_10 : decode cX10_drawn 10 = .ok (.iload_n 1, 1) := by decide +kernel
theorem dX10_drawn_11 : decode cX10_drawn 11 = .ok (.iconst 0, 1) := by decide +kernel
theorem dX10_drawn_12 : decode cX10_drawn 12 = .ok (.bipush 60, 2) := by decide +kernel
theorem dX10_drawn_14 : decode cX10_drawn 14 = .ok (.invokestatic 62, 3) := by decide +kernel
theorem dX10_drawn_17 : decode cX10_drawn 17 = .ok (.ifCond .eq 22, 3) := by decide +kernel
theorem dX10_drawn_20 : decode cX10_drawn 20 = .ok (.iload_n 2, 1) := by decide +kernel
theorem dX10_drawn_21 : decode cX10_drawn 21 = .ok (.iconst 1, 1) := by decide +kernel
theorem dX10_drawn_22 : decode cX10_drawn 22 = .ok (.ldc 233, 2) := by decide +kernel
theorem dX10_drawn_24 : decode cX10_drawn 24 = .ok (.invokestatic 62, 3) := by decide +kernel
theorem dX10_drawn_27 : decode cX10_drawn 27 = .ok (.ifCond .eq 12, 3) := by decide +kernel
theorem dX10_drawn_30 : decode cX10_drawn 30 = .ok (.iload_n 3, 1) := by decide +kernel
theorem dX10_drawn_31 : decode cX10_drawn 31 = .ok (.iconst 0, 1) := by decide +kernel
theorem dX10_drawn_32 : decode cX10_drawn 32 = .ok (.iconst 1, 1) := by decide +kernel
theorem dX10_drawn_33 : decode cX10_drawn 33 = .ok (.invokestatic 62, 3) := by decide +kernel
theorem dX10_drawn_36 : decode cX10_drawn 36 = .ok (.ifCond .ne 6, 3) := by decide +kernel
theorem dX10_drawn_39 : decode cX10_drawn 39 = .ok (.ldc 70, 2) := by decide +kernel
theorem dX10_drawn_41 : decode cX10_drawn 41 = .ok (.ireturn, 1) := by decide +kernel
theorem dX10_drawn_42 : decode cX10_drawn 42 = .ok (.aload_n 0, 1) := by decide +kernel
theorem dX10_drawn_43 : decode cX10_drawn 43 = .ok (.getfield 25, 3) := by decide +kernel
theorem dX10_drawn_46 : decode cX10_drawn 46 = .ok (.iconst 0, 1) := by decide +kernel
theorem dX10_drawn_47 : decode cX10_drawn 47 = .ok (.aload_n 0, 1) := by decide +kernel
theorem dX10_drawn_48 : decode cX10_drawn 48 = .ok (.getfield 31, 3) := by decide +kernel
theorem dX10_drawn_51 : decode cX10_drawn 51 = .ok (.iconst 0, 1) := by decide +kernel
theorem dX10_drawn_52 : decode cX10_drawn 52 = .ok (.invokestatic 146, 3) := by decide +kernel
theorem dX10_drawn_55 : decode cX10_drawn 55 = .ok (.iload_n 2, 1) := by decide +kernel
theorem dX10_drawn_56 : decode cX10_drawn 56 = .ok (.i2l, 1) := by decide +kernel
theorem dX10_drawn_57 : decode cX10_drawn 57 = .ok (.lstore 4, 2) := by decide +kernel
theorem dX10_drawn_59 : decode cX10_drawn 59 = .ok (.iconst 0, 1) := by decide +kernel
theorem dX10_drawn_60 : decode cX10_drawn 60 = .ok (.istore 6, 2) := by decide +kernel
theorem dX10_drawn_62 : decode cX10_drawn 62 = .ok (.iconst 0, 1) := by decide +kernel
theorem dX10_drawn_63 : decode cX10_drawn 63 = .ok (.istore 7, 2) := by decide +kernel
theorem dX10_drawn_65 : decode cX10_drawn 65 = .ok (.iload 7, 2) := by decide +kernel
theorem dX10_drawn_67 : decode cX10_drawn 67 = .ok (.iload_n 1, 1) := by decide +kernel
theorem dX10_drawn_68 : decode cX10_drawn 68 = .ok (.if_icmp .ge 40, 3) := by decide +kernel
theorem dX10_drawn_71 : decode cX10_drawn 71 = .ok (.lload 4, 2) := by decide +kernel
theorem dX10_drawn_73 : decode cX10_drawn 73 = .ok (.ldc2_w 234, 3) := by decide +kernel
theorem dX10_drawn_76 : decode cX10_drawn 76 = .ok (.lmul, 1) := by decide +kernel
theorem dX10_drawn_77 : decode cX10_drawn 77 = .ok (.ldc2_w 236, 3) := by decide +kernel
theorem dX10_drawn_80 : decode cX10_drawn 80 = .ok (.lrem, 1) := by decide +kernel
theorem dX10_drawn_81 : decode cX10_drawn 81 = .ok (.lstore 4, 2) := by decide +kernel
theorem dX10_drawn_83 : decode cX10_drawn 83 = .ok (.iload 6, 2) := by decide +kernel
theorem dX10_drawn_85 : decode cX10_drawn 85 = .ok (.aload_n 0, 1) := by decide +kernel
theorem dX10_drawn_86 : decode cX10_drawn 86 = .ok (.lload 4, 2) := by decide +kernel
theorem dX10_drawn_88 : decode cX10_drawn 88 = .ok (.invokevirtual 238, 3) := by decide +kernel
theorem dX10_drawn_91 : decode cX10_drawn 91 = .ok (.ifCond .eq 7, 3) := by decide +kernel
theorem dX10_drawn_94 : decode cX10_drawn 94 = .ok (.iconst 1, 1) := by decide +kernel
theorem dX10_drawn_95 : decode cX10_drawn 95 = .ok (.goto 4, 3) := by decide +kernel
theorem dX10_drawn_98 : decode cX10_drawn 98 = .ok (.iconst 0, 1) := by decide +kernel
theorem dX10_drawn_99 : decode cX10_drawn 99 = .ok (.iadd, 1) := by decide +kernel
theorem dX10_drawn_100 : decode cX10_drawn 100 = .ok (.istore 6, 2) := by decide +kernel
theorem dX10_drawn_102 : decode cX10_drawn 102 = .ok (.iinc 7 1, 3) := by decide +kernel
theorem dX10_drawn_105 : decode cX10_drawn 105 = .ok (.goto (-40), 3) := by decide +kernel
theorem dX10_drawn_108 : decode cX10_drawn 108 = .ok (.iload_n 3, 1) := by decide +kernel
theorem dX10_drawn_109 : decode cX10_drawn 109 = .ok (.ifCond .ne 8, 3) := by decide +kernel
theorem dX10_drawn_112 : decode cX10_drawn 112 = .ok (.iload 6, 2) := by decide +kernel
theorem dX10_drawn_114 : decode cX10_drawn 114 = .ok (.goto 10, 3) := by decide +kernel
theorem dX10_drawn_117 : decode cX10_drawn 117 = .ok (.aload_n 0, 1) := by decide +kernel
theorem dX10_drawn_118 : decode cX10_drawn 118 = .ok (.getfield 31, 3) := by decide +kernel
theorem dX10_drawn_121 : decode cX10_drawn 121 = .ok (.invokestatic 157, 3) := by decide +kernel
theorem dX10_drawn_124 : decode cX10_drawn 124 = .ok (.ireturn, 1) := by decide +kernel
theorem dX10_image_0 : decode cX10_image 0 = .ok (.iload_n 1, 1) := by decide +kernel
theorem dX10_image_1 : decode cX10_image 1 = .ok (.iconst 0, 1) := by decide +kernel
theorem dX10_image_2 : decode cX10_image 2 = .ok (.iconst 1, 1) := by decide +kernel
theorem dX10_image_3 : decode cX10_image 3 = .ok (.invokestatic 62, 3) := by decide +kernel
theorem dX10_image_6 : decode cX10_image 6 = .ok (.ifCond .ne 6, 3) := by decide +kernel
theorem dX10_image_9 : decode cX10_image 9 = .ok (.ldc 70, 2) := by decide +kernel
theorem dX10_image_11 : decode cX10_image 11 = .ok (.ireturn, 1) := by decide +kernel
theorem dX10_image_12 : decode cX10_image 12 = .ok (.aload_n 0, 1) := by decide +kernel
theorem dX10_image_13 : decode cX10_image 13 = .ok (.invokevirtual 179, 3) := by decide +kernel
theorem dX10_image_16 : decode cX10_image 16 = .ok (.ifCond .ne 6, 3) := by decide +kernel
theorem dX10_image_19 : decode cX10_image 19 = .ok (.ldc 182, 2) := by decide +kernel
theorem dX10_image_21 : decode cX10_image 21 = .ok (.ireturn, 1) := by decide +kernel
theorem dX10_image_22 : decode cX10_image 22 = .ok (.aload_n 0, 1) := by decide +kernel
theorem dX10_image_23 : decode cX10_image 23 = .ok (.getfield 25, 3) := by decide +kernel
theorem dX10_image_26 : decode cX10_image 26 = .ok (.iconst 0, 1) := by decide +kernel
theorem dX10_image_27 : decode cX10_image 27 = .ok (.aload_n 0, 1) := by decide +kernel
theorem dX10_image_28 : decode cX10_image 28 = .ok (.getfield 37, 3) := by decide +kernel
theorem dX10_image_31 : decode cX10_image 31 = .ok (.bipush 124, 2) := by decide +kernel
theorem dX10_image_33 : decode cX10_image 33 = .ok (.iload_n 1, 1) := by decide +kernel
theorem dX10_image_34 : decode cX10_image 34 = .ok (.imul, 1) := by decide +kernel
theorem dX10_image_35 : decode cX10_image 35 = .ok (.invokestatic 146, 3) := by decide +kernel
theorem dX10_image_38 : decode cX10_image 38 = .ok (.aload_n 0, 1) := by decide +kernel
theorem dX10_image_39 : decode cX10_image 39 = .ok (.getfield 40, 3) := by decide +kernel
theorem dX10_image_42 : decode cX10_image 42 = .ok (.iload_n 1, 1) := by decide +kernel
theorem dX10_image_43 : decode cX10_image 43 = .ok (.iconst 1, 1) := by decide +kernel
theorem dX10_image_44 : decode cX10_image 44 = .ok (.bastore, 1) := by decide +kernel
theorem dX10_image_45 : decode cX10_image 45 = .ok (.iconst 1, 1) := by decide +kernel
theorem dX10_image_46 : decode cX10_image 46 = .ok (.ireturn, 1) := by decide +kernel
theorem dX10_restore_0 : decode cX10_restore 0 = .ok (.iload_n 1, 1) := by decide +kernel
theorem dX10_restore_1 : decode cX10_restore 1 = .ok (.iconst 0, 1) := by decide +kernel
theorem dX10_restore_2 : decode cX10_restore 2 = .ok (.iconst 1, 1) := by decide +kernel
theorem dX10_restore_3 : decode cX10_restore 3 = .ok (.invokestatic 62, 3) := by decide +kernel
theorem dX10_restore_6 : decode cX10_restore 6 = .ok (.ifCond .ne 6, 3) := by decide +kernel
theorem dX10_restore_9 : decode cX10_restore 9 = .ok (.ldc 70, 2) := by decide +kernel
theorem dX10_restore_11 : decode cX10_restore 11 = .ok (.ireturn, 1) := by decide +kernel
theorem dX10_restore_12 : decode cX10_restore 12 = .ok (.aload_n 0, 1) := by decide +kernel
theorem dX10_restore_13 : decode cX10_restore 13 = .ok (.getfield 40, 3) := by decide +kernel
theorem dX10_restore_16 : decode cX10_restore 16 = .ok (.iload_n 1, 1) := by decide +kernel
theorem dX10_restore_17 : decode cX10_restore 17 = .ok (.baload, 1) := by decide +kernel
theorem dX10_restore_18 : decode cX10_restore 18 = .ok (.ifCond .ne 6, 3) := by decide +kernel
theorem dX10_restore_21 : decode cX10_restore 21 = .ok (.ldc 182, 2) := by decide +kernel
theorem dX10_restore_23 : decode cX10_restore 23 = .ok (.ireturn, 1) := by decide +kernel
theorem dX10_restore_24 : decode cX10_restore 24 = .ok (.aload_n 0, 1) := by decide +kernel
theorem dX10_restore_25 : decode cX10_restore 25 = .ok (.getfield 37, 3) := by decide +kernel
theorem dX10_restore_28 : decode cX10_restore 28 = .ok (.bipush 124, 2) := by decide +kernel
theorem dX10_restore_30 : decode cX10_restore 30 = .ok (.iload_n 1, 1) := by decide +kernel
theorem dX10_restore_31 : decode cX10_restore 31 = .ok (.imul, 1) := by decide +kernel
theorem dX10_restore_32 : decode cX10_restore 32 = .ok (.aload_n 0, 1) := by decide +kernel
theorem dX10_restore_33 : decode cX10_restore 33 = .ok (.getfield 25, 3) := by decide +kernel
theorem dX10_restore_36 : decode cX10_restore 36 = .ok (.iconst 0, 1) := by decide +kernel
theorem dX10_restore_37 : decode cX10_restore 37 = .ok (.invokestatic 146, 3) := by decide +kernel
theorem dX10_restore_40 : decode cX10_restore 40 = .ok (.aload_n 0, 1) := by decide +kernel
theorem dX10_restore_41 : decode cX10_restore 41 = .ok (.iconst 0, 1) := by decide +kernel
theorem dX10_restore_42 : decode cX10_restore 42 = .ok (.putfield 150, 3) := by decide +kernel
theorem dX10_restore_45 : decode cX10_restore 45 = .ok (.iconst 1, 1) := by decide +kernel
theorem dX10_restore_46 : decode cX10_restore 46 = .ok (.ireturn, 1) := by decide +kernel
theorem dX10_kindIn_0 : decode cX10_kindIn 0 = .ok (.aload_n 0, 1) := by decide +kernel
theorem dX10_kindIn_1 : decode cX10_kindIn 1 = .ok (.getfield 25, 3) := by decide +kernel
theorem dX10_kindIn_4 : decode cX10_kindIn 4 = .ok (.bipush 44, 2) := by decide +kernel
theorem dX10_kindIn_6 : decode cX10_kindIn 6 = .ok (.bipush 10, 2) := by decide +kernel
theorem dX10_kindIn_8 : decode cX10_kindIn 8 = .ok (.iload_n 1, 1) := by decide +kernel
theorem dX10_kindIn_9 : decode cX10_kindIn 9 = .ok (.imul, 1) := by decide +kernel
theorem dX10_kindIn_10 : decode cX10_kindIn 10 = .ok (.iadd, 1) := by decide +kernel
theorem dX10_kindIn_11 : decode cX10_kindIn 11 = .ok (.iaload, 1) := by decide +kernel
theorem dX10_kindIn_12 : decode cX10_kindIn 12 = .ok (.ireturn, 1) := by decide +kernel
theorem dX10_kind_0 : decode cX10_kind 0 = .ok (.aload_n 0, 1) := by decide +kernel
theorem dX10_kind_1 : decode cX10_kind 1 = .ok (.iload_n 1, 1) := by decide +kernel
theorem dX10_kind_2 : decode cX10_kind 2 = .ok (.invokevirtual 202, 3) := by decide +kernel
theorem dX10_kind_5 : decode cX10_kind 5 = .ok (.ifCond .eq 11, 3) := by decide +kernel
theorem dX10_kind_8 : decode cX10_kind 8 = .ok (.aload_n 0, 1) := by decide +kernel
theorem dX10_kind_9 : decode cX10_kind 9 = .ok (.iload_n 1, 1) := by decide +kernel
theorem dX10_kind_10 : decode cX10_kind 10 = .ok (.invokevirtual 242, 3) := by decide +kernel
theorem dX10_kind_13 : decode cX10_kind 13 = .ok (.goto 5, 3) := by decide +kernel
theorem dX10_kind_16 : decode cX10_kind 16 = .ok (.ldc 70, 2) := by decide +kernel
theorem dX10_kind_18 : decode cX10_kind 18 = .ok (.ireturn, 1) := by decide +kernel
theorem dX10_as_0 : decode cX10_as 0 = .ok (.aload_n 0, 1) := by decide +kernel
theorem dX10_as_1 : decode cX10_as 1 = .ok (.iload_n 1, 1) := by decide +kernel
theorem dX10_as_2 : decode cX10_as 2 = .ok (.invokevirtual 202, 3) := by decide +kernel
theorem dX10_as_5 : decode cX10_as 5 = .ok (.ifCond .eq 12, 3) := by decide +kernel
theorem dX10_as_8 : decode cX10_as 8 = .ok (.iload_n 2, 1) := by decide +kernel
theorem dX10_as_9 : decode cX10_as 9 = .ok (.iconst 0, 1) := by decide +kernel
theorem dX10_as_10 : decode cX10_as 10 = .ok (.iconst 5, 1) := by decide +kernel
theorem dX10_as_11 : decode cX10_as 11 = .ok (.invokestatic 62, 3) := by decide +kernel
theorem dX10_as_14 : decode cX10_as 14 = .ok (.ifCond .ne 6, 3) := by decide +kernel
theorem dX10_as_17 : decode cX10_as 17 = .ok (.ldc 70, 2) := by decide +kernel
theorem dX10_as_19 : decode cX10_as 19 = .ok (.ireturn, 1) := by decide +kernel
theorem dX10_as_20 : decode cX10_as 20 = .ok (.aload_n 0, 1) := by decide +kernel
theorem dX10_as_21 : decode cX10_as 21 = .ok (.iload_n 1, 1) := by decide +kernel
theorem dX10_as_22 : decode cX10_as 22 = .ok (.invokevirtual 242, 3) := by decide +kernel
theorem dX10_as_25 : decode cX10_as 25 = .ok (.istore_n 3, 1) := by decide +kernel
theorem dX10_as_26 : decode cX10_as 26 = .ok (.iload_n 2, 1) := by decide +kernel
theorem dX10_as_27 : decode cX10_as 27 = .ok (.ifCond .eq 28, 3) := by decide +kernel
theorem dX10_as_30 : decode cX10_as 30 = .ok (.iload_n 2, 1) := by decide +kernel
theorem dX10_as_31 : decode cX10_as 31 = .ok (.iload_n 3, 1) := by decide +kernel
theorem dX10_as_32 : decode cX10_as 32 = .ok (.if_icmp .eq 23, 3) := by decide +kernel
theorem dX10_as_35 : decode cX10_as 35 = .ok (.iload_n 2, 1) := by decide +kernel
theorem dX10_as_36 : decode cX10_as 36 = .ok (.iconst 1, 1) := by decide +kernel
theorem dX10_as_37 : decode cX10_as 37 = .ok (.if_icmp .ne 8, 3) := by decide +kernel
theorem dX10_as_40 : decode cX10_as 40 = .ok (.iload_n 3, 1) := by decide +kernel
theorem dX10_as_41 : decode cX10_as 41 = .ok (.iconst 4, 1) := by decide +kernel
theorem dX10_as_42 : decode cX10_as 42 = .ok (.if_icmp .lt 13, 3) := by decide +kernel
theorem dX10_as_45 : decode cX10_as 45 = .ok (.iload_n 2, 1) := by decide +kernel
theorem dX10_as_46 : decode cX10_as 46 = .ok (.iconst 4, 1) := by decide +kernel
theorem dX10_as_47 : decode cX10_as 47 = .ok (.if_icmp .ne 12, 3) := by decide +kernel
theorem dX10_as_50 : decode cX10_as 50 = .ok (.iload_n 3, 1) := by decide +kernel
theorem dX10_as_51 : decode cX10_as 51 = .ok (.iconst 5, 1) := by decide +kernel
theorem dX10_as_52 : decode cX10_as 52 = .ok (.if_icmp .ne 7, 3) := by decide +kernel
theorem dX10_as_55 : decode cX10_as 55 = .ok (.iconst 1, 1) := by decide +kernel
theorem dX10_as_56 : decode cX10_as 56 = .ok (.goto 4, 3) := by decide +kernel
theorem dX10_as_59 : decode cX10_as 59 = .ok (.iconst 0, 1) := by decide +kernel
theorem dX10_as_60 : decode cX10_as 60 = .ok (.istore 4, 2) := by decide +kernel
theorem dX10_as_62 : decode cX10_as 62 = .ok (.iload 4, 2) := by decide +kernel
theorem dX10_as_64 : decode cX10_as 64 = .ok (.ifCond .eq 11, 3) := by decide +kernel
theorem dX10_as_67 : decode cX10_as 67 = .ok (.aload_n 0, 1) := by decide +kernel
theorem dX10_as_68 : decode cX10_as 68 = .ok (.iload_n 1, 1) := by decide +kernel
theorem dX10_as_69 : decode cX10_as 69 = .ok (.invokevirtual 75, 3) := by decide +kernel
theorem dX10_as_72 : decode cX10_as 72 = .ok (.goto 8, 3) := by decide +kernel
theorem dX10_as_75 : decode cX10_as 75 = .ok (.aload_n 0, 1) := by decide +kernel
theorem dX10_as_76 : decode cX10_as 76 = .ok (.iconst 3, 1) := by decide +kernel
theorem dX10_as_77 : decode cX10_as 77 = .ok (.invokevirtual 71, 3) := by decide +kernel
theorem dX10_as_80 : decode cX10_as 80 = .ok (.ireturn, 1) := by decide +kernel
theorem dX10_begins_0 : decode cX10_begins 0 = .ok (.aload_n 0, 1) := by decide +kernel
theorem dX10_begins_1 : decode cX10_begins 1 = .ok (.getfield 245, 3) := by decide +kernel
theorem dX10_begins_4 : decode cX10_begins 4 = .ok (.bipush 16, 2) := by decide +kernel
theorem dX10_begins_6 : decode cX10_begins 6 = .ok (.if_icmp .ge 23, 3) := by decide +kernel
theorem dX10_begins_9 : decode cX10_begins 9 = .ok (.aload_n 0, 1) := by decide +kernel
theorem dX10_begins_10 : decode cX10_begins 10 = .ok (.getfield 53, 3) := by decide +kernel
theorem dX10_begins_13 : decode cX10_begins 13 = .ok (.aload_n 0, 1) := by decide +kernel
theorem dX10_begins_14 : decode cX10_begins 14 = .ok (.getfield 245, 3) := by decide +kernel
theorem dX10_begins_17 : decode cX10_begins 17 = .ok (.iload_n 1, 1) := by decide +kernel
theorem dX10_begins_18 : decode cX10_begins 18 = .ok (.iastore, 1) := by decide +kernel
theorem dX10_begins_19 : decode cX10_begins 19 = .ok (.aload_n 0, 1) := by decide +kernel
theorem dX10_begins_20 : decode cX10_begins 20 = .ok (.dup, 1) := by decide +kernel
theorem dX10_begins_21 : decode cX10_begins 21 = .ok (.getfield 245, 3) := by decide +kernel
theorem dX10_begins_24 : decode cX10_begins 24 = .ok (.iconst 1, 1) := by decide +kernel
theorem dX10_begins_25 : decode cX10_begins 25 = .ok (.iadd, 1) := by decide +kernel
theorem dX10_begins_26 : decode cX10_begins 26 = .ok (.putfield 245, 3) := by decide +kernel
theorem dX10_begins_29 : decode cX10_begins 29 = .ok (.return_, 1) := by decide +kernel
theorem dX10_plainMark_0 : decode cX10_plainMark 0 = .ok (.aload_n 0, 1) := by decide +kernel
theorem dX10_plainMark_1 : decode cX10_plainMark 1 = .ok (.iload_n 1, 1) := by decide +kernel
theorem dX10_plainMark_2 : decode cX10_plainMark 2 = .ok (.invokevirtual 242, 3) := by decide +kernel
theorem dX10_plainMark_5 : decode cX10_plainMark 5 = .ok (.istore_n 2, 1) := by decide +kernel
theorem dX10_plainMark_6 : decode cX10_plainMark 6 = .ok (.iload_n 2, 1) := by decide +kernel
theorem dX10_plainMark_7 : decode cX10_plainMark 7 = .ok (.iconst 1, 1) := by decide +kernel
theorem dX10_plainMark_8 : decode cX10_plainMark 8 = .ok (.if_icmp .eq 19, 3) := by decide +kernel
theorem dX10_plainMark_11 : decode cX10_plainMark 11 = .ok (.aload_n 0, 1) := by decide +kernel
theorem dX10_plainMark_12 : decode cX10_plainMark 12 = .ok (.iload_n 2, 1) := by decide +kernel
theorem dX10_plainMark_13 : decode cX10_plainMark 13 = .ok (.iconst 2, 1) := by decide +kernel
theorem dX10_plainMark_14 : decode cX10_plainMark 14 = .ok (.if_icmp .ne 8, 3) := by decide +kernel
theorem dX10_plainMark_17 : decode cX10_plainMark 17 = .ok (.bipush 24, 2) := by decide +kernel
theorem dX10_plainMark_19 : decode cX10_plainMark 19 = .ok (.goto 5, 3) := by decide +kernel
theorem dX10_plainMark_22 : decode cX10_plainMark 22 = .ok (.bipush 22, 2) := by decide +kernel
theorem dX10_plainMark_24 : decode cX10_plainMark 24 = .ok (.invokevirtual 248, 3) := by decide +kernel
theorem dX10_plainMark_27 : decode cX10_plainMark 27 = .ok (.aload_n 0, 1) := by decide +kernel
theorem dX10_plainMark_28 : decode cX10_plainMark 28 = .ok (.bipush 21, 2) := by decide +kernel
theorem dX10_plainMark_30 : decode cX10_plainMark 30 = .ok (.invokevirtual 248, 3) := by decide +kernel
theorem dX10_plainMark_33 : decode cX10_plainMark 33 = .ok (.aload_n 0, 1) := by decide +kernel
theorem dX10_plainMark_34 : decode cX10_plainMark 34 = .ok (.bipush 20, 2) := by decide +kernel
theorem dX10_plainMark_36 : decode cX10_plainMark 36 = .ok (.invokevirtual 248, 3) := by decide +kernel
theorem dX10_plainMark_39 : decode cX10_plainMark 39 = .ok (.iload_n 1, 1) := by decide +kernel
theorem dX10_plainMark_40 : decode cX10_plainMark 40 = .ok (.aload_n 0, 1) := by decide +kernel
theorem dX10_plainMark_41 : decode cX10_plainMark 41 = .ok (.getfield 25, 3) := by decide +kernel
theorem dX10_plainMark_44 : decode cX10_plainMark 44 = .ok (.iload_n 1, 1) := by decide +kernel
theorem dX10_plainMark_45 : decode cX10_plainMark 45 = .ok (.invokestatic 153, 3) := by decide +kernel
theorem dX10_plainMark_48 : decode cX10_plainMark 48 = .ok (.iadd, 1) := by decide +kernel
theorem dX10_plainMark_49 : decode cX10_plainMark 49 = .ok (.istore_n 3, 1) := by decide +kernel
theorem dX10_plainMark_50 : decode cX10_plainMark 50 = .ok (.iload_n 2, 1) := by decide +kernel
theorem dX10_plainMark_51 : decode cX10_plainMark 51 = .ok (.iconst 2, 1) := by decide +kernel
theorem dX10_plainMark_52 : decode cX10_plainMark 52 = .ok (.if_icmp .ne 9, 3) := by decide +kernel
theorem dX10_plainMark_55 : decode cX10_plainMark 55 = .ok (.iconst 2, 1) := by decide +kernel
theorem dX10_plainMark_56 : decode cX10_plainMark 56 = .ok (.iload_n 3, 1) := by decide +kernel
theorem dX10_plainMark_57 : decode cX10_plainMark 57 = .ok (.imul, 1) := by decide +kernel
theorem dX10_plainMark_58 : decode cX10_plainMark 58 = .ok (.goto 17, 3) := by decide +kernel
theorem dX10_plainMark_61 : decode cX10_plainMark 61 = .ok (.iload_n 2, 1) := by decide +kernel
theorem dX10_plainMark_62 : decode cX10_plainMark 62 = .ok (.iconst 3, 1) := by decide +kernel
theorem dX10_plainMark_63 : decode cX10_plainMark 63 = .ok (.if_icmp .ne 11, 3) := by decide +kernel
theorem dX10_plainMark_66 : decode cX10_plainMark 66 = .ok (.iload_n 3, 1) := by decide +kernel
theorem dX10_plainMark_67 : decode cX10_plainMark 67 = .ok (.sipush 1000, 3) := by decide +kernel
theorem dX10_plainMark_70 : decode cX10_plainMark 70 = .ok (.isub, 1) := by decide +kernel
theorem dX10_plainMark_71 : decode cX10_plainMark 71 = .ok (.goto 4, 3) := by decide +kernel
theorem dX10_plainMark_74 : decode cX10_plainMark 74 = .ok (.iload_n 3, 1) := by decide +kernel
theorem dX10_plainMark_75 : decode cX10_plainMark 75 = .ok (.ireturn, 1) := by decide +kernel
theorem dX10_guestSize_0 : decode cX10_guestSize 0 = .ok (.aload_n 0, 1) := by decide +kernel
theorem dX10_guestSize_1 : decode cX10_guestSize 1 = .ok (.iload_n 1, 1) := by decide +kernel
theorem dX10_guestSize_2 : decode cX10_guestSize 2 = .ok (.invokevirtual 242, 3) := by decide +kernel
theorem dX10_guestSize_5 : decode cX10_guestSize 5 = .ok (.iconst 5, 1) := by decide +kernel
theorem dX10_guestSize_6 : decode cX10_guestSize 6 = .ok (.if_icmp .ne 7, 3) := by decide +kernel
theorem dX10_guestSize_9 : decode cX10_guestSize 9 = .ok (.iconst 1, 1) := by decide +kernel
theorem dX10_guestSize_10 : decode cX10_guestSize 10 = .ok (.goto 4, 3) := by decide +kernel
theorem dX10_guestSize_13 : decode cX10_guestSize 13 = .ok (.iconst 0, 1) := by decide +kernel
theorem dX10_guestSize_14 : decode cX10_guestSize 14 = .ok (.istore_n 2, 1) := by decide +kernel
theorem dX10_guestSize_15 : decode cX10_guestSize 15 = .ok (.iload_n 2, 1) := by decide +kernel
theorem dX10_guestSize_16 : decode cX10_guestSize 16 = .ok (.ifCond .eq 9, 3) := by decide +kernel
theorem dX10_guestSize_19 : decode cX10_guestSize 19 = .ok (.aload_n 0, 1) := by decide +kernel
theorem dX10_guestSize_20 : decode cX10_guestSize 20 = .ok (.bipush 14, 2) := by decide +kernel
theorem dX10_guestSize_22 : decode cX10_guestSize 22 = .ok (.invokevirtual 248, 3) := by decide +kernel
theorem dX10_guestSize_25 : decode cX10_guestSize 25 = .ok (.aload_n 0, 1) := by decide +kernel
theorem dX10_guestSize_26 : decode cX10_guestSize 26 = .ok (.bipush 13, 2) := by decide +kernel
theorem dX10_guestSize_28 : decode cX10_guestSize 28 = .ok (.invokevirtual 248, 3) := by decide +kernel
theorem dX10_guestSize_31 : decode cX10_guestSize 31 = .ok (.aload_n 0, 1) := by decide +kernel
theorem dX10_guestSize_32 : decode cX10_guestSize 32 = .ok (.bipush 10, 2) := by decide +kernel
theorem dX10_guestSize_34 : decode cX10_guestSize 34 = .ok (.invokevirtual 248, 3) := by decide +kernel
theorem dX10_guestSize_37 : decode cX10_guestSize 37 = .ok (.aload_n 0, 1) := by decide +kernel
theorem dX10_guestSize_38 : decode cX10_guestSize 38 = .ok (.getfield 25, 3) := by decide +kernel
theorem dX10_guestSize_41 : decode cX10_guestSize 41 = .ok (.bipush 44, 2) := by decide +kernel
theorem dX10_guestSize_43 : decode cX10_guestSize 43 = .ok (.bipush 10, 2) := by decide +kernel
theorem dX10_guestSize_45 : decode cX10_guestSize 45 = .ok (.iload_n 1, 1) := by decide +kernel
theorem dX10_guestSize_46 : decode cX10_guestSize 46 = .ok (.imul, 1) := by decide +kernel
theorem dX10_guestSize_47 : decode cX10_guestSize 47 = .ok (.iadd, 1) := by decide +kernel
theorem dX10_guestSize_48 : decode cX10_guestSize 48 = .ok (.iconst 2, 1) := by decide +kernel
theorem dX10_guestSize_49 : decode cX10_guestSize 49 = .ok (.iadd, 1) := by decide +kernel
theorem dX10_guestSize_50 : decode cX10_guestSize 50 = .ok (.iaload, 1) := by decide +kernel
theorem dX10_guestSize_51 : decode cX10_guestSize 51 = .ok (.bipush 100, 2) := by decide +kernel
theorem dX10_guestSize_53 : decode cX10_guestSize 53 = .ok (.isub, 1) := by decide +kernel
theorem dX10_guestSize_54 : decode cX10_guestSize 54 = .ok (.istore_n 3, 1) := by decide +kernel
theorem dX10_guestSize_55 : decode cX10_guestSize 55 = .ok (.iload_n 2, 1) := by decide +kernel
theorem dX10_guestSize_56 : decode cX10_guestSize 56 = .ok (.ifCond .eq 9, 3) := by decide +kernel
theorem dX10_guestSize_59 : decode cX10_guestSize 59 = .ok (.iconst 2, 1) := by decide +kernel
theorem dX10_guestSize_60 : decode cX10_guestSize 60 = .ok (.iload_n 3, 1) := by decide +kernel
theorem dX10_guestSize_61 : decode cX10_guestSize 61 = .ok (.imul, 1) := by decide +kernel
theorem dX10_guestSize_62 : decode cX10_guestSize 62 = .ok (.goto 4, 3) := by decide +kernel
theorem dX10_guestSize_65 : decode cX10_guestSize 65 = .ok (.iload_n 3, 1) := by decide +kernel
theorem dX10_guestSize_66 : decode cX10_guestSize 66 = .ok (.ireturn, 1) := by decide +kernel
theorem dX10_plainSize_0 : decode cX10_plainSize 0 = .ok (.aload_n 0, 1) := by decide +kernel
theorem dX10_plainSize_1 : decode cX10_plainSize 1 = .ok (.iload_n 1, 1) := by decide +kernel
theorem dX10_plainSize_2 : decode cX10_plainSize 2 = .ok (.invokevirtual 242, 3) := by decide +kernel
theorem dX10_plainSize_5 : decode cX10_plainSize 5 = .ok (.iconst 2, 1) := by decide +kernel
theorem dX10_plainSize_6 : decode cX10_plainSize 6 = .ok (.if_icmp .ne 7, 3) := by decide +kernel
theorem dX10_plainSize_9 : decode cX10_plainSize 9 = .ok (.iconst 1, 1) := by decide +kernel
theorem dX10_plainSize_10 : decode cX10_plainSize 10 = .ok (.goto 4, 3) := by decide +kernel
theorem dX10_plainSize_13 : decode cX10_plainSize 13 = .ok (.iconst 0, 1) := by decide +kernel
theorem dX10_plainSize_14 : decode cX10_plainSize 14 = .ok (.istore_n 2, 1) := by decide +kernel
theorem dX10_plainSize_15 : decode cX10_plainSize 15 = .ok (.iload_n 2, 1) := by decide +kernel
theorem dX10_plainSize_16 : decode cX10_plainSize 16 = .ok (.ifCond .eq 9, 3) := by decide +kernel
theorem dX10_plainSize_19 : decode cX10_plainSize 19 = .ok (.aload_n 0, 1) := by decide +kernel
theorem dX10_plainSize_20 : decode cX10_plainSize 20 = .ok (.bipush 12, 2) := by decide +kernel
theorem dX10_plainSize_22 : decode cX10_plainSize 22 = .ok (.invokevirtual 248, 3) := by decide +kernel
theorem dX10_plainSize_25 : decode cX10_plainSize 25 = .ok (.aload_n 0, 1) := by decide +kernel
theorem dX10_plainSize_26 : decode cX10_plainSize 26 = .ok (.bipush 11, 2) := by decide +kernel
theorem dX10_plainSize_28 : decode cX10_plainSize 28 = .ok (.invokevirtual 248, 3) := by decide +kernel
theorem dX10_plainSize_31 : decode cX10_plainSize 31 = .ok (.aload_n 0, 1) := by decide +kernel
theorem dX10_plainSize_32 : decode cX10_plainSize 32 = .ok (.bipush 10, 2) := by decide +kernel
theorem dX10_plainSize_34 : decode cX10_plainSize 34 = .ok (.invokevirtual 248, 3) := by decide +kernel
theorem dX10_plainSize_37 : decode cX10_plainSize 37 = .ok (.aload_n 0, 1) := by decide +kernel
theorem dX10_plainSize_38 : decode cX10_plainSize 38 = .ok (.getfield 25, 3) := by decide +kernel
theorem dX10_plainSize_41 : decode cX10_plainSize 41 = .ok (.bipush 44, 2) := by decide +kernel
theorem dX10_plainSize_43 : decode cX10_plainSize 43 = .ok (.bipush 10, 2) := by decide +kernel
theorem dX10_plainSize_45 : decode cX10_plainSize 45 = .ok (.iload_n 1, 1) := by decide +kernel
theorem dX10_plainSize_46 : decode cX10_plainSize 46 = .ok (.imul, 1) := by decide +kernel
theorem dX10_plainSize_47 : decode cX10_plainSize 47 = .ok (.iadd, 1) := by decide +kernel
theorem dX10_plainSize_48 : decode cX10_plainSize 48 = .ok (.iconst 2, 1) := by decide +kernel
theorem dX10_plainSize_49 : decode cX10_plainSize 49 = .ok (.iadd, 1) := by decide +kernel
theorem dX10_plainSize_50 : decode cX10_plainSize 50 = .ok (.iaload, 1) := by decide +kernel
theorem dX10_plainSize_51 : decode cX10_plainSize 51 = .ok (.aload_n 0, 1) := by decide +kernel
theorem dX10_plainSize_52 : decode cX10_plainSize 52 = .ok (.iload_n 1, 1) := by decide +kernel
theorem dX10_plainSize_53 : decode cX10_plainSize 53 = .ok (.invokevirtual 251, 3) := by decide +kernel
theorem dX10_plainSize_56 : decode cX10_plainSize 56 = .ok (.iadd, 1) := by decide +kernel
theorem dX10_plainSize_57 : decode cX10_plainSize 57 = .ok (.istore_n 3, 1) := by decide +kernel
theorem dX10_plainSize_58 : decode cX10_plainSize 58 = .ok (.iload_n 2, 1) := by decide +kernel
theorem dX10_plainSize_59 : decode cX10_plainSize 59 = .ok (.ifCond .eq 8, 3) := by decide +kernel
theorem dX10_plainSize_62 : decode cX10_plainSize 62 = .ok (.iload_n 3, 1) := by decide +kernel
theorem dX10_plainSize_63 : decode cX10_plainSize 63 = .ok (.ineg, 1) := by decide +kernel
theorem dX10_plainSize_64 : decode cX10_plainSize 64 = .ok (.goto 4, 3) := by decide +kernel
theorem dX10_plainSize_67 : decode cX10_plainSize 67 = .ok (.iload_n 3, 1) := by decide +kernel
theorem dX10_plainSize_68 : decode cX10_plainSize 68 = .ok (.ireturn, 1) := by decide +kernel
theorem dX10_guestMark_0 : decode cX10_guestMark 0 = .ok (.aload_n 0, 1) := by decide +kernel
theorem dX10_guestMark_1 : decode cX10_guestMark 1 = .ok (.bipush 23, 2) := by decide +kernel
theorem dX10_guestMark_3 : decode cX10_guestMark 3 = .ok (.invokevirtual 248, 3) := by decide +kernel
theorem dX10_guestMark_6 : decode cX10_guestMark 6 = .ok (.aload_n 0, 1) := by decide +kernel
theorem dX10_guestMark_7 : decode cX10_guestMark 7 = .ok (.bipush 20, 2) := by decide +kernel
theorem dX10_guestMark_9 : decode cX10_guestMark 9 = .ok (.invokevirtual 248, 3) := by decide +kernel
theorem dX10_guestMark_12 : decode cX10_guestMark 12 = .ok (.iload_n 1, 1) := by decide +kernel
theorem dX10_guestMark_13 : decode cX10_guestMark 13 = .ok (.aload_n 0, 1) := by decide +kernel
theorem dX10_guestMark_14 : decode cX10_guestMark 14 = .ok (.iload_n 1, 1) := by decide +kernel
theorem dX10_guestMark_15 : decode cX10_guestMark 15 = .ok (.invokevirtual 254, 3) := by decide +kernel
theorem dX10_guestMark_18 : decode cX10_guestMark 18 = .ok (.isub, 1) := by decide +kernel
theorem dX10_guestMark_19 : decode cX10_guestMark 19 = .ok (.ireturn, 1) := by decide +kernel
theorem dX10_ask_0 : decode cX10_ask 0 = .ok (.aload_n 0, 1) := by decide +kernel
theorem dX10_ask_1 : decode cX10_ask 1 = .ok (.iload_n 1, 1) := by decide +kernel
theorem dX10_ask_2 : decode cX10_ask 2 = .ok (.invokevirtual 202, 3) := by decide +kernel
theorem dX10_ask_5 : decode cX10_ask 5 = .ok (.ifCond .eq 12, 3) := by decide +kernel
theorem dX10_ask_8 : decode cX10_ask 8 = .ok (.iload_n 2, 1) := by decide +kernel
theorem dX10_ask_9 : decode cX10_ask 9 = .ok (.iconst 0, 1) := by decide +kernel
theorem dX10_ask_10 : decode cX10_ask 10 = .ok (.iconst 1, 1) := by decide +kernel
theorem dX10_ask_11 : decode cX10_ask 11 = .ok (.invokestatic 62, 3) := by decide +kernel
theorem dX10_ask_14 : decode cX10_ask 14 = .ok (.ifCond .ne 6, 3) := by decide +kernel
theorem dX10_ask_17 : decode cX10_ask 17 = .ok (.ldc 70, 2) := by decide +kernel
theorem dX10_ask_19 : decode cX10_ask 19 = .ok (.ireturn, 1) := by decide +kernel
theorem dX10_ask_20 : decode cX10_ask 20 = .ok (.aload_n 0, 1) := by decide +kernel
theorem dX10_ask_21 : decode cX10_ask 21 = .ok (.iconst 0, 1) := by decide +kernel
theorem dX10_ask_22 : decode cX10_ask 22 = .ok (.putfield 245, 3) := by decide +kernel
theorem dX10_ask_25 : decode cX10_ask 25 = .ok (.aload_n 0, 1) := by decide +kernel
theorem dX10_ask_26 : decode cX10_ask 26 = .ok (.iload_n 1, 1) := by decide +kernel
theorem dX10_ask_27 : decode cX10_ask 27 = .ok (.invokevirtual 242, 3) := by decide +kernel
theorem dX10_ask_30 : decode cX10_ask 30 = .ok (.iconst 4, 1) := by decide +kernel
theorem dX10_ask_31 : decode cX10_ask 31 = .ok (.if_icmp .lt 7, 3) := by decide +kernel
theorem dX10_ask_34 : decode cX10_ask 34 = .ok (.iconst 1, 1) := by decide +kernel
theorem dX10_ask_35 : decode cX10_ask 35 = .ok (.goto 4, 3) := by decide +kernel
theorem dX10_ask_38 : decode cX10_ask 38 = .ok (.iconst 0, 1) := by decide +kernel
theorem dX10_ask_39 : decode cX10_ask 39 = .ok (.istore_n 3, 1) := by decide +kernel
theorem dX10_ask_40 : decode cX10_ask 40 = .ok (.iload_n 2, 1) := by decide +kernel
theorem dX10_ask_41 : decode cX10_ask 41 = .ok (.ifCond .ne 21, 3) := by decide +kernel
theorem dX10_ask_44 : decode cX10_ask 44 = .ok (.iload_n 3, 1) := by decide +kernel
theorem dX10_ask_45 : decode cX10_ask 45 = .ok (.ifCond .eq 11, 3) := by decide +kernel
theorem dX10_ask_48 : decode cX10_ask 48 = .ok (.aload_n 0, 1) := by decide +kernel
theorem dX10_ask_49 : decode cX10_ask 49 = .ok (.iload_n 1, 1) := by decide +kernel
theorem dX10_ask_50 : decode cX10_ask 50 = .ok (.invokevirtual 254, 3) := by decide +kernel
theorem dX10_ask_53 : decode cX10_ask 53 = .ok (.goto 8, 3) := by decide +kernel
theorem dX10_ask_56 : decode cX10_ask 56 = .ok (.aload_n 0, 1) := by decide +kernel
theorem dX10_ask_57 : decode cX10_ask 57 = .ok (.iload_n 1, 1) := by decide +kernel
theorem dX10_ask_58 : decode cX10_ask 58 = .ok (.invokevirtual 257, 3) := by decide +kernel
theorem dX10_ask_61 : decode cX10_ask 61 = .ok (.ireturn, 1) := by decide +kernel
theorem dX10_ask_62 : decode cX10_ask 62 = .ok (.iload_n 3, 1) := by decide +kernel
theorem dX10_ask_63 : decode cX10_ask 63 = .ok (.ifCond .eq 11, 3) := by decide +kernel
theorem dX10_ask_66 : decode cX10_ask 66 = .ok (.aload_n 0, 1) := by decide +kernel
theorem dX10_ask_67 : decode cX10_ask 67 = .ok (.iload_n 1, 1) := by decide +kernel
theorem dX10_ask_68 : decode cX10_ask 68 = .ok (.invokevirtual 260, 3) := by decide +kernel
theorem dX10_ask_71 : decode cX10_ask 71 = .ok (.goto 8, 3) := by decide +kernel
theorem dX10_ask_74 : decode cX10_ask 74 = .ok (.aload_n 0, 1) := by decide +kernel
theorem dX10_ask_75 : decode cX10_ask 75 = .ok (.iload_n 1, 1) := by decide +kernel
theorem dX10_ask_76 : decode cX10_ask 76 = .ok (.invokevirtual 251, 3) := by decide +kernel
theorem dX10_ask_79 : decode cX10_ask 79 = .ok (.ireturn, 1) := by decide +kernel
theorem dX10_trace_0 : decode cX10_trace 0 = .ok (.iload_n 1, 1) := by decide +kernel
theorem dX10_trace_1 : decode cX10_trace 1 = .ok (.iconst 0, 1) := by decide +kernel
theorem dX10_trace_2 : decode cX10_trace 2 = .ok (.aload_n 0, 1) := by decide +kernel
theorem dX10_trace_3 : decode cX10_trace 3 = .ok (.getfield 245, 3) := by decide +kernel
theorem dX10_trace_6 : decode cX10_trace 6 = .ok (.iconst 1, 1) := by decide +kernel
theorem dX10_trace_7 : decode cX10_trace 7 = .ok (.isub, 1) := by decide +kernel
theorem dX10_trace_8 : decode cX10_trace 8 = .ok (.invokestatic 62, 3) := by decide +kernel
theorem dX10_trace_11 : decode cX10_trace 11 = .ok (.ifCond .eq 12, 3) := by decide +kernel
theorem dX10_trace_14 : decode cX10_trace 14 = .ok (.aload_n 0, 1) := by decide +kernel
theorem dX10_trace_15 : decode cX10_trace 15 = .ok (.getfield 53, 3) := by decide +kernel
theorem dX10_trace_18 : decode cX10_trace 18 = .ok (.iload_n 1, 1) := by decide +kernel
theorem dX10_trace_19 : decode cX10_trace 19 = .ok (.iaload, 1) := by decide +kernel
theorem dX10_trace_20 : decode cX10_trace 20 = .ok (.goto 5, 3) := by decide +kernel
theorem dX10_trace_23 : decode cX10_trace 23 = .ok (.ldc 56, 2) := by decide +kernel
theorem dX10_trace_25 : decode cX10_trace 25 = .ok (.ireturn, 1) := by decide +kernel
theorem dX10_count_0 : decode cX10_count 0 = .ok (.iconst 0, 1) := by decide +kernel
theorem dX10_count_1 : decode cX10_count 1 = .ok (.istore_n 2, 1) := by decide +kernel
theorem dX10_count_2 : decode cX10_count 2 = .ok (.iload_n 1, 1) := by decide +kernel
theorem dX10_count_3 : decode cX10_count 3 = .ok (.tableswitch 146 0 8 #[49, 81, 88, 95, 102, 121, 128, 136, 141], 49) := by decide +kernel
theorem dX10_count_52 : decode cX10_count 52 = .ok (.iconst 0, 1) := by decide +kernel
theorem dX10_count_53 : decode cX10_count 53 = .ok (.istore_n 3, 1) := by decide +kernel
theorem dX10_count_54 : decode cX10_count 54 = .ok (.iload_n 3, 1) := by decide +kernel
theorem dX10_count_55 : decode cX10_count 55 = .ok (.bipush 8, 2) := by decide +kernel
theorem dX10_count_57 : decode cX10_count 57 = .ok (.if_icmp .ge 25, 3) := by decide +kernel
theorem dX10_count_60 : decode cX10_count 60 = .ok (.iload_n 2, 1) := by decide +kernel
theorem dX10_count_61 : decode cX10_count 61 = .ok (.aload_n 0, 1) := by decide +kernel
theorem dX10_count_62 : decode cX10_count 62 = .ok (.iload_n 3, 1) := by decide +kernel
theorem dX10_count_63 : decode cX10_count 63 = .ok (.invokevirtual 78, 3) := by decide +kernel
theorem dX10_count_66 : decode cX10_count 66 = .ok (.ifCond .eq 7, 3) := by decide +kernel
theorem dX10_count_69 : decode cX10_count 69 = .ok (.iconst 0, 1) := by decide +kernel
theorem dX10_count_70 : decode cX10_count 70 = .ok (.goto 4, 3) := by decide +kernel
theorem dX10_count_73 : decode cX10_count 73 = .ok (.iconst 1, 1) := by decide +kernel
theorem dX10_count_74 : decode cX10_count 74 = .ok (.iadd, 1) := by decide +kernel
theorem dX10_count_75 : decode cX10_count 75 = .ok (.istore_n 2, 1) := by decide +kernel
theorem dX10_count_76 : decode cX10_count 76 = .ok (.iinc 3 1, 3) := by decide +kernel
theorem dX10_count_79 : decode cX10_count 79 = .ok (.goto (-25), 3) := by decide +kernel
theorem dX10_count_82 : decode cX10_count 82 = .ok (.iload_n 2, 1) := by decide +kernel
theorem dX10_count_83 : decode cX10_count 83 = .ok (.ireturn, 1) := by decide +kernel
theorem dX10_count_84 : decode cX10_count 84 = .ok (.aload_n 0, 1) := by decide +kernel
theorem dX10_count_85 : decode cX10_count 85 = .ok (.getfield 25, 3) := by decide +kernel
theorem dX10_count_88 : decode cX10_count 88 = .ok (.iconst 0, 1) := by decide +kernel
theorem dX10_count_89 : decode cX10_count 89 = .ok (.iaload, 1) := by decide +kernel
theorem dX10_count_90 : decode cX10_count 90 = .ok (.ireturn, 1) := by decide +kernel
theorem dX10_count_91 : decode cX10_count 91 = .ok (.aload_n 0, 1) := by decide +kernel
theorem dX10_count_92 : decode cX10_count 92 = .ok (.getfield 25, 3) := by decide +kernel
theorem dX10_count_95 : decode cX10_count 95 = .ok (.iconst 1, 1) := by decide +kernel
theorem dX10_count_96 : decode cX10_count 96 = .ok (.iaload, 1) := by decide +kernel
theorem dX10_count_97 : decode cX10_count 97 = .ok (.ireturn, 1) := by decide +kernel
theorem dX10_count_98 : decode cX10_count 98 = .ok (.aload_n 0, 1) := by decide +kernel
theorem dX10_count_99 : decode cX10_count 99 = .ok (.getfield 25, 3) := by decide +kernel
theorem dX10_count_102 : decode cX10_count 102 = .ok (.iconst 2, 1) := by decide +kernel
theorem dX10_count_103 : decode cX10_count 103 = .ok (.iaload, 1) := by decide +kernel
theorem dX10_count_104 : decode cX10_count 104 = .ok (.ireturn, 1) := by decide +kernel
theorem dX10_count_105 : decode cX10_count 105 = .ok (.aload_n 0, 1) := by decide +kernel
theorem dX10_count_106 : decode cX10_count 106 = .ok (.invokevirtual 179, 3) := by decide +kernel
theorem dX10_count_109 : decode cX10_count 109 = .ok (.ifCond .eq 13, 3) := by decide +kernel
theorem dX10_count_112 : decode cX10_count 112 = .ok (.aload_n 0, 1) := by decide +kernel
theorem dX10_count_113 : decode cX10_count 113 = .ok (.getfield 25, 3) := by decide +kernel
theorem dX10_count_116 : decode cX10_count 116 = .ok (.invokestatic 157, 3) := by decide +kernel
theorem dX10_count_119 : decode cX10_count 119 = .ok (.goto 4, 3) := by decide +kernel
theorem dX10_count_122 : decode cX10_count 122 = .ok (.iconst 0, 1) := by decide +kernel
theorem dX10_count_123 : decode cX10_count 123 = .ok (.ireturn, 1) := by decide +kernel
theorem dX10_count_124 : decode cX10_count 124 = .ok (.aload_n 0, 1) := by decide +kernel
theorem dX10_count_125 : decode cX10_count 125 = .ok (.getfield 25, 3) := by decide +kernel
theorem dX10_count_128 : decode cX10_count 128 = .ok (.iconst 3, 1) := by decide +kernel
theorem dX10_count_129 : decode cX10_count 129 = .ok (.iaload, 1) := by decide +kernel
theorem dX10_count_130 : decode cX10_count 130 = .ok (.ireturn, 1) := by decide +kernel
theorem dX10_count_131 : decode cX10_count 131 = .ok (.aload_n 0, 1) := by decide +kernel
theorem dX10_count_132 : decode cX10_count 132 = .ok (.getfield 25, 3) := by decide +kernel
theorem dX10_count_135 : decode cX10_count 135 = .ok (.invokestatic 224, 3) := by decide +kernel
theorem dX10_count_138 : decode cX10_count 138 = .ok (.ireturn, 1) := by decide +kernel
theorem dX10_count_139 : decode cX10_count 139 = .ok (.aload_n 0, 1) := by decide +kernel
theorem dX10_count_140 : decode cX10_count 140 = .ok (.getfield 150, 3) := by decide +kernel
theorem dX10_count_143 : decode cX10_count 143 = .ok (.ireturn, 1) := by decide +kernel
theorem dX10_count_144 : decode cX10_count 144 = .ok (.aload_n 0, 1) := by decide +kernel
theorem dX10_count_145 : decode cX10_count 145 = .ok (.getfield 88, 3) := by decide +kernel
theorem dX10_count_148 : decode cX10_count 148 = .ok (.ireturn, 1) := by decide +kernel
theorem dX10_count_149 : decode cX10_count 149 = .ok (.ldc 70, 2) := by decide +kernel
theorem dX10_count_151 : decode cX10_count 151 = .ok (.ireturn, 1) := by decide +kernel
theorem dX10_status_0 : decode cX10_status 0 = .ok (.aload_n 0, 1) := by decide +kernel
theorem dX10_status_1 : decode cX10_status 1 = .ok (.getfield 57, 3) := by decide +kernel
theorem dX10_status_4 : decode cX10_status 4 = .ok (.ireturn, 1) := by decide +kernel
end
section
/-! THE PURE MACHINE: the heap from the base on as numbered cells with ints (I) and references to cells (P); rows over it -/
def pm_tb : List Cond := lw_tbl.filter goodWord
theorem pm_tb_mem {w : Cond} (h : w ∈ lw_tbl) (g : goodWord w = true) : w ∈ pm_tb := List.mem_filter.mpr ⟨h, g⟩
theorem pm_tb_t {w : Cond} (i : Nat) (h : tables_1[i]? = some w) (g : goodWord w = true) : w ∈ pm_tb := pm_tb_mem (List.mem_append_right _ (List.mem_of_getElem? h)) g
theorem pm_tb_s {w : Cond} (i : Nat) (h : (k2_sels lw_privs)[i]? = some w) (g : goodWord w = true) : w ∈ pm_tb := pm_tb_mem (List.mem_append_left _ (List.mem_of_getElem? h)) g
theorem pm_tb_good {w : Cond} (h : w ∈ pm_tb) : (w.onTables && w.keeps) = true ∨ ∃ ty, w = .arrayClass ty := good_of_word (List.mem_filter.mp h).2
/-- launch, base, classes and slots, array classes, the static tables' addresses -/
abbrev pmE : Type := Launch × Nat × va_G × (Nat → ClassId) × (Nat → Nat)
/-- how many cells, the kind of each, the length of each -/
abbrev pmS : Type := Nat × (Nat → Nat) × (Nat → Nat)
abbrev pmI : Type := Nat → Nat → Int32
abbrev pmP : Type := Nat → Nat → Option Nat
/-- which fields of a class are ints -/
def pm_ts (c : Nat) : List Bool := match c with
  | 0 => [false, true, true]
  | 1 => [false, false, false, true, true, true]
  | 2 => [false, false, false, false, false, false, false, false, true]
  | 3 => [false, true, true]
  | 4 => [false, false, true]
  | 5 => [false, false, false, true, true, true, true, true, true, true, true]
  | 6 => [false, true, true, true]
  | 7 => [false, true, true, true, true]
  | 8 => [false, false, true]
  | 9 => [false, false, false, false, false, false, false, false, true]
  | 10 => [false, false, false, false, true, false, true, true, true, true, true, true, true, false, false, false, false, true, false, false, false, false, false, false, true]
  | _ => []
def pm_rv (E : pmE) (o : Option Nat) : Option Nat := o.map (fun q => E.2.1 + q)
def pm_fv (E : pmE) (c : Nat) (I : pmI) (P : pmP) (a j : Nat) : Value := if (pm_ts c).getD j true = true then .int (I a j) else va_rf (pm_rv E (P a j))
def pm_fs (E : pmE) (c : Nat) (I : pmI) (P : pmP) (a : Nat) : List Value := (List.range (pm_ts c).length).map (pm_fv E c I P a)
def pm_cell (E : pmE) (S : pmS) (I : pmI) (P : pmP) (k : Nat) : va_E :=
  if S.2.1 k < 11 then .inr (S.2.1 k, pm_fs E (S.2.1 k) I P k)
  else if S.2.1 k < 13 then .inl (E.2.2.2.1 (S.2.1 k), S.2.2 k, .inl (I k))
  else .inl (E.2.2.2.1 (S.2.1 k), S.2.2 k, .inr (.inr (.inr (.inr (fun j => pm_rv E (P k j))))))
def pm_w (E : pmE) (S : pmS) (I : pmI) (P : pmP) : va_W := (List.range S.1).map (fun k => (E.2.1 + k, pm_cell E S I P k))
def pm_A (E : pmE) : Nat → Prop := fun q => E.2.1 ≤ q
theorem pm_w_get {E : pmE} {S : pmS} {I : pmI} {P : pmP} {k : Nat} (h : k < S.1) : (pm_w E S I P)[k]? = some (E.2.1 + k, pm_cell E S I P k) := by
  simp [pm_w, h]
theorem pm_w_D {E : pmE} {S : pmS} {I : pmI} {P : pmP} : va_D (pm_A E) (pm_w E S I P) := by
  have key : ∀ (i : Nat) (q : Nat × va_E), (pm_w E S I P)[i]? = some q → q.1 = E.2.1 + i := by
    intro i q h
    by_cases hi : i < S.1
    · rw [pm_w_get hi] at h
      cases h
      rfl
    · rw [List.getElem?_eq_none (by simp [pm_w]; omega)] at h
      cases h
  refine ⟨fun i j p q hp hq e => ?_, fun k q h => ?_⟩
  · have h1 := key i p hp
    have h2 := key j q hq
    omega
  · have h1 := key k q h
    show E.2.1 ≤ q.1
    omega
theorem pm_w_set {E : pmE} {S : pmS} {I I' : pmI} {P P' : pmP} {k : Nat} {e : va_E} (he : pm_cell E S I' P' k = e) (ho : ∀ j, j ≠ k → pm_cell E S I' P' j = pm_cell E S I P j) : (pm_w E S I P).set k (E.2.1 + k, e) = pm_w E S I' P' := by
  apply List.ext_getElem?
  intro i
  by_cases hi : i < S.1
  · rw [pm_w_get hi, List.getElem?_set]
    by_cases hk : k = i
    · subst hk
      simp [pm_w, hi, he]
    · rw [if_neg hk, pm_w_get hi, ho i (fun q => hk q.symm)]
  · rw [List.getElem?_eq_none (by simp [pm_w]; omega), List.getElem?_eq_none (by simp [pm_w]; omega)]
theorem pm_cell_o {E : pmE} {S : pmS} {I : pmI} {P : pmP} {k c : Nat} (h : S.2.1 k = c) (hc : c < 11) : pm_cell E S I P k = .inr (c, pm_fs E c I P k) := by
  subst h
  simp [pm_cell, hc]
theorem pm_cell_i {E : pmE} {S : pmS} {I : pmI} {P : pmP} {k c n : Nat} (h : S.2.1 k = c) (hc : ¬ c < 11) (hc' : c < 13) (hn : S.2.2 k = n) : pm_cell E S I P k = .inl (E.2.2.2.1 c, n, .inl (I k)) := by
  subst h hn
  simp [pm_cell, hc, hc']
theorem pm_cell_q {E : pmE} {S : pmS} {I : pmI} {P : pmP} {k c n : Nat} (h : S.2.1 k = c) (hc : ¬ c < 13) (hn : S.2.2 k = n) : pm_cell E S I P k = .inl (E.2.2.2.1 c, n, .inr (.inr (.inr (.inr (fun j => pm_rv E (P k j)))))) := by
  subst h hn
  have h1 : ¬ S.2.1 k < 11 := by omega
  simp [pm_cell, h1, hc]
theorem pm_cell_I {E : pmE} {S : pmS} {I : pmI} {P : pmP} {k j : Nat} {f : Nat → Int32} (h : j ≠ k) : pm_cell E S (va_up I k f) P j = pm_cell E S I P j := by
  have e : pm_fv E (S.2.1 j) (va_up I k f) P j = pm_fv E (S.2.1 j) I P j := by funext i; simp [pm_fv, va_up_ne I f h]
  simp [pm_cell, pm_fs, e, va_up_ne I f h]
theorem pm_cell_P {E : pmE} {S : pmS} {I : pmI} {P : pmP} {k j : Nat} {f : Nat → Option Nat} (h : j ≠ k) : pm_cell E S I (va_up P k f) j = pm_cell E S I P j := by
  have e : pm_fv E (S.2.1 j) I (va_up P k f) j = pm_fv E (S.2.1 j) I P j := by funext i; simp [pm_fv, va_up_ne P f h]
  simp [pm_cell, pm_fs, e, va_up_ne P f h]
theorem pm_fs_get {E : pmE} {c : Nat} {I : pmI} {P : pmP} {a k : Nat} (h : k < (pm_ts c).length) : (pm_fs E c I P a)[k]? = some (pm_fv E c I P a k) := by
  simp [pm_fs, h]
theorem pm_fs_setI {E : pmE} {c : Nat} {I : pmI} {P : pmP} {a k : Nat} {v : Int32} (ht : (pm_ts c).getD k true = true) : (pm_fs E c I P a).set k (.int v) = pm_fs E c (va_up I a (va_up (I a) k v)) P a := by
  apply List.ext_getElem?
  intro i
  by_cases hi : i < (pm_ts c).length
  · rw [pm_fs_get hi, List.getElem?_set]
    by_cases hk : k = i
    · subst hk
      simp only [pm_fs, List.length_map, List.length_range, hi, if_true, pm_fv, ht, va_up_self]
    · rw [if_neg hk, pm_fs_get hi]
      simp only [pm_fv, va_up_self]
      rw [va_up_ne (I a) v (fun q => hk q.symm)]
  · rw [List.getElem?_eq_none (by simp [pm_fs]; omega), List.getElem?_eq_none (by simp [pm_fs]; omega)]
theorem pm_fs_setP {E : pmE} {c : Nat} {I : pmI} {P : pmP} {a k : Nat} {q : Option Nat} (ht : (pm_ts c).getD k true = false) : (pm_fs E c I P a).set k (va_rf (pm_rv E q)) = pm_fs E c I (va_up P a (va_up (P a) k q)) a := by
  apply List.ext_getElem?
  intro i
  by_cases hi : i < (pm_ts c).length
  · rw [pm_fs_get hi, List.getElem?_set]
    by_cases hk : k = i
    · subst hk
      simp only [pm_fs, List.length_map, List.length_range, hi, if_true, pm_fv, ht, va_up_self, Bool.false_eq_true, if_false]
    · rw [if_neg hk, pm_fs_get hi]
      simp only [pm_fv, va_up_self]
      rw [va_up_ne (P a) q (fun q => hk q.symm)]
  · rw [List.getElem?_eq_none (by simp [pm_fs]; omega), List.getElem?_eq_none (by simp [pm_fs]; omega)]
def pm_tys (E : pmE) : List (ClassId × FieldType) := [(E.2.2.2.1 11, .int), (E.2.2.2.1 12, .boolean), (E.2.2.2.1 13, .object RX1), (E.2.2.2.1 14, .object RX4), (E.2.2.2.1 15, .object RX6), (E.2.2.2.1 16, .object RX7)]
def pm_K (E : pmE) (U : State) : Prop := va_K E.2.2.1 vwCl (pm_tys E) U
def pm_t0 (j : Nat) : Int32 := match j with | 0 => -1 | 1 => 0 | 2 => 1 | 3 => 1 | 4 => 0 | _ => 4
def pm_t1 (j : Nat) : Int32 := match j with | 0 => 10 | 1 => 11 | 2 => 12 | 3 => 11 | 4 => 13 | _ => 14
def pm_t2 (j : Nat) : Int32 := match j with | 0 => 20 | 1 => 21 | 2 => 24 | 3 => 22 | 4 => 23 | _ => 23
def pm_st (i j : Nat) : Int32 := match i with | 0 => pm_t0 j | 1 => pm_t1 j | _ => pm_t2 j
def pm_sc (i : Nat) : String × String := match i with | 0 => ("TabTrails", "WIDER_KIND") | 1 => ("TabTrails$Asking", "SIZE_BODIES") | _ => ("TabTrails$Asking", "MARK_BODIES")
/-- the static tables -/
def pm_Z (E : pmE) (U : State) (H : Heap) : Prop := ∀ i : Nat, i < 3 → va_Z (pm_sc i).1 (pm_sc i).2 "[I" (.ref (E.2.2.2.2 i)) (pm_A E) U H ∧ va_T .int (E.2.2.2.2 i) 6 (fun j => .int (pm_st i j)) (pm_A E) U H
theorem pm_Z.moved {E : pmE} {u U : State} {H : Heap} (hvm : u.vm.Alike U.vm) (h : pm_Z E u H) : pm_Z E U H := fun i hi => ⟨va_Z.moved hvm (h i hi).1, va_T.moved hvm (h i hi).2⟩
theorem pm_Z.kept {E : pmE} {U : State} {H H1 : Heap} (h : pm_Z E U H) (hq : ∀ a : Nat, a < H.size → ¬ pm_A E a → H1[a]? = H[a]?) : pm_Z E U H1 := fun i hi => ⟨va_Z.kept (h i hi).1 hq, va_T.kept (h i hi).2 hq⟩
/-- the words that speak of nest mates, and of arrays over our classes -/
def pm_nm : List (String × Nat × MethodName × String) := [(RX9, 17, yX5_init, "TabTrails"), (RX5, 17, yX8_init, "TabTrails"), (RX1, 34, yX7_init, "TabTrails"), (RX9, 24, yX8_init, "TabTrails"), (RX2, 34, yX7_init, "TabTrails"), (RX2, 41, yX8_init, "TabTrails"), (RX9, 58, yX0_init, "TabTrails"), (RX9, 67, yX6_init, "TabTrails"), (RX9, 68, yX4_init, "TabTrails"), (RX4, 9, yX8_init, "TabTrails")]
def pm_N (U : State) : Prop := va_Nw (.fieldLinkNest RX7 37 "TabTrails" "WIDER_KIND" "[I" "TabTrails") U ∧ (∀ q ∈ pm_nm, va_Nw (.methodLinkNest q.1 q.2.1 q.2.2.1 q.2.2.2) U) ∧ (va_AO RX1 U ∧ va_AO RX4 U ∧ va_AO RX6 U ∧ va_AO RX7 U)
theorem pm_N.warm {s U : State} (hW : s.WarmedH U.vm) (h : pm_N s) : pm_N U := ⟨va_Nw.warmF hW h.1, fun q hq => va_Nw.warmM hW (h.2.1 q hq), h.2.2.1.moved hW.alike, h.2.2.2.1.moved hW.alike, h.2.2.2.2.1.moved hW.alike, h.2.2.2.2.2.moved hW.alike⟩
theorem pm_N.same {u U : State} (h : u.vm = U.vm) (hZ : pm_N u) : pm_N U := ⟨va_Nw.same rfl h hZ.1, fun q hq => va_Nw.same rfl h (hZ.2.1 q hq), hZ.2.2.1.moved (h ▸ Vm.Alike.refl _), hZ.2.2.2.1.moved (h ▸ Vm.Alike.refl _), hZ.2.2.2.2.1.moved (h ▸ Vm.Alike.refl _), hZ.2.2.2.2.2.moved (h ▸ Vm.Alike.refl _)⟩
def pm_H (E : pmE) (S : pmS) (I : pmI) (P : pmP) (H : Heap) : Prop := va_P E.2.2.1 vwCl (pm_w E S I P) H
/-- a method's end -/
def pm_Q (E : pmE) (n : Nat) (R : Option Value → pmS → pmI → pmP → Prop) : Array Value → State → Outcome → State → Prop := fun _ st oc t => (∃ (v : Option Value) (S : pmS) (I : pmI) (P : pmP), oc = .returned v ∧ R v S I P ∧ pm_H E S I P t.heap ∧ S.1 = n) ∧ va_F (pm_A E) st t
def pm_Pc (E : pmE) (as : List Value) (S : pmS) (I : pmI) (P : pmP) : Array Value → State → Prop := va_Pc as (fun U => U.heap.size = E.2.1 + S.1 ∧ pm_H E S I P U.heap ∧ pm_K E U ∧ pm_Z E U U.heap ∧ pm_N U)
def pm_room (d mc ms : Nat) : Room := { frames := d, cells := mc, slots := ms, locals := 40 * d }
/-- WHAT A CALL DOES: method y on as, from the cells S I P, with room for d frames and mc cells of ms slots, ends in R -/
def pmX (E : pmE) (d mc ms : Nat) (y : MethodName) (as : List Value) (S : pmS) (I : pmI) (P : pmP) (R : Option Value → pmS → pmI → pmP → Prop) : Prop :=
  ∃ (b : ByteArray) (maxL : Nat) (ret : Option FieldType), Cond.code y b maxL ret ∈ pm_tb ∧ maxL ≤ 21 ∧ (y.name = "<init>" → ret = none) ∧ Met E.1 y (Cond.code y b maxL ret :: pm_tb) (pm_room d mc ms) (pm_Pc E as S I P) (pm_Q E (S.1 + mc) R) mc ms (pm_A E)
/-- program, environment, room, start, method, its arguments, what lies below, method and code, goal -/
abbrev pmC : Type := Program × Env × Room × State × MethodId × Array Value × List Frame × Method × Code × (State → Prop)
abbrev pmC.p (C : pmC) : Program := C.1
abbrev pmC.e (C : pmC) : Env := C.2.1
abbrev pmC.R (C : pmC) : Room := C.2.2.1
abbrev pmC.s (C : pmC) : State := C.2.2.2.1
abbrev pmC.m (C : pmC) : MethodId := C.2.2.2.2.1
abbrev pmC.a (C : pmC) : Array Value := C.2.2.2.2.2.1
abbrev pmC.b (C : pmC) : List Frame := C.2.2.2.2.2.2.1
abbrev pmC.t (C : pmC) : Method := C.2.2.2.2.2.2.2.1
abbrev pmC.c (C : pmC) : Code := C.2.2.2.2.2.2.2.2.1
abbrev pmC.Q (C : pmC) : State → Prop := C.2.2.2.2.2.2.2.2.2
def pm_L (ls : Array Slot) (lv : List (Option Value)) : Prop := ls.size = lv.length ∧ lv_wf ls ∧ ∀ (i : Nat) (v : Value), lv[i]? = some (some v) → ls[i]? = some (.val v)
/-- THE MACHINE at pc, with locals lv, operand stack st, cells S I P comes to the goal -/
def pmZ (E : pmE) (C : pmC) (pc : Nat) (lv : List (Option Value)) (st : List Value) (S : pmS) (I : pmI) (P : pmP) (ca sl : Nat) : Prop :=
  ∀ (H : Heap) (locs : List Loc) (ls : Array Slot), pm_H E S I P H → va_S (pm_A E) C.s.heap H locs → pm_L ls lv → C.s.heap.size + ca = E.2.1 + S.1 → W C.p E.1 C.e C.R C.s C.m C.a C.b C.t C.c H locs ca sl C.Q (F0 C.m pc ls st)
/-- the ground that a walk stands on -/
def pm_G (E : pmE) (C : pmC) (own : String) (cc : ByteArray) (nL d mc ms : Nat) : Prop :=
  C.p.tables.exec = Jvm.exec ∧ C.c.code = cc ∧ C.c.maxLocals = nL ∧ C.s.vm.findClass own = some C.m.cls ∧ (∀ w ∈ pm_tb, w.before C.a C.s = true) ∧ pm_K E C.s ∧ pm_Z E C.s C.s.heap ∧ (d ≤ C.R.frames ∧ 40 * d ≤ C.R.locals ∧ C.R.cells = mc ∧ C.R.slots = ms) ∧ E.2.1 ≤ C.s.heap.size ∧ C.t.locks = false ∧ pm_N C.s
def pm_R (E : pmE) (C : pmC) (ret : Option FieldType) (n mc ms : Nat) (R : Option Value → pmS → pmI → pmP → Prop) : Prop :=
  C.t.sig.returnType = ret ∧ C.Q = MQ C.b (pm_Q E n R) C.a C.s mc ms (pm_A E) ∧ C.s.heap.size + mc = E.2.1 + n
theorem pm_L.get {ls : Array Slot} {lv : List (Option Value)} (h : pm_L ls lv) {i : Nat} {v : Value} (hv : lv[i]? = some (some v)) : ls[i]? = some (.val v) := h.2.2 i v hv
def pm_prs (lv : List (Option Value)) : List (Nat × Value) := (List.range lv.length).filterMap (fun i => (lv[i]?.join).map (fun v => (i, v)))
theorem pm_prs_mem {lv : List (Option Value)} {i : Nat} {v : Value} : (i, v) ∈ pm_prs lv ↔ lv[i]? = some (some v) := by
  constructor
  · intro h
    obtain ⟨j, hj, e⟩ := List.mem_filterMap.mp h
    cases hv : lv[j]? with
    | none => rw [hv] at e; cases e
    | some o =>
      cases o with
      | none => rw [hv] at e; cases e
      | some w =>
        rw [hv] at e
        cases e
        exact hv
  · intro h
    refine List.mem_filterMap.mpr ⟨i, List.mem_range.mpr (List.getElem?_eq_some_iff.mp h).1, ?_⟩
    rw [h]
    rfl
theorem pm_L.has {ls : Array Slot} {lv : List (Option Value)} (h : pm_L ls lv) : lv_has ls lv.length (pm_prs lv) := ⟨h.1, h.2.1, fun q hq => h.2.2 q.1 q.2 (pm_prs_mem.mp hq)⟩
/-- no long stands just ahead -/
def pm_ok (lv : List (Option Value)) (i : Nat) : Bool := match i with
  | 0 => true
  | j + 1 => match lv[j]? with
    | some (some v) => !(v.category == 2)
    | _ => true
theorem pm_L.set {ls : Array Slot} {lv : List (Option Value)} {i : Nat} {v : Value} (hi : i < lv.length) (hok : pm_ok lv i = true) (h : lv_has ls lv.length ((i, v) :: (pm_prs lv).filter (fun q => !(q.1 == i) && !(q.1 + 1 == i && q.2.category == 2)))) : pm_L ls (lv.set i (some v)) := by
  refine ⟨by rw [List.length_set]; exact h.1, h.2.1, fun j w hw => ?_⟩
  rw [List.getElem?_set] at hw
  by_cases hj : i = j
  · subst hj
    rw [if_pos rfl, if_pos hi] at hw
    cases hw
    exact h.2.2 (i, v) List.mem_cons_self
  · rw [if_neg hj] at hw
    refine h.2.2 (j, w) (List.mem_cons_of_mem _ (List.mem_filter.mpr ⟨pm_prs_mem.mpr hw, ?_⟩))
    have h1 : (j == i) = false := by simpa using fun q => hj q.symm
    simp only [h1, Bool.not_false, Bool.true_and]
    by_cases h2 : j + 1 = i
    · subst h2
      simp only [pm_ok, hw] at hok
      simpa using hok
    · simp [h2]
theorem pm_L.set2 {ls : Array Slot} {lv : List (Option Value)} {i : Nat} {v : Value} (hi : i + 1 < lv.length) (hok : pm_ok lv i = true) (h : lv_has ls lv.length ((i, v) :: (pm_prs lv).filter (fun q => !(q.1 == i) && (!(q.1 == i + 1) && !(q.1 + 1 == i && q.2.category == 2))))) : pm_L ls ((lv.set i (some v)).set (i + 1) none) := by
  refine ⟨by rw [List.length_set, List.length_set]; exact h.1, h.2.1, fun j w hw => ?_⟩
  rw [List.getElem?_set] at hw
  by_cases hj1 : i + 1 = j
  · subst hj1
    rw [if_pos rfl] at hw
    split at hw <;> cases hw
  · rw [if_neg hj1, List.getElem?_set] at hw
    by_cases hj : i = j
    · subst hj
      rw [if_pos rfl, if_pos (by omega)] at hw
      cases hw
      exact h.2.2 (i, v) List.mem_cons_self
    · rw [if_neg hj] at hw
      refine h.2.2 (j, w) (List.mem_cons_of_mem _ (List.mem_filter.mpr ⟨pm_prs_mem.mpr hw, ?_⟩))
      have h1 : (j == i) = false := by simpa using fun q => hj q.symm
      have h3 : (j == i + 1) = false := by simpa using fun q => hj1 q.symm
      simp only [h1, h3, Bool.not_false, Bool.true_and]
      by_cases h2 : j + 1 = i
      · subst h2
        simp only [pm_ok, hw] at hok
        simpa using hok
      · simp [h2]
end
section
/-! how a method is entered, and called -/
def pm_a1 (vs : List Value) : List (Option Value) := vs.flatMap fun v => if v.category = 2 then [some v, none] else [some v]
def pm_loc (vs : List Value) (n : Nat) : List (Option Value) := pm_a1 vs ++ List.replicate (n - (lg_sl vs).length) none
theorem pm_a1_len (vs : List Value) : (pm_a1 vs).length = (lg_sl vs).length := by
  induction vs with
  | nil => rfl
  | cons v vs ih =>
    simp only [pm_a1, lg_sl, List.flatMap_cons, List.length_append] at ih ⊢
    rw [ih]
    by_cases h : v.category = 2 <;> simp [h]
theorem pm_a1_at (vs : List Value) : ∀ (k i : Nat) (v : Value), (pm_a1 vs)[i]? = some (some v) → (k + i, v) ∈ lv_args k vs := by
  induction vs with
  | nil => intro k i v h; simp [pm_a1] at h
  | cons w vs ih =>
    intro k i v h
    simp only [pm_a1, List.flatMap_cons] at h
    by_cases hc : w.category = 2
    · simp only [hc, if_true, List.cons_append, List.nil_append] at h
      match i, h with
      | 0, h => simp at h; subst h; simp [lv_args]
      | 1, h => simp at h
      | i + 2, h =>
        simp at h
        have := ih (k + 2) i v h
        simp only [lv_args, hc, if_true]
        exact List.mem_cons_of_mem _ (by rw [show k + (i + 2) = k + 2 + i by omega]; exact this)
    · simp only [hc, if_false, List.cons_append, List.nil_append] at h
      match i, h with
      | 0, h => simp at h; subst h; simp [lv_args]
      | i + 1, h =>
        simp at h
        have := ih (k + 1) i v h
        simp only [lv_args, hc, if_false]
        exact List.mem_cons_of_mem _ (by rw [show k + (i + 1) = k + 1 + i by omega]; exact this)
theorem pm_loc_L {vs : List Value} {n : Nat} (h : (lg_sl vs).length ≤ n) : pm_L ((lg_sl vs ++ List.replicate (n - (lg_sl vs).length) Slot.unset).toArray) (pm_loc vs n) := by
  obtain ⟨h1, h2, h3⟩ := lv_entry vs h
  refine ⟨?_, h2, fun i v hv => ?_⟩
  · rw [h1]
    simp only [pm_loc, List.length_append, List.length_replicate, pm_a1_len]
    omega
  · unfold pm_loc at hv
    by_cases hi : i < (pm_a1 vs).length
    · rw [List.getElem?_append_left hi] at hv
      have := pm_a1_at vs 0 i v hv
      rw [Nat.zero_add] at this
      exact h3 (i, v) this
    · rw [List.getElem?_append_right (by omega)] at hv
      rw [List.getElem?_replicate] at hv
      split at hv <;> cases hv
/-- a method does what its body does -/
theorem pm_of {E : pmE} {d mc ms : Nat} {y : MethodName} {as : List Value} {S : pmS} {I : pmI} {P : pmP} {R : Option Value → pmS → pmI → pmP → Prop} {b : ByteArray} {maxL : Nat} {ret : Option FieldType}
    (hy : plainName y.cls = true) (hc : Cond.code y b maxL ret ∈ pm_tb) (hm : maxL ≤ 21) (hi : y.name = "<init>" → ret = none) (hlen : (lg_sl as).length ≤ maxL)
    (body : ∀ C : pmC, pm_G E C y.cls b maxL d mc ms → pm_R E C ret (S.1 + mc) mc ms R → pmZ E C 0 (pm_loc as maxL) [] S I P 0 0) : pmX E d mc ms y as S I P R := by
  refine ⟨b, maxL, ret, hc, hm, hi, Met.ofW (cc := b) (maxL := maxL) (ret := ret) hy rfl ?_⟩
  intro p e s m args below meth c s₁ B hml hv
  obtain ⟨rfl, hsz0, hH, hK, hZ, hN⟩ := hv
  have hts := atoms_spec (ws := Cond.code y b maxL ret :: pm_tb) B.pre
  have hL := pm_loc_L hlen
  rw [lg_entry_eq]
  have hsz : E.2.1 ≤ s.heap.size := by rw [hsz0]; exact Nat.le_add_right _ _
  exact body (p, e, pm_room d mc ms, s, m, as.toArray, below, meth, c, MQ below (pm_Q E (S.1 + mc) R) as.toArray s mc ms (pm_A E))
    ⟨B.exec, B.bytes, hml, findClass_of_methodNamed B.named, fun w hw => hts w (List.mem_cons_of_mem _ hw), hK, hZ, ⟨Nat.le_refl _, Nat.le_refl _, rfl, rfl⟩, hsz, B.notSynchronized, hN⟩
    ⟨B.returns, rfl, by show s.heap.size + mc = _; rw [hsz0]; omega⟩ s.heap [] _ hH va_S.rf hL (by show s.heap.size + 0 = _; rw [hsz0]; omega)
theorem pm_blind {E : pmE} {as : List Value} {S : pmS} {I : pmI} {P : pmP} : FrameBlind (pm_Pc E as S I P) := fun a U g mk q => by
  obtain ⟨q0, qs, qH, qK, qZ, qN⟩ := q
  exact ⟨q0, qs, qH, va_K.moved (u := U) (U := U.calling g mk a) (Vm.Alike.refl U.vm) qK, pm_Z.moved (u := U) (U := U.calling g mk a) (Vm.Alike.refl U.vm) qZ, pm_N.same rfl qN⟩
theorem pm_pre {E : pmE} {C : pmC} {as : List Value} {S : pmS} {I : pmI} {P : pmP} {H : Heap} {locs : List Loc} (hK : pm_K E C.s) (hZ : pm_Z E C.s C.s.heap) (hN : pm_N C.s) (hsz : H.size = E.2.1 + S.1) (hH : pm_H E S I P H) (hS : va_S (pm_A E) C.s.heap H locs) : ∀ U : State, U.heap = H → C.s.WarmedH U.vm → pm_Pc E as S I P as.toArray U := by
  intro U hU hW
  refine ⟨rfl, by rw [hU]; exact hsz, by rw [hU]; exact hH, va_K.moved hW.alike hK, pm_Z.moved hW.alike ?_, hN.warm hW⟩
  rw [hU]
  exact hZ.kept (fun a ha hn => hS.2.1 a ha hn)
/-- how large the heap is: as the cells say -/
theorem pm_lo {E : pmE} {S : pmS} {I : pmI} {P : pmP} {H : Heap} (hH : pm_H E S I P H) (h0 : E.2.1 ≤ H.size) : E.2.1 + S.1 ≤ H.size := by
  cases h : S.1 with
  | zero => simpa using h0
  | succ k =>
    have h1 := (hH k _ (pm_w_get (by omega))).lt
    dsimp only at h1
    omega
theorem pm_size {E : pmE} {C : pmC} {S : pmS} {I : pmI} {P : pmP} {H : Heap} {T : State} {locs : List Loc} {ca sl : Nat} (hT : T.heap = H) (X : Stand C.p E.1 C.e C.R C.s C.m C.a C.b C.t C.c T locs ca sl) (hH : pm_H E S I P H) (h0 : E.2.1 ≤ C.s.heap.size) (hS : va_S (pm_A E) C.s.heap H locs) (hn : C.s.heap.size + ca = E.2.1 + S.1) : H.size = E.2.1 + S.1 := by
  have h1 : T.heap.size ≤ C.s.heap.size + ca := X.same.2.2.1
  rw [hT] at h1
  have h2 := pm_lo hH (Nat.le_trans h0 hS.1)
  omega
/-- what comes behind a call -/
theorem pm_back {E : pmE} {C : pmC} {pc : Nat} {lv : List (Option Value)} {ls : Array Slot} {rest st0 : List Value} {as : Array Value} {R : Option Value → pmS → pmI → pmP → Prop} {H : Heap} {locs : List Loc} {ca sl mc ms n : Nat}
    (hr : va_Run C.p E.1 C.e C.R C.s C.m C.a C.b C.t C.c H locs ca sl mc ms (F0 C.m pc ls st0) rest (pm_Q E (n + mc) R as) (pm_A E)) (hn : C.s.heap.size + ca = E.2.1 + n) (hS : va_S (pm_A E) C.s.heap H locs) (hl : pm_L ls lv)
    (kk : ∀ (v : Option Value) (S : pmS) (I : pmI) (P : pmP), R v S I P → pmZ E C (pc + 3) lv (v.toList ++ rest) S I P (ca + mc) (sl + ms)) : W C.p E.1 C.e C.R C.s C.m C.a C.b C.t C.c H locs ca sl C.Q (F0 C.m pc ls st0) := by
  intro T hT X
  obtain ⟨v, st₀, t, T', L, h0, X', hL, e1, e2, ⟨⟨v', S, I, P, hv, hp, hb, hn'⟩, hz, hk⟩, st⟩ := hr T hT X
  cases hv
  rw [h0] at hz hk
  have hS' : va_S (pm_A E) C.s.heap T'.heap (locs ++ L) := by
    refine ⟨Nat.le_trans hS.1 (by rw [e1]; exact hz), fun q h1 h2 => ?_, fun q hq => ?_⟩
    · rw [e1, hk q (Nat.lt_of_lt_of_le h1 hS.1) h2]
      exact hS.2.1 q h1 h2
    · rcases List.mem_append.mp hq with h | h
      · exact hS.2.2 q h
      · exact hL q h
  obtain ⟨t2, a1, b1⟩ := kk v S I P hp T'.heap (locs ++ L) ls (by rw [e1]; exact hb) hS' hl (by rw [hn']; omega) T' rfl X'
  exact ⟨t2, st t2 a1, b1⟩
/-- a reference to a cell -/
def rr (E : pmE) (k : Nat) : Value := .ref (E.2.1 + k)
theorem pm_recv {E : pmE} {U : State} {S : pmS} {I : pmI} {P : pmP} {H : Heap} {k ci : Nat} {q : vw_C} (hK : pm_K E U) (hH : pm_H E S I P H) (hk : k < S.1) (hc : S.2.1 k = ci) (hc' : ci < 11) (hq : vwCl[ci]? = some q) : ∃ cell : Cell, H[E.2.1 + k]? = some cell ∧ cell.vm.isStatics = false ∧ U.vm.findClass q.1 = some cell.cls :=
  va_recv hK hH hq (by rw [pm_w_get hk, pm_cell_o hc hc'])
section CALLS
variable {E : pmE} {C : pmC} {own : String} {cc : ByteArray} {nL d mc0 ms0 : Nat} {pc : Nat} {lv : List (Option Value)} {S : pmS} {I : pmI} {P : pmP} {ca sl mc ms : Nat}
theorem pm_words (G : pm_G E C own cc nL d mc0 ms0) {y : MethodName} {b : ByteArray} {maxL : Nat} {ret : Option FieldType} (h : Cond.code y b maxL ret ∈ pm_tb) : ∀ w ∈ (Cond.code y b maxL ret :: pm_tb), ∀ (a' : Array Value) (U : State), C.s.WarmedH U.vm → w.before a' U = true := by
  have hin : ∀ w ∈ (Cond.code y b maxL ret :: pm_tb), w ∈ pm_tb := fun w hw => by
    rcases List.mem_cons.mp hw with rfl | hw
    · exact h
    · exact hw
  exact pay_in (big := pm_tb) G.2.2.2.2.1 (fun w hw => ⟨hin w hw, pm_tb_good (hin w hw)⟩)
theorem pm_CB (G : pm_G E C own cc nL (d + 1) mc0 ms0) {y : MethodName} {b : ByteArray} {maxL index n : Nat} {ret : Option FieldType} (h : Cond.code y b maxL ret ∈ pm_tb) (hm : maxL ≤ 21) (hl : Cond.methodLink own index y ∈ pm_tb) (hini : Cond.initialized y.cls ∈ pm_tb) (hd : y.cls ≠ "java/lang/invoke/MethodHandle" ∧ y.cls ≠ "java/lang/invoke/VarHandle" ∧ (parseMethodDescriptor y.desc).map (fun d => d.parameters.length) = some n) :
    CallB C.R C.s C.a own index y b maxL ret (Cond.code y b maxL ret :: pm_tb) (pm_room d mc ms) mc ms n := by
  have hts := G.2.2.2.2.1
  have hR := G.2.2.2.2.2.2.2.1
  refine ⟨rfl, rfl, hR.1, ?_, pm_words G h, List.mem_cons_self, hts _ h, hts _ hini, ⟨hd.1, hd.2.1⟩, fun sig hs => ?_, hts _ hl⟩
  · have := hR.2.1
    show 8 + (maxL + 11) + 40 * d ≤ _
    omega
  · have h2 := hd.2.2
    rw [hs] at h2
    exact (Option.some.inj h2).symm
theorem pm_fix (G : pm_G E C own cc nL d mc0 ms0) : CallFix C.p C.m C.c cc nL C.s C.a pm_tb own := ⟨G.1, G.2.1, G.2.2.1, G.2.2.2.1, G.2.2.2.2.1⟩
/-- a method of the class of a cell -/
def pm_lnk (own : String) (idx : Nat) (y : MethodName) (n : Nat) : Prop := Cond.methodLink own idx y ∈ pm_tb ∧ Cond.initialized y.cls ∈ pm_tb ∧ y.cls ≠ "java/lang/invoke/MethodHandle" ∧ y.cls ≠ "java/lang/invoke/VarHandle" ∧ (parseMethodDescriptor y.desc).map (fun d => d.parameters.length) = some n
def pm_lnV (own : String) (idx : Nat) (y : MethodName) (n ci : Nat) : Prop := pm_lnk own idx y n ∧ Cond.instanceMethod y ∈ pm_tb ∧ Cond.selects y.cls y y ∈ pm_tb ∧ ci < 11 ∧ ∃ q : vw_C, vwCl[ci]? = some q ∧ q.1 = y.cls
def pm_lnS (own : String) (idx : Nat) (y : MethodName) (n : Nat) : Prop := pm_lnk own idx y n ∧ Cond.static y ∈ pm_tb
theorem z_callV (G : pm_G E C own cc nL (d + 1) mc0 ms0) {idx n ci k : Nat} {y : MethodName} (L : pm_lnV own idx y n ci) (hdg : decode cc pc = .ok (.invokevirtual idx, 3)) {As rest st0 : List Value} (hst : st0 = As.reverse ++ rr E k :: rest) (hn : As.length = n) (hnL : lv.length = nL) (hW : (rest.map fun v => v.category).sum ≤ 8) (hf : ca + mc ≤ mc0 ∧ sl + ms ≤ ms0)
    (hk : k < S.1) (hc : S.2.1 k = ci) (h : pmX E d mc ms y (rr E k :: As) S I P (fun v S' I' P' => pmZ E C (pc + 3) lv (v.toList ++ rest) S' I' P' (ca + mc) (sl + ms))) : pmZ E C pc lv st0 S I P ca sl := by
  intro H locs ls hH hS hl hnn T hT X
  have hsz := pm_size hT X hH G.2.2.2.2.2.2.2.2.1 hS hnn
  obtain ⟨b, maxL, ret, h1, h2, -, hM⟩ := h
  obtain ⟨⟨l1, l2, l3, l4, l5⟩, l6, l7, l8, q, l9, l10⟩ := L
  have hts := G.2.2.2.2.1
  have hR := G.2.2.2.2.2.2.2.1
  refine pm_back (va_runV (As := As) (rest := rest) (b := E.2.1 + k) (C := y.cls) (n := n) (pm_fix G) hM ⟨pm_CB G h1 h2 l1 l2 ⟨l3, l4, l5⟩, hts _ l6, hts _ l7⟩ ⟨pm_blind, ?_, pm_pre G.2.2.2.2.2.1 G.2.2.2.2.2.2.1 G.2.2.2.2.2.2.2.2.2.2 hsz hH hS⟩ rfl hn (hl.1.trans hnL) hst (lv_room hW) hdg (by rw [hR.2.2.1, hR.2.2.2]; exact hf)) hnn hS hl (fun v S' I' P' q => q) T hT X
  rw [← l10]
  exact pm_recv G.2.2.2.2.2.1 hH hk hc l8 l9
theorem z_callS (G : pm_G E C own cc nL (d + 1) mc0 ms0) {idx n : Nat} {y : MethodName} (L : pm_lnS own idx y n) (hdg : decode cc pc = .ok (.invokestatic idx, 3)) {As rest st0 : List Value} (hst : st0 = As.reverse ++ rest) (hn : As.length = n) (hnL : lv.length = nL) (hW : (rest.map fun v => v.category).sum ≤ 8) (hf : ca + mc ≤ mc0 ∧ sl + ms ≤ ms0)
    (h : pmX E d mc ms y As S I P (fun v S' I' P' => pmZ E C (pc + 3) lv (v.toList ++ rest) S' I' P' (ca + mc) (sl + ms))) : pmZ E C pc lv st0 S I P ca sl := by
  intro H locs ls hH hS hl hnn T hT X
  have hsz := pm_size hT X hH G.2.2.2.2.2.2.2.2.1 hS hnn
  obtain ⟨b, maxL, ret, h1, h2, -, hM⟩ := h
  obtain ⟨⟨l1, l2, l3, l4, l5⟩, l6⟩ := L
  have hts := G.2.2.2.2.1
  have hR := G.2.2.2.2.2.2.2.1
  exact pm_back (va_runS (As := As) (rest := rest) (n := n) (pm_fix G) hM ⟨pm_CB G h1 h2 l1 l2 ⟨l3, l4, l5⟩, hts _ l6⟩ ⟨pm_blind, pm_pre G.2.2.2.2.2.1 G.2.2.2.2.2.2.1 G.2.2.2.2.2.2.2.2.2.2 hsz hH hS⟩ rfl hn (hl.1.trans hnL) hst (lv_room hW) hdg (by rw [hR.2.2.1, hR.2.2.2]; exact hf)) hnn hS hl (fun v S' I' P' q => q) T hT X
/-- a constructor -/
def pm_lnI (own : String) (idx : Nat) (y : MethodName) (n : Nat) : Prop := pm_lnk own idx y n ∧ Cond.instanceMethod y ∈ pm_tb ∧ y.name = "<init>"
theorem z_callI (G : pm_G E C own cc nL (d + 1) mc0 ms0) {idx n k : Nat} {y : MethodName} (L : pm_lnI own idx y n) (hdg : decode cc pc = .ok (.invokespecial idx, 3)) {As rest st0 : List Value} (hst : st0 = As.reverse ++ rr E k :: rest) (hn : As.length = n) (hnL : lv.length = nL) (hW : (rest.map fun v => v.category).sum ≤ 8) (hf : ca + mc ≤ mc0 ∧ sl + ms ≤ ms0)
    (h : pmX E d mc ms y (rr E k :: As) S I P (fun v S' I' P' => v = none ∧ pmZ E C (pc + 3) lv rest S' I' P' (ca + mc) (sl + ms))) : pmZ E C pc lv st0 S I P ca sl := by
  intro H locs ls hH hS hl hnn T hT X
  have hsz := pm_size hT X hH G.2.2.2.2.2.2.2.2.1 hS hnn
  obtain ⟨b, maxL, ret, h1, h2, h3, hM⟩ := h
  obtain ⟨⟨l1, l2, l3, l4, l5⟩, l6, l7⟩ := L
  obtain rfl := h3 l7
  have hts := G.2.2.2.2.1
  have hR := G.2.2.2.2.2.2.2.1
  refine pm_back (va_runI (As := As) (rest := rest) (b := E.2.1 + k) (n := n) (pm_fix G) hM ⟨pm_CB G h1 h2 l1 l2 ⟨l3, l4, l5⟩, l7, hts _ l6⟩ ⟨pm_blind, pm_pre G.2.2.2.2.2.1 G.2.2.2.2.2.2.1 G.2.2.2.2.2.2.2.2.2.2 hsz hH hS⟩ rfl hn (hl.1.trans hnL) hst (lv_room hW) hdg (by rw [hR.2.2.1, hR.2.2.2]; exact hf)) hnn hS hl (fun v S' I' P' q => ?_) T hT X
  obtain ⟨rfl, q⟩ := q
  exact q
end CALLS
end
section
/-! a row an instruction -/
section ROWS
variable {E : pmE} {C : pmC} {own : String} {cc : ByteArray} {nL d mc0 ms0 : Nat} {pc : Nat} {lv : List (Option Value)} {st : List Value} {S : pmS} {I : pmI} {P : pmP} {ca sl : Nat}
theorem z_eq {pc' : Nat} {lv' : List (Option Value)} {st' : List Value} {I' : pmI} {P' : pmP} (h1 : pc = pc') (h2 : lv = lv') (h3 : st = st') (h4 : I = I') (h5 : P = P') (k : pmZ E C pc' lv' st' S I' P' ca sl) : pmZ E C pc lv st S I P ca sl := by
  subst h1 h2 h3 h4 h5
  exact k

theorem z_iconst (G : pm_G E C own cc nL d mc0 ms0) {n : Int} {v : Int32} (hdg : decode cc pc = .ok (.iconst n, 1)) (hv : Int32.ofInt n = v) (k : pmZ E C (pc + 1) lv (.int v :: st) S I P ca sl) : pmZ E C pc lv (st) S I P ca sl :=
  fun H locs ls hH hS hl hn9 => lv_iconst G.1 G.2.1 hdg hv (k H locs ls hH hS hl hn9)
theorem z_bipush (G : pm_G E C own cc nL d mc0 ms0) {n : Int} {v : Int32} (hdg : decode cc pc = .ok (.bipush n, 2)) (hv : (Int8.ofInt n).toInt32 = v) (k : pmZ E C (pc + 2) lv (.int v :: st) S I P ca sl) : pmZ E C pc lv (st) S I P ca sl :=
  fun H locs ls hH hS hl hn9 => lv_bipush G.1 G.2.1 hdg hv (k H locs ls hH hS hl hn9)
theorem z_sipush (G : pm_G E C own cc nL d mc0 ms0) {n : Int} {v : Int32} (hdg : decode cc pc = .ok (.sipush n, 3)) (hv : (Int16.ofInt n).toInt32 = v) (k : pmZ E C (pc + 3) lv (.int v :: st) S I P ca sl) : pmZ E C pc lv (st) S I P ca sl :=
  fun H locs ls hH hS hl hn9 => lv_sipush G.1 G.2.1 hdg hv (k H locs ls hH hS hl hn9)
theorem z_iload_n (G : pm_G E C own cc nL d mc0 ms0) {j : Fin 4} {x : Int32} (hdg : decode cc pc = .ok (.iload_n j, 1)) (hv : lv[(j : Nat)]? = some (some (.int x))) (k : pmZ E C (pc + 1) lv (.int x :: st) S I P ca sl) : pmZ E C pc lv (st) S I P ca sl :=
  fun H locs ls hH hS hl hn9 => lv_iload_n G.1 G.2.1 hdg rfl (hl.get hv) (k H locs ls hH hS hl hn9)
theorem z_iload (G : pm_G E C own cc nL d mc0 ms0) {j : Nat} {x : Int32} (hdg : decode cc pc = .ok (.iload j, 2)) (hv : lv[j]? = some (some (.int x))) (k : pmZ E C (pc + 2) lv (.int x :: st) S I P ca sl) : pmZ E C pc lv (st) S I P ca sl :=
  fun H locs ls hH hS hl hn9 => lv_iload G.1 G.2.1 hdg (hl.get hv) (k H locs ls hH hS hl hn9)
theorem z_lload_n (G : pm_G E C own cc nL d mc0 ms0) {j : Fin 4} {x : Int64} (hdg : decode cc pc = .ok (.lload_n j, 1)) (hv : lv[(j : Nat)]? = some (some (.long x))) (k : pmZ E C (pc + 1) lv (.long x :: st) S I P ca sl) : pmZ E C pc lv (st) S I P ca sl :=
  fun H locs ls hH hS hl hn9 => lv_lload_n G.1 G.2.1 hdg rfl (hl.get hv) (k H locs ls hH hS hl hn9)
theorem z_lload (G : pm_G E C own cc nL d mc0 ms0) {j : Nat} {x : Int64} (hdg : decode cc pc = .ok (.lload j, 2)) (hv : lv[j]? = some (some (.long x))) (k : pmZ E C (pc + 2) lv (.long x :: st) S I P ca sl) : pmZ E C pc lv (st) S I P ca sl :=
  fun H locs ls hH hS hl hn9 => lv_lload G.1 G.2.1 hdg (hl.get hv) (k H locs ls hH hS hl hn9)
theorem z_aload_n (G : pm_G E C own cc nL d mc0 ms0) {j : Fin 4} {x : Nat} (hdg : decode cc pc = .ok (.aload_n j, 1)) (hv : lv[(j : Nat)]? = some (some (rr E x))) (k : pmZ E C (pc + 1) lv (rr E x :: st) S I P ca sl) : pmZ E C pc lv (st) S I P ca sl :=
  fun H locs ls hH hS hl hn9 => lv_aload_n G.1 G.2.1 hdg rfl (hl.get hv) (k H locs ls hH hS hl hn9)
theorem z_aload (G : pm_G E C own cc nL d mc0 ms0) {j : Nat} {x : Nat} (hdg : decode cc pc = .ok (.aload j, 2)) (hv : lv[j]? = some (some (rr E x))) (k : pmZ E C (pc + 2) lv (rr E x :: st) S I P ca sl) : pmZ E C pc lv (st) S I P ca sl :=
  fun H locs ls hH hS hl hn9 => lv_aload G.1 G.2.1 hdg (hl.get hv) (k H locs ls hH hS hl hn9)
theorem z_aload_x (G : pm_G E C own cc nL d mc0 ms0) {j : Fin 4} {x : Nat} (hdg : decode cc pc = .ok (.aload_n j, 1)) (hv : lv[(j : Nat)]? = some (some (.ref x))) (k : pmZ E C (pc + 1) lv (.ref x :: st) S I P ca sl) : pmZ E C pc lv (st) S I P ca sl :=
  fun H locs ls hH hS hl hn9 => lv_aload_n G.1 G.2.1 hdg rfl (hl.get hv) (k H locs ls hH hS hl hn9)
theorem z_istore_n (G : pm_G E C own cc nL d mc0 ms0) {j : Fin 4} {x : Int32} (hdg : decode cc pc = .ok (.istore_n j, 1)) (hn : (j : Nat) < lv.length) (hok : pm_ok lv j = true) (k : pmZ E C (pc + 1) (lv.set (j : Nat) (some (.int x))) (st) S I P ca sl) : pmZ E C pc lv (.int x :: st) S I P ca sl :=
  fun H locs ls hH hS hl hn9 => lv_istore_n G.1 G.2.1 hdg rfl hl.has hn rfl (fun ls' h => k H locs ls' hH hS (pm_L.set hn hok h) hn9)
theorem z_istore (G : pm_G E C own cc nL d mc0 ms0) {j : Nat} {x : Int32} (hdg : decode cc pc = .ok (.istore j, 2)) (hn : j < lv.length) (hok : pm_ok lv j = true) (k : pmZ E C (pc + 2) (lv.set j (some (.int x))) (st) S I P ca sl) : pmZ E C pc lv (.int x :: st) S I P ca sl :=
  fun H locs ls hH hS hl hn9 => lv_istore G.1 G.2.1 hdg hl.has hn rfl (fun ls' h => k H locs ls' hH hS (pm_L.set hn hok h) hn9)
theorem z_astore_n (G : pm_G E C own cc nL d mc0 ms0) {j : Fin 4} {x : Nat} (hdg : decode cc pc = .ok (.astore_n j, 1)) (hn : (j : Nat) < lv.length) (hok : pm_ok lv j = true) (k : pmZ E C (pc + 1) (lv.set (j : Nat) (some (rr E x))) (st) S I P ca sl) : pmZ E C pc lv (rr E x :: st) S I P ca sl :=
  fun H locs ls hH hS hl hn9 => lv_astore_n G.1 G.2.1 hdg rfl hl.has hn rfl (fun ls' h => k H locs ls' hH hS (pm_L.set hn hok h) hn9)
theorem z_astore (G : pm_G E C own cc nL d mc0 ms0) {j : Nat} {x : Nat} (hdg : decode cc pc = .ok (.astore j, 2)) (hn : j < lv.length) (hok : pm_ok lv j = true) (k : pmZ E C (pc + 2) (lv.set j (some (rr E x))) (st) S I P ca sl) : pmZ E C pc lv (rr E x :: st) S I P ca sl :=
  fun H locs ls hH hS hl hn9 => lv_astore G.1 G.2.1 hdg hl.has hn rfl (fun ls' h => k H locs ls' hH hS (pm_L.set hn hok h) hn9)
theorem z_lstore_n (G : pm_G E C own cc nL d mc0 ms0) {j : Fin 4} {x : Int64} (hdg : decode cc pc = .ok (.lstore_n j, 1)) (hn : (j : Nat) + 1 < lv.length) (hok : pm_ok lv j = true) (k : pmZ E C (pc + 1) ((lv.set (j : Nat) (some (.long x))).set ((j : Nat) + 1) none) (st) S I P ca sl) : pmZ E C pc lv (.long x :: st) S I P ca sl :=
  fun H locs ls hH hS hl hn9 => lv_lstore_n G.1 G.2.1 hdg rfl hl.has hn rfl (fun ls' h => k H locs ls' hH hS (pm_L.set2 hn hok h) hn9)
theorem z_lstore (G : pm_G E C own cc nL d mc0 ms0) {j : Nat} {x : Int64} (hdg : decode cc pc = .ok (.lstore j, 2)) (hn : j + 1 < lv.length) (hok : pm_ok lv j = true) (k : pmZ E C (pc + 2) ((lv.set j (some (.long x))).set (j + 1) none) (st) S I P ca sl) : pmZ E C pc lv (.long x :: st) S I P ca sl :=
  fun H locs ls hH hS hl hn9 => lv_lstore G.1 G.2.1 hdg hl.has hn rfl (fun ls' h => k H locs ls' hH hS (pm_L.set2 hn hok h) hn9)
theorem z_iinc (G : pm_G E C own cc nL d mc0 ms0) {j : Nat} {n : Int} {x v : Int32} (hdg : decode cc pc = .ok (.iinc j n, 3)) (hv : Int32.ofInt n = v) (hx : lv[j]? = some (some (.int x))) (hok : pm_ok lv j = true) (k : pmZ E C (pc + 3) (lv.set j (some (.int (x + v)))) (st) S I P ca sl) : pmZ E C pc lv (st) S I P ca sl := by
  subst hv
  intro H locs ls hH hS hl hn9
  obtain ⟨i, hi⟩ := List.getElem?_of_mem (pm_prs_mem.mpr hx)
  have hn : j < lv.length := (List.getElem?_eq_some_iff.mp hx).1
  exact lv_iinc G.1 G.2.1 hdg hl.has hi rfl hn rfl (fun ls' h => k H locs ls' hH hS (pm_L.set hn hok h) hn9)
theorem z_iadd (G : pm_G E C own cc nL d mc0 ms0) {x y : Int32} (hdg : decode cc pc = .ok (.iadd, 1))  (k : pmZ E C (pc + 1) lv (.int (x + y) :: st) S I P ca sl) : pmZ E C pc lv (.int y :: .int x :: st) S I P ca sl :=
  fun H locs ls hH hS hl hn9 => lv_iadd G.1 G.2.1 hdg  (k H locs ls hH hS hl hn9)
theorem z_isub (G : pm_G E C own cc nL d mc0 ms0) {x y : Int32} (hdg : decode cc pc = .ok (.isub, 1))  (k : pmZ E C (pc + 1) lv (.int (x - y) :: st) S I P ca sl) : pmZ E C pc lv (.int y :: .int x :: st) S I P ca sl :=
  fun H locs ls hH hS hl hn9 => lv_isub G.1 G.2.1 hdg  (k H locs ls hH hS hl hn9)
theorem z_imul (G : pm_G E C own cc nL d mc0 ms0) {x y : Int32} (hdg : decode cc pc = .ok (.imul, 1))  (k : pmZ E C (pc + 1) lv (.int (x * y) :: st) S I P ca sl) : pmZ E C pc lv (.int y :: .int x :: st) S I P ca sl :=
  fun H locs ls hH hS hl hn9 => lv_imul G.1 G.2.1 hdg  (k H locs ls hH hS hl hn9)
theorem z_ishl (G : pm_G E C own cc nL d mc0 ms0) {x y : Int32} (hdg : decode cc pc = .ok (.ishl, 1))  (k : pmZ E C (pc + 1) lv (.int (x <<< (y &&& 31)) :: st) S I P ca sl) : pmZ E C pc lv (.int y :: .int x :: st) S I P ca sl :=
  fun H locs ls hH hS hl hn9 => lv_ishl G.1 G.2.1 hdg  (k H locs ls hH hS hl hn9)
theorem z_ishr (G : pm_G E C own cc nL d mc0 ms0) {x y : Int32} (hdg : decode cc pc = .ok (.ishr, 1))  (k : pmZ E C (pc + 1) lv (.int (x >>> (y &&& 31)) :: st) S I P ca sl) : pmZ E C pc lv (.int y :: .int x :: st) S I P ca sl :=
  fun H locs ls hH hS hl hn9 => lv_ishr G.1 G.2.1 hdg  (k H locs ls hH hS hl hn9)
theorem z_iand (G : pm_G E C own cc nL d mc0 ms0) {x y : Int32} (hdg : decode cc pc = .ok (.iand, 1))  (k : pmZ E C (pc + 1) lv (.int (x &&& y) :: st) S I P ca sl) : pmZ E C pc lv (.int y :: .int x :: st) S I P ca sl :=
  fun H locs ls hH hS hl hn9 => lv_iand G.1 G.2.1 hdg  (k H locs ls hH hS hl hn9)
theorem z_ior (G : pm_G E C own cc nL d mc0 ms0) {x y : Int32} (hdg : decode cc pc = .ok (.ior, 1))  (k : pmZ E C (pc + 1) lv (.int (x ||| y) :: st) S I P ca sl) : pmZ E C pc lv (.int y :: .int x :: st) S I P ca sl :=
  fun H locs ls hH hS hl hn9 => lv_ior G.1 G.2.1 hdg  (k H locs ls hH hS hl hn9)
theorem z_idiv (G : pm_G E C own cc nL d mc0 ms0) {x y : Int32} (hdg : decode cc pc = .ok (.idiv, 1)) (hne : ¬ y = 0) (k : pmZ E C (pc + 1) lv (.int (x / y) :: st) S I P ca sl) : pmZ E C pc lv (.int y :: .int x :: st) S I P ca sl :=
  fun H locs ls hH hS hl hn9 => lv_idiv G.1 G.2.1 hdg hne (k H locs ls hH hS hl hn9)
theorem z_irem (G : pm_G E C own cc nL d mc0 ms0) {x y : Int32} (hdg : decode cc pc = .ok (.irem, 1)) (hne : ¬ y = 0) (k : pmZ E C (pc + 1) lv (.int (x - x / y * y) :: st) S I P ca sl) : pmZ E C pc lv (.int y :: .int x :: st) S I P ca sl :=
  fun H locs ls hH hS hl hn9 => lv_irem G.1 G.2.1 hdg hne (k H locs ls hH hS hl hn9)
theorem z_ineg (G : pm_G E C own cc nL d mc0 ms0) {x : Int32} (hdg : decode cc pc = .ok (.ineg, 1))  (k : pmZ E C (pc + 1) lv (.int (-x) :: st) S I P ca sl) : pmZ E C pc lv (.int x :: st) S I P ca sl :=
  fun H locs ls hH hS hl hn9 => lv_ineg G.1 G.2.1 hdg  (k H locs ls hH hS hl hn9)
theorem z_lmul (G : pm_G E C own cc nL d mc0 ms0) {x y : Int64} (hdg : decode cc pc = .ok (.lmul, 1))  (k : pmZ E C (pc + 1) lv (.long (x * y) :: st) S I P ca sl) : pmZ E C pc lv (.long y :: .long x :: st) S I P ca sl :=
  fun H locs ls hH hS hl hn9 => lv_lmul G.1 G.2.1 hdg  (k H locs ls hH hS hl hn9)
theorem z_lrem (G : pm_G E C own cc nL d mc0 ms0) {x y : Int64} (hdg : decode cc pc = .ok (.lrem, 1)) (hne : ¬ y = 0) (k : pmZ E C (pc + 1) lv (.long (x - x / y * y) :: st) S I P ca sl) : pmZ E C pc lv (.long y :: .long x :: st) S I P ca sl :=
  fun H locs ls hH hS hl hn9 => lv_lrem G.1 G.2.1 hdg hne (k H locs ls hH hS hl hn9)
theorem z_i2l (G : pm_G E C own cc nL d mc0 ms0) {x : Int32} (hdg : decode cc pc = .ok (.i2l, 1))  (k : pmZ E C (pc + 1) lv (.long x.toInt64 :: st) S I P ca sl) : pmZ E C pc lv (.int x :: st) S I P ca sl :=
  fun H locs ls hH hS hl hn9 => lv_i2l G.1 G.2.1 hdg rfl (k H locs ls hH hS hl hn9)
theorem z_l2i (G : pm_G E C own cc nL d mc0 ms0) {x : Int64} (hdg : decode cc pc = .ok (.l2i, 1))  (k : pmZ E C (pc + 1) lv (.int x.toInt32 :: st) S I P ca sl) : pmZ E C pc lv (.long x :: st) S I P ca sl :=
  fun H locs ls hH hS hl hn9 => lv_l2i G.1 G.2.1 hdg rfl (k H locs ls hH hS hl hn9)
theorem z_i2b (G : pm_G E C own cc nL d mc0 ms0) {x : Int32} (hdg : decode cc pc = .ok (.i2b, 1))  (k : pmZ E C (pc + 1) lv (.int x.toInt8.toInt32 :: st) S I P ca sl) : pmZ E C pc lv (.int x :: st) S I P ca sl :=
  fun H locs ls hH hS hl hn9 => lv_i2b G.1 G.2.1 hdg rfl (k H locs ls hH hS hl hn9)
theorem z_i2s (G : pm_G E C own cc nL d mc0 ms0) {x : Int32} (hdg : decode cc pc = .ok (.i2s, 1))  (k : pmZ E C (pc + 1) lv (.int x.toInt16.toInt32 :: st) S I P ca sl) : pmZ E C pc lv (.int x :: st) S I P ca sl :=
  fun H locs ls hH hS hl hn9 => lv_i2s G.1 G.2.1 hdg rfl (k H locs ls hH hS hl hn9)
theorem z_if_eq (G : pm_G E C own cc nL d mc0 ms0) {x : Int32} {off : Int} (tgt : Nat) (hdg : decode cc pc = .ok (.ifCond .eq off, 3)) (ht : (pc : Int) + off = (tgt : Int)) (kt : x = 0 → pmZ E C tgt lv (st) S I P ca sl) (kf : ¬ x = 0 → pmZ E C (pc + 3) lv (st) S I P ca sl) : pmZ E C pc lv (.int x :: st) S I P ca sl :=
  fun H locs ls hH hS hl hn9 => lv_if_eq G.1 G.2.1 hdg ht (fun h => kt h H locs ls hH hS hl hn9) (fun h => kf h H locs ls hH hS hl hn9)
theorem z_icmp_eq (G : pm_G E C own cc nL d mc0 ms0) {x y : Int32} {off : Int} (tgt : Nat) (hdg : decode cc pc = .ok (.if_icmp .eq off, 3)) (ht : (pc : Int) + off = (tgt : Int)) (kt : x = y → pmZ E C tgt lv (st) S I P ca sl) (kf : ¬ x = y → pmZ E C (pc + 3) lv (st) S I P ca sl) : pmZ E C pc lv (.int y :: .int x :: st) S I P ca sl :=
  fun H locs ls hH hS hl hn9 => lv_icmp_eq G.1 G.2.1 hdg ht (fun h => kt h H locs ls hH hS hl hn9) (fun h => kf h H locs ls hH hS hl hn9)
theorem z_if_ne (G : pm_G E C own cc nL d mc0 ms0) {x : Int32} {off : Int} (tgt : Nat) (hdg : decode cc pc = .ok (.ifCond .ne off, 3)) (ht : (pc : Int) + off = (tgt : Int)) (kt : ¬ x = 0 → pmZ E C tgt lv (st) S I P ca sl) (kf : x = 0 → pmZ E C (pc + 3) lv (st) S I P ca sl) : pmZ E C pc lv (.int x :: st) S I P ca sl :=
  fun H locs ls hH hS hl hn9 => lv_if_ne G.1 G.2.1 hdg ht (fun h => kt h H locs ls hH hS hl hn9) (fun h => kf h H locs ls hH hS hl hn9)
theorem z_icmp_ne (G : pm_G E C own cc nL d mc0 ms0) {x y : Int32} {off : Int} (tgt : Nat) (hdg : decode cc pc = .ok (.if_icmp .ne off, 3)) (ht : (pc : Int) + off = (tgt : Int)) (kt : ¬ x = y → pmZ E C tgt lv (st) S I P ca sl) (kf : x = y → pmZ E C (pc + 3) lv (st) S I P ca sl) : pmZ E C pc lv (.int y :: .int x :: st) S I P ca sl :=
  fun H locs ls hH hS hl hn9 => lv_icmp_ne G.1 G.2.1 hdg ht (fun h => kt h H locs ls hH hS hl hn9) (fun h => kf h H locs ls hH hS hl hn9)
theorem z_if_lt (G : pm_G E C own cc nL d mc0 ms0) {x : Int32} {off : Int} (tgt : Nat) (hdg : decode cc pc = .ok (.ifCond .lt off, 3)) (ht : (pc : Int) + off = (tgt : Int)) (kt : x < 0 → pmZ E C tgt lv (st) S I P ca sl) (kf : ¬ x < 0 → pmZ E C (pc + 3) lv (st) S I P ca sl) : pmZ E C pc lv (.int x :: st) S I P ca sl :=
  fun H locs ls hH hS hl hn9 => lv_if_lt G.1 G.2.1 hdg ht (fun h => kt h H locs ls hH hS hl hn9) (fun h => kf h H locs ls hH hS hl hn9)
theorem z_icmp_lt (G : pm_G E C own cc nL d mc0 ms0) {x y : Int32} {off : Int} (tgt : Nat) (hdg : decode cc pc = .ok (.if_icmp .lt off, 3)) (ht : (pc : Int) + off = (tgt : Int)) (kt : x < y → pmZ E C tgt lv (st) S I P ca sl) (kf : ¬ x < y → pmZ E C (pc + 3) lv (st) S I P ca sl) : pmZ E C pc lv (.int y :: .int x :: st) S I P ca sl :=
  fun H locs ls hH hS hl hn9 => lv_icmp_lt G.1 G.2.1 hdg ht (fun h => kt h H locs ls hH hS hl hn9) (fun h => kf h H locs ls hH hS hl hn9)
theorem z_if_ge (G : pm_G E C own cc nL d mc0 ms0) {x : Int32} {off : Int} (tgt : Nat) (hdg : decode cc pc = .ok (.ifCond .ge off, 3)) (ht : (pc : Int) + off = (tgt : Int)) (kt : 0 ≤ x → pmZ E C tgt lv (st) S I P ca sl) (kf : ¬ 0 ≤ x → pmZ E C (pc + 3) lv (st) S I P ca sl) : pmZ E C pc lv (.int x :: st) S I P ca sl :=
  fun H locs ls hH hS hl hn9 => lv_if_ge G.1 G.2.1 hdg ht (fun h => kt h H locs ls hH hS hl hn9) (fun h => kf h H locs ls hH hS hl hn9)
theorem z_icmp_ge (G : pm_G E C own cc nL d mc0 ms0) {x y : Int32} {off : Int} (tgt : Nat) (hdg : decode cc pc = .ok (.if_icmp .ge off, 3)) (ht : (pc : Int) + off = (tgt : Int)) (kt : y ≤ x → pmZ E C tgt lv (st) S I P ca sl) (kf : ¬ y ≤ x → pmZ E C (pc + 3) lv (st) S I P ca sl) : pmZ E C pc lv (.int y :: .int x :: st) S I P ca sl :=
  fun H locs ls hH hS hl hn9 => lv_icmp_ge G.1 G.2.1 hdg ht (fun h => kt h H locs ls hH hS hl hn9) (fun h => kf h H locs ls hH hS hl hn9)
theorem z_if_gt (G : pm_G E C own cc nL d mc0 ms0) {x : Int32} {off : Int} (tgt : Nat) (hdg : decode cc pc = .ok (.ifCond .gt off, 3)) (ht : (pc : Int) + off = (tgt : Int)) (kt : 0 < x → pmZ E C tgt lv (st) S I P ca sl) (kf : ¬ 0 < x → pmZ E C (pc + 3) lv (st) S I P ca sl) : pmZ E C pc lv (.int x :: st) S I P ca sl :=
  fun H locs ls hH hS hl hn9 => lv_if_gt G.1 G.2.1 hdg ht (fun h => kt h H locs ls hH hS hl hn9) (fun h => kf h H locs ls hH hS hl hn9)
theorem z_icmp_gt (G : pm_G E C own cc nL d mc0 ms0) {x y : Int32} {off : Int} (tgt : Nat) (hdg : decode cc pc = .ok (.if_icmp .gt off, 3)) (ht : (pc : Int) + off = (tgt : Int)) (kt : y < x → pmZ E C tgt lv (st) S I P ca sl) (kf : ¬ y < x → pmZ E C (pc + 3) lv (st) S I P ca sl) : pmZ E C pc lv (.int y :: .int x :: st) S I P ca sl :=
  fun H locs ls hH hS hl hn9 => lv_icmp_gt G.1 G.2.1 hdg ht (fun h => kt h H locs ls hH hS hl hn9) (fun h => kf h H locs ls hH hS hl hn9)
theorem z_if_le (G : pm_G E C own cc nL d mc0 ms0) {x : Int32} {off : Int} (tgt : Nat) (hdg : decode cc pc = .ok (.ifCond .le off, 3)) (ht : (pc : Int) + off = (tgt : Int)) (kt : x ≤ 0 → pmZ E C tgt lv (st) S I P ca sl) (kf : ¬ x ≤ 0 → pmZ E C (pc + 3) lv (st) S I P ca sl) : pmZ E C pc lv (.int x :: st) S I P ca sl :=
  fun H locs ls hH hS hl hn9 => lv_if_le G.1 G.2.1 hdg ht (fun h => kt h H locs ls hH hS hl hn9) (fun h => kf h H locs ls hH hS hl hn9)
theorem z_icmp_le (G : pm_G E C own cc nL d mc0 ms0) {x y : Int32} {off : Int} (tgt : Nat) (hdg : decode cc pc = .ok (.if_icmp .le off, 3)) (ht : (pc : Int) + off = (tgt : Int)) (kt : x ≤ y → pmZ E C tgt lv (st) S I P ca sl) (kf : ¬ x ≤ y → pmZ E C (pc + 3) lv (st) S I P ca sl) : pmZ E C pc lv (.int y :: .int x :: st) S I P ca sl :=
  fun H locs ls hH hS hl hn9 => lv_icmp_le G.1 G.2.1 hdg ht (fun h => kt h H locs ls hH hS hl hn9) (fun h => kf h H locs ls hH hS hl hn9)
theorem z_goto (G : pm_G E C own cc nL d mc0 ms0) {off : Int} (tgt : Nat) (hdg : decode cc pc = .ok (.goto off, 3)) (ht : (pc : Int) + off = (tgt : Int)) (k : pmZ E C tgt lv (st) S I P ca sl) : pmZ E C pc lv (st) S I P ca sl :=
  fun H locs ls hH hS hl hn9 => lv_goto G.1 G.2.1 hdg ht (k H locs ls hH hS hl hn9)
theorem z_tin (G : pm_G E C own cc nL d mc0 ms0) {dflt lo hi : Int} {offs : Array Int} {len : Nat} {x : Int32} {off : Int} (tgt : Nat) (hdg : decode cc pc = .ok (.tableswitch dflt lo hi offs, len)) (h1 : ¬ x.toInt < lo) (h2 : ¬ hi < x.toInt) (ho : offs[(x.toInt - lo).toNat]? = some off) (ht : (pc : Int) + off = (tgt : Int)) (k : pmZ E C tgt lv (st) S I P ca sl) : pmZ E C pc lv (.int x :: st) S I P ca sl :=
  fun H locs ls hH hS hl hn9 => lv_tableIn G.1 G.2.1 hdg h1 h2 ho ht (k H locs ls hH hS hl hn9)
theorem z_tout (G : pm_G E C own cc nL d mc0 ms0) {dflt lo hi : Int} {offs : Array Int} {len : Nat} {x : Int32} (tgt : Nat) (hdg : decode cc pc = .ok (.tableswitch dflt lo hi offs, len)) (h : x.toInt < lo ∨ hi < x.toInt) (ht : (pc : Int) + dflt = (tgt : Int)) (k : pmZ E C tgt lv (st) S I P ca sl) : pmZ E C pc lv (.int x :: st) S I P ca sl :=
  fun H locs ls hH hS hl hn9 => lv_tableOut G.1 G.2.1 hdg h ht (k H locs ls hH hS hl hn9)
theorem z_dup (G : pm_G E C own cc nL d mc0 ms0) {va : Value} (hdg : decode cc pc = .ok (.dup, 1)) (hva : va.category = 1) (k : pmZ E C (pc + 1) lv (va :: va :: st) S I P ca sl) : pmZ E C pc lv (va :: st) S I P ca sl :=
  fun H locs ls hH hS hl hn9 => lv_dup G.1 G.2.1 hdg hva (k H locs ls hH hS hl hn9)
theorem z_pop (G : pm_G E C own cc nL d mc0 ms0) {va : Value} (hdg : decode cc pc = .ok (.pop, 1)) (hva : va.category = 1) (k : pmZ E C (pc + 1) lv (st) S I P ca sl) : pmZ E C pc lv (va :: st) S I P ca sl :=
  fun H locs ls hH hS hl hn9 => lv_pop G.1 G.2.1 hdg hva (k H locs ls hH hS hl hn9)
theorem z_dup2 (G : pm_G E C own cc nL d mc0 ms0) {va vb : Value} (hdg : decode cc pc = .ok (.dup2, 1)) (hva : va.category = 1) (hvb : vb.category = 1) (k : pmZ E C (pc + 1) lv (va :: vb :: va :: vb :: st) S I P ca sl) : pmZ E C pc lv (va :: vb :: st) S I P ca sl :=
  fun H locs ls hH hS hl hn9 => lv_dup2_11 G.1 G.2.1 hdg hva hvb (k H locs ls hH hS hl hn9)
theorem z_ldc (G : pm_G E C own cc nL d mc0 ms0) {idx : Nat} {v : Int32} (hw : Cond.constant own idx v ∈ pm_tb) (hdg : decode cc pc = .ok (.ldc idx, 2)) (k : pmZ E C (pc + 2) lv (.int v :: st) S I P ca sl) : pmZ E C pc lv (st) S I P ca sl :=
  fun H locs ls hH hS hl hn9 => lv_ldc G.1 G.2.1 G.2.2.2.1 (G.2.2.2.2.1 _ hw) hdg (k H locs ls hH hS hl hn9)
theorem z_ldcw (G : pm_G E C own cc nL d mc0 ms0) {idx : Nat} {v : Int32} (hw : Cond.constant own idx v ∈ pm_tb) (hdg : decode cc pc = .ok (.ldc_w idx, 3)) (k : pmZ E C (pc + 3) lv (.int v :: st) S I P ca sl) : pmZ E C pc lv (st) S I P ca sl :=
  fun H locs ls hH hS hl hn9 => lv_ldcw G.1 G.2.1 G.2.2.2.1 (G.2.2.2.2.1 _ hw) hdg (k H locs ls hH hS hl hn9)
theorem z_ldc2 (G : pm_G E C own cc nL d mc0 ms0) {idx : Nat} {v : Int64} (hw : Cond.constantLong own idx v ∈ pm_tb) (hdg : decode cc pc = .ok (.ldc2_w idx, 3)) (k : pmZ E C (pc + 3) lv (.long v :: st) S I P ca sl) : pmZ E C pc lv (st) S I P ca sl :=
  fun H locs ls hH hS hl hn9 => lv_ldc2 G.1 G.2.1 G.2.2.2.1 (G.2.2.2.2.1 _ hw) hdg (k H locs ls hH hS hl hn9)
def OB (S : pmS) (a ci : Nat) : Prop := a < S.1 ∧ S.2.1 a = ci
def AR (S : pmS) (a c n : Nat) : Prop := a < S.1 ∧ S.2.1 a = c ∧ S.2.2 a = n
/-- a field's link: class number, place, whether it is an int -/
def pm_fl (own : String) (idx ci k : Nat) : Prop := ∃ (q : vw_C), vwCl[ci]? = some q ∧ ci < 11 ∧ k < q.2.2 ∧ q.2.2 = (pm_ts ci).length ∧ Cond.fieldLink own idx q.1 (q.2.1 k).2.1 (q.2.1 k).2.2.1 ∈ pm_tb ∧ (∀ w ∈ u_ws q.1 q.2.1 q.2.2, w ∈ pm_tb) ∧ (q.2.1 k).1 = q.1
theorem z_getI (G : pm_G E C own cc nL d mc0 ms0) {idx ci j a : Nat} (L : pm_fl own idx ci j) (hI : (pm_ts ci).getD j true = true) (hdg : decode cc pc = .ok (.getfield idx, 3)) (ho : OB S a ci) (k : pmZ E C (pc + 3) lv (.int (I a j) :: st) S I P ca sl) : pmZ E C pc lv (rr E a :: st) S I P ca sl := by
  intro H locs ls hH hS hl hn9
  obtain ⟨ha, hc⟩ := ho
  obtain ⟨⟨Cn, T, N⟩, l1, l2, l3, l4, l5, l6, l7⟩ := L
  refine va_get (D := E.2.2.1) (ci := ci) (v := .int (I a j)) (C := Cn) (T := T) (N := N) G.1 G.2.1 G.2.2.2.2.1 l6 G.2.2.2.1 G.2.2.2.2.2.1 hH a (fs := pm_fs E ci I P a) (by rw [pm_w_get ha, pm_cell_o hc l2]) l1 j l3 (G.2.2.2.2.1 _ l5) (by rw [show (T j).1 = Cn from l7]; exact fun _ h9 => h9) (by rw [pm_fs_get (by rw [← l4]; exact l3)]; simp only [pm_fv, hI, if_true]) hdg (k H locs ls hH hS hl hn9)
theorem z_getR (G : pm_G E C own cc nL d mc0 ms0) {idx ci j a q : Nat} (L : pm_fl own idx ci j) (hI : (pm_ts ci).getD j true = false) (hdg : decode cc pc = .ok (.getfield idx, 3)) (ho : OB S a ci) (hp : P a j = some q) (k : pmZ E C (pc + 3) lv (rr E q :: st) S I P ca sl) : pmZ E C pc lv (rr E a :: st) S I P ca sl := by
  intro H locs ls hH hS hl hn9
  obtain ⟨ha, hc⟩ := ho
  obtain ⟨⟨Cn, T, N⟩, l1, l2, l3, l4, l5, l6, l7⟩ := L
  refine va_get (D := E.2.2.1) (ci := ci) (v := rr E q) (C := Cn) (T := T) (N := N) G.1 G.2.1 G.2.2.2.2.1 l6 G.2.2.2.1 G.2.2.2.2.2.1 hH a (fs := pm_fs E ci I P a) (by rw [pm_w_get ha, pm_cell_o hc l2]) l1 j l3 (G.2.2.2.2.1 _ l5) (by rw [show (T j).1 = Cn from l7]; exact fun _ h9 => h9) (by rw [pm_fs_get (by rw [← l4]; exact l3)]; simp only [pm_fv, hI, hp]; rfl) hdg (k H locs ls hH hS hl hn9)
/-- the class's own table of fields: names apart, types as parsed -/
def pm_ft (ci k : Nat) (fin : Bool) (ty : FieldType) : Prop := ∃ (q : vw_C) (t0 : Nat → FieldType), vwCl[ci]? = some q ∧ (∀ k, k < q.2.2 → parseFieldDescriptor (q.2.1 k).2.2.1 = some (t0 k)) ∧ (∀ a, a < q.2.2 → ∀ b, b < q.2.2 → a ≠ b → (q.2.1 a).2.1 ≠ (q.2.1 b).2.1) ∧ (q.2.1 k).2.2.2 = fin ∧ t0 k = ty
theorem z_putI (G : pm_G E C own cc nL d mc0 ms0) {idx ci j a : Nat} {ty : FieldType} {v : Int32} (L : pm_fl own idx ci j) (F : pm_ft ci j false ty) (hI : (pm_ts ci).getD j true = true) (hn : narrow ty (.int v) = .int v) (hfit : fits ty (.int v) = true) (hdg : decode cc pc = .ok (.putfield idx, 3)) (ho : OB S a ci) (k : pmZ E C (pc + 3) lv (st) S (va_up I a (va_up (I a) j v)) P ca sl) : pmZ E C pc lv (.int v :: rr E a :: st) S I P ca sl := by
  intro H locs ls hH hS hl hn9
  obtain ⟨ha, hc⟩ := ho
  obtain ⟨⟨Cn, T, N⟩, l1, l2, l3, l4, l5, l6, l7⟩ := L
  obtain ⟨⟨Cn', T', N'⟩, t0, f1, f2, f3, f4, f5⟩ := F
  cases l1.symm.trans f1
  refine va_put (D := E.2.2.1) (ci := ci) (v := .int v) (C := Cn) (T := T) (N := N) (A := pm_A E) G.1 G.2.1 G.2.2.2.2.1 l6 t0 f2 f3 G.2.2.2.1 G.2.2.2.2.2.1 hH pm_w_D hS a (fs := pm_fs E ci I P a) (by rw [pm_w_get ha, pm_cell_o hc l2]) l1 j l3 (G.2.2.2.2.1 _ l5) (by rw [show (T j).1 = Cn from l7]; exact fun _ h9 => h9) f4 (ty := ty) (by rw [← f5]; exact f2 j l3) hn hfit (by simp only [pm_fs, List.length_map, List.length_range]; rw [← l4]; exact l3) hdg (fun H1 locs1 hP1 hD1 hS1 => ?_)
  have e : (pm_w E S I P).set a (E.2.1 + a, .inr (ci, (pm_fs E ci I P a).set j (.int v))) = pm_w E S (va_up I a (va_up (I a) j v)) P := pm_w_set (by rw [pm_cell_o hc l2, pm_fs_setI hI]) (fun i hi => pm_cell_I hi)
  rw [e] at hP1
  exact k H1 locs1 ls hP1 hS1 hl hn9
theorem vp_in_t {i : Int32} {j n : Nat} (hi : i.toInt = (j : Int)) (hj : j < n) : vp_in i n ∧ i.toNatClampNeg = j := by
  have h : i.toNatClampNeg = j := by show i.toInt.toNat = j; omega
  refine ⟨fun q => ?_, h⟩
  rcases q with q | q
  · have := Int32.lt_iff_toInt_lt.mp q
    simp at this
    omega
  · omega
theorem z_iald (G : pm_G E C own cc nL d mc0 ms0) {a n : Nat} {i : Int32} (j : Nat) (hdg : decode cc pc = .ok (.iaload, 1)) (ho : AR S a 11 n) (hi : i.toInt = (j : Int)) (hj : j < n) (k : pmZ E C (pc + 1) lv (.int (I a j) :: st) S I P ca sl) : pmZ E C pc lv (.int i :: rr E a :: st) S I P ca sl := by
  intro H locs ls hH hS hl hn9
  obtain ⟨ha, hc, hn⟩ := ho
  obtain ⟨h1, h2⟩ := vp_in_t hi hj
  refine va_iald G.1 G.2.1 G.2.2.2.2.2.1 hH a 0 (f := I a) (cA := E.2.2.2.1 11) (n := n) (by rw [pm_w_get ha, pm_cell_i hc (by decide) (by decide) hn]) rfl h1 hdg ?_
  rw [h2]
  exact k H locs ls hH hS hl hn9
theorem z_bald (G : pm_G E C own cc nL d mc0 ms0) {a n : Nat} {i : Int32} (j : Nat) (hdg : decode cc pc = .ok (.baload, 1)) (ho : AR S a 12 n) (hi : i.toInt = (j : Int)) (hj : j < n) (k : pmZ E C (pc + 1) lv (.int (I a j) :: st) S I P ca sl) : pmZ E C pc lv (.int i :: rr E a :: st) S I P ca sl := by
  intro H locs ls hH hS hl hn9
  obtain ⟨ha, hc, hn⟩ := ho
  obtain ⟨h1, h2⟩ := vp_in_t hi hj
  refine va_zald G.1 G.2.1 G.2.2.2.2.2.1 hH a 1 (f := I a) (cA := E.2.2.2.1 12) (n := n) (by rw [pm_w_get ha, pm_cell_i hc (by decide) (by decide) hn]) rfl h1 hdg ?_
  rw [h2]
  exact k H locs ls hH hS hl hn9
theorem z_iast (G : pm_G E C own cc nL d mc0 ms0) {a n : Nat} {i x : Int32} (j : Nat) (hdg : decode cc pc = .ok (.iastore, 1)) (ho : AR S a 11 n) (hi : i.toInt = (j : Int)) (hj : j < n) (k : pmZ E C (pc + 1) lv (st) S (va_up I a (va_up (I a) j x)) P ca sl) : pmZ E C pc lv (.int x :: .int i :: rr E a :: st) S I P ca sl := by
  intro H locs ls hH hS hl hn9
  obtain ⟨ha, hc, hn⟩ := ho
  obtain ⟨h1, h2⟩ := vp_in_t hi hj
  refine va_iast G.1 G.2.1 G.2.2.2.2.2.1 hH (pm_w_D (E := E)) hS a 0 (f := I a) (cA := E.2.2.2.1 11) (n := n) (by rw [pm_w_get ha, pm_cell_i hc (by decide) (by decide) hn]) rfl h1 hdg (fun H1 locs1 hP1 hD1 hS1 => ?_)
  rw [h2] at hP1
  have e : (pm_w E S I P).set a (E.2.1 + a, .inl (E.2.2.2.1 11, n, .inl (upd (I a) j x))) = pm_w E S (va_up I a (va_up (I a) j x)) P := pm_w_set (by rw [pm_cell_i hc (by decide) (by decide) hn, va_up_self]; rfl) (fun i hi => pm_cell_I hi)
  rw [e] at hP1
  exact k H1 locs1 ls hP1 hS1 hl hn9
theorem z_bast (G : pm_G E C own cc nL d mc0 ms0) {a n : Nat} {i x : Int32} (j : Nat) (hdg : decode cc pc = .ok (.bastore, 1)) (ho : AR S a 12 n) (hi : i.toInt = (j : Int)) (hj : j < n) (hx : vp_nar .boolean x = x) (k : pmZ E C (pc + 1) lv (st) S (va_up I a (va_up (I a) j x)) P ca sl) : pmZ E C pc lv (.int x :: .int i :: rr E a :: st) S I P ca sl := by
  intro H locs ls hH hS hl hn9
  obtain ⟨ha, hc, hn⟩ := ho
  obtain ⟨h1, h2⟩ := vp_in_t hi hj
  refine va_zast G.1 G.2.1 G.2.2.2.2.2.1 hH (pm_w_D (E := E)) hS a 1 (f := I a) (cA := E.2.2.2.1 12) (n := n) (by rw [pm_w_get ha, pm_cell_i hc (by decide) (by decide) hn]) rfl h1 hdg (fun H1 locs1 hP1 hD1 hS1 => ?_)
  rw [h2, hx] at hP1
  have e : (pm_w E S I P).set a (E.2.1 + a, .inl (E.2.2.2.1 12, n, .inl (upd (I a) j x))) = pm_w E S (va_up I a (va_up (I a) j x)) P := pm_w_set (by rw [pm_cell_i hc (by decide) (by decide) hn, va_up_self]; rfl) (fun i hi => pm_cell_I hi)
  rw [e] at hP1
  exact k H1 locs1 ls hP1 hS1 hl hn9
theorem z_aald (G : pm_G E C own cc nL d mc0 ms0) {a n c q : Nat} {Cn : String} {i : Int32} (t0 j : Nat) (ht : (pm_tys E)[t0]? = some (E.2.2.2.1 c, .object Cn)) (hc13 : ¬ c < 13) (hdg : decode cc pc = .ok (.aaload, 1)) (ho : AR S a c n) (hi : i.toInt = (j : Int)) (hj : j < n) (hp : P a j = some q) (k : pmZ E C (pc + 1) lv (rr E q :: st) S I P ca sl) : pmZ E C pc lv (.int i :: rr E a :: st) S I P ca sl := by
  intro H locs ls hH hS hl hn9
  obtain ⟨ha, hc, hn⟩ := ho
  obtain ⟨h1, h2⟩ := vp_in_t hi hj
  refine va_aldq (C := Cn) G.1 G.2.1 G.2.2.2.2.2.1 hH a t0 (f := fun j => pm_rv E (P a j)) (cA := E.2.2.2.1 c) (n := n) (by rw [pm_w_get ha, pm_cell_q hc hc13 hn]) ht h1 hdg ?_
  rw [h2, hp]
  exact k H locs ls hH hS hl hn9
theorem z_aast (G : pm_G E C own cc nL d mc0 ms0) {a n c q ci : Nat} {r : vw_C} {i : Int32} (t0 j : Nat) (ht : (pm_tys E)[t0]? = some (E.2.2.2.1 c, .object r.1)) (hr : vwCl[ci]? = some r) (hci : ci < 11) (hc13 : ¬ c < 13) (hdg : decode cc pc = .ok (.aastore, 1)) (ho : AR S a c n) (hi : i.toInt = (j : Int)) (hj : j < n) (hq : OB S q ci) (k : pmZ E C (pc + 1) lv (st) S I (va_up P a (va_up (P a) j (some q))) ca sl) : pmZ E C pc lv (rr E q :: .int i :: rr E a :: st) S I P ca sl := by
  intro H locs ls hH hS hl hn9
  obtain ⟨ha, hc, hn⟩ := ho
  obtain ⟨hq1, hq2⟩ := hq
  obtain ⟨h1, h2⟩ := vp_in_t hi hj
  refine va_astq (r := r) (vs := pm_fs E ci I P q) G.1 G.2.1 G.2.2.2.2.2.1 hH (pm_w_D (E := E)) hS a t0 q ci (f := fun j => pm_rv E (P a j)) (cA := E.2.2.2.1 c) (n := n) (by rw [pm_w_get ha, pm_cell_q hc hc13 hn]) ht (by rw [pm_w_get hq1, pm_cell_o hq2 hci]) hr h1 hdg (fun H1 locs1 hP1 hD1 hS1 => ?_)
  rw [h2] at hP1
  have e : (pm_w E S I P).set a (E.2.1 + a, .inl (E.2.2.2.1 c, n, .inr (.inr (.inr (.inr (va_up (fun j => pm_rv E (P a j)) j (some (E.2.1 + q)))))))) = pm_w E S I (va_up P a (va_up (P a) j (some q))) := pm_w_set (by
    rw [pm_cell_q hc hc13 hn, va_up_self]
    congr 7
    funext x
    by_cases hx : x = j
    · subst hx
      simp only [va_up_self]
      rfl
    · simp only [va_up_ne _ _ hx]) (fun i hi => pm_cell_P hi)
  rw [e] at hP1
  exact k H1 locs1 ls hP1 hS1 hl hn9
theorem z_alen (G : pm_G E C own cc nL d mc0 ms0) {a n c : Nat} {ty : FieldType} {v : Int32} (t0 : Nat) (ht : (pm_tys E)[t0]? = some (E.2.2.2.1 c, ty)) (hc11 : ¬ c < 11) (hdg : decode cc pc = .ok (.arraylength, 1)) (ho : AR S a c n) (hv : Int32.ofNat n = v) (k : pmZ E C (pc + 1) lv (.int v :: st) S I P ca sl) : pmZ E C pc lv (rr E a :: st) S I P ca sl := by
  intro H locs ls hH hS hl hn9
  obtain ⟨ha, hc, hn⟩ := ho
  by_cases h13 : c < 13
  · exact va_alen G.1 G.2.1 G.2.2.2.2.2.1 hH a t0 (cA := E.2.2.2.1 c) (x := (n, .inl (I a))) (by rw [pm_w_get ha, pm_cell_i hc hc11 h13 hn]) ht hv hdg (k H locs ls hH hS hl hn9)
  · exact va_alen G.1 G.2.1 G.2.2.2.2.2.1 hH a t0 (cA := E.2.2.2.1 c) (x := (n, .inr (.inr (.inr (.inr (fun j => pm_rv E (P a j))))))) (by rw [pm_w_get ha, pm_cell_q hc h13 hn]) ht hv hdg (k H locs ls hH hS hl hn9)
/-- a static table's address on the stack -/
def rs (E : pmE) (i : Nat) : Value := .ref (E.2.2.2.2 i)
theorem z_gets (G : pm_G E C own cc nL d mc0 ms0) {idx : Nat} {ref : String} (i : Nat) (h3 : i < 3) (hw : Cond.fieldLink own idx ref (pm_sc i).2 "[I" ∈ pm_tb) (hr : ref = (pm_sc i).1) (hdg : decode cc pc = .ok (.getstatic idx, 3)) (k : pmZ E C (pc + 3) lv (rs E i :: st) S I P ca sl) : pmZ E C pc lv (st) S I P ca sl := by
  intro H locs ls hH hS hl hn9
  subst hr
  exact va_gets G.1 G.2.1 (G.2.2.2.2.2.2.1 i h3).1 hS G.2.2.2.1 (G.2.2.2.2.1 _ hw) (fun _ h => h) hdg (k H locs ls hH hS hl hn9)
theorem z_getsN (G : pm_G E C own cc nL d mc0 ms0) {idx : Nat} {ref host : String} (i : Nat) (h3 : i < 3) (hw : ∀ s, pm_N s → va_Nw (.fieldLinkNest own idx ref (pm_sc i).2 "[I" host) s) (hr : ref = (pm_sc i).1) (hdg : decode cc pc = .ok (.getstatic idx, 3)) (k : pmZ E C (pc + 3) lv (rs E i :: st) S I P ca sl) : pmZ E C pc lv (st) S I P ca sl := by
  intro H locs ls hH hS hl hn9
  subst hr
  exact va_getsN G.1 G.2.1 (G.2.2.2.2.2.2.1 i h3).1 hS G.2.2.2.1 (va_Nw.use rfl (hw _ G.2.2.2.2.2.2.2.2.2.2)) (fun _ h => h) hdg (k H locs ls hH hS hl hn9)
theorem z_tald (G : pm_G E C own cc nL d mc0 ms0) {x : Int32} (i j : Nat) (h3 : i < 3) (hdg : decode cc pc = .ok (.iaload, 1)) (hi : x.toInt = (j : Int)) (hj : j < 6) (k : pmZ E C (pc + 1) lv (.int (pm_st i j) :: st) S I P ca sl) : pmZ E C pc lv (.int x :: rs E i :: st) S I P ca sl := by
  intro H locs ls hH hS hl hn9
  obtain ⟨h1, h2⟩ := vp_in_t hi hj
  exact va_ti G.1 G.2.1 (G.2.2.2.2.2.2.1 i h3).2 hS h1 (v := .int (pm_st i j)) (by rw [h2]) hdg (k H locs ls hH hS hl hn9)
theorem z_tlen (G : pm_G E C own cc nL d mc0 ms0) (i : Nat) (h3 : i < 3) (hdg : decode cc pc = .ok (.arraylength, 1)) (k : pmZ E C (pc + 1) lv (.int 6 :: st) S I P ca sl) : pmZ E C pc lv (rs E i :: st) S I P ca sl := by
  intro H locs ls hH hS hl hn9
  exact va_tlen G.1 G.2.1 (G.2.2.2.2.2.2.1 i h3).2 hS rfl hdg (k H locs ls hH hS hl hn9)
theorem z_mmax (G : pm_G E C own cc nL (d + 1) mc0 ms0) {idx : Nat} {x y : Int32} (hl1 : Cond.methodLink own idx Lib.Math.max.name ∈ pm_tb) (h2 : Cond.static Lib.Math.max.name ∈ pm_tb) (h3 : Cond.initialized "java/lang/Math" ∈ pm_tb) (h4 : Cond.code Lib.Math.max.name Lib.Math.max.code 2 (some .int) ∈ pm_tb) (hdg : decode cc pc = .ok (.invokestatic idx, 3)) (hnL : lv.length = nL) (hW : (st.map fun v => v.category).sum ≤ 8) (hca : ca ≤ mc0 ∧ sl ≤ ms0) (k : pmZ E C (pc + 3) lv (.int (if x < y then y else x) :: st) S I P ca sl) : pmZ E C pc lv (.int y :: .int x :: st) S I P ca sl := by
  intro H locs ls hH hS hl hn9
  have hR := G.2.2.2.2.2.2.2.1
  exact va_mmax G.1 G.2.1 (by rw [G.2.2.1, hl.1, hnL]) G.2.2.2.1 (G.2.2.2.2.1 _ hl1) (G.2.2.2.2.1 _ h2) (G.2.2.2.2.1 _ h3) (G.2.2.2.2.1 _ h4) (by omega) (by omega) (by rw [hR.2.2.1]; exact hca.1) (by rw [hR.2.2.2]; exact hca.2) hdg (k H locs ls hH hS hl hn9)
theorem z_mmin (G : pm_G E C own cc nL (d + 1) mc0 ms0) {idx : Nat} {x y : Int32} (hl1 : Cond.methodLink own idx Lib.Math.min.name ∈ pm_tb) (h2 : Cond.static Lib.Math.min.name ∈ pm_tb) (h3 : Cond.initialized "java/lang/Math" ∈ pm_tb) (h4 : Cond.code Lib.Math.min.name Lib.Math.min.code 2 (some .int) ∈ pm_tb) (hdg : decode cc pc = .ok (.invokestatic idx, 3)) (hnL : lv.length = nL) (hW : (st.map fun v => v.category).sum ≤ 8) (hca : ca ≤ mc0 ∧ sl ≤ ms0) (k : pmZ E C (pc + 3) lv (.int (if y < x then y else x) :: st) S I P ca sl) : pmZ E C pc lv (.int y :: .int x :: st) S I P ca sl := by
  intro H locs ls hH hS hl hn9
  have hR := G.2.2.2.2.2.2.2.1
  exact va_mmin G.1 G.2.1 (by rw [G.2.2.1, hl.1, hnL]) G.2.2.2.1 (G.2.2.2.2.1 _ hl1) (G.2.2.2.2.1 _ h2) (G.2.2.2.2.1 _ h3) (G.2.2.2.2.1 _ h4) (by omega) (by omega) (by rw [hR.2.2.1]; exact hca.1) (by rw [hR.2.2.2]; exact hca.2) hdg (k H locs ls hH hS hl hn9)
theorem z_copy (G : pm_G E C own cc nL (d + 1) mc0 ms0) {idx a0 a n0 n1 : Nat} {sp dp n : Int32} (j0 j1 m : Nat) (hl1 : Cond.methodLink own idx arraycopyName ∈ pm_tb) (h2 : Cond.native arraycopyName ∈ pm_tb) (h3 : Cond.static arraycopyName ∈ pm_tb) (h4 : Cond.initialized "java/lang/System" ∈ pm_tb) (hdg : decode cc pc = .ok (.invokestatic idx, 3)) (hnL : lv.length = nL) (hW : (st.map fun v => v.category).sum ≤ 8) (ho0 : AR S a0 11 n0) (ho1 : AR S a 11 n1)
    (hi0 : sp.toInt = (j0 : Int)) (hi1 : dp.toInt = (j1 : Int)) (him : n.toInt = (m : Int)) (hj0 : j0 + m ≤ n0) (hj1 : j1 + m ≤ n1) (k : pmZ E C (pc + 3) lv (st) S (va_up I a (va_cpy (I a0) (I a) j0 j1 m)) P ca sl) : pmZ E C pc lv (.int n :: .int dp :: rr E a :: .int sp :: rr E a0 :: st) S I P ca sl := by
  intro H locs ls hH hS hl hn9
  obtain ⟨ha, hc, hn⟩ := ho0
  obtain ⟨ha1, hc1, hn1⟩ := ho1
  have hR := G.2.2.2.2.2.2.2.1
  have cl : ∀ {x : Int32} {j : Nat}, x.toInt = (j : Int) → x.toNatClampNeg = j := fun {x j} h => by show x.toInt.toNat = j; omega
  have nn : ∀ {x : Int32} {j : Nat}, x.toInt = (j : Int) → ¬ x < 0 := fun {x j} h q => by
    have := Int32.lt_iff_toInt_lt.mp q
    simp at this
    omega
  have hw : nativeFrameWords "java/lang/System" "arraycopy" 5 ≤ 20 := by decide
  refine va_copyi (ty := .int) G.1 G.2.1 (by rw [G.2.2.1, hl.1, hnL]) G.2.2.2.1 (G.2.2.2.2.1 _ hl1) (G.2.2.2.2.1 _ h2) (G.2.2.2.2.1 _ h3) (G.2.2.2.2.1 _ h4) G.2.2.2.2.2.1 hH (pm_w_D (E := E)) hS a0 a 0 0 (f := I a0) (g := I a) (by rw [pm_w_get ha, pm_cell_i hc (by decide) (by decide) hn]) (by rw [pm_w_get ha1, pm_cell_i hc1 (by decide) (by decide) hn1]) rfl rfl rfl (nn hi0) (nn hi1) (nn him) (by rw [cl hi0, cl him]; exact hj0) (by rw [cl hi1, cl him]; exact hj1) (fun _ _ => rfl) (by omega) (by omega) hdg (fun H1 locs1 hP1 hD1 hS1 => ?_)
  rw [cl hi0, cl hi1, cl him] at hP1
  have e : (pm_w E S I P).set a (E.2.1 + a, .inl (E.2.2.2.1 11, n1, .inl (va_cpy (I a0) (I a) j0 j1 m))) = pm_w E S (va_up I a (va_cpy (I a0) (I a) j0 j1 m)) P := pm_w_set (by rw [pm_cell_i hc1 (by decide) (by decide) hn1, va_up_self]) (fun i hi => pm_cell_I hi)
  rw [e] at hP1
  exact k H1 locs1 ls hP1 hS1 hl hn9
theorem z_iret (G : pm_G E C own cc nL d mc0 ms0) {n : Nat} {R : Option Value → pmS → pmI → pmP → Prop} {v : Int32} (hq : pm_R E C (some .int) n mc0 ms0 R) (hdg : decode cc pc = .ok (.ireturn, 1)) (h : R (some (.int v)) S I P) : pmZ E C pc lv ([.int v]) S I P mc0 ms0 := by
  intro H locs ls hH hS hl hn9
  obtain ⟨q1, q2, q3⟩ := hq
  rw [q2]
  exact W.iret (v := v) G.1 G.2.1 q1 (fun t ht hW => ⟨⟨some (.int v), S, I, P, rfl, h, by rw [ht]; exact hH, by omega⟩, hS.F ht⟩) hS.2.2 hdg G.2.2.2.2.2.2.2.2.2.1
theorem z_zret (G : pm_G E C own cc nL d mc0 ms0) {n : Nat} {R : Option Value → pmS → pmI → pmP → Prop} {v : Int32} (hq : pm_R E C (some .boolean) n mc0 ms0 R) (hdg : decode cc pc = .ok (.ireturn, 1)) (hv : narrow .boolean (.int v) = .int v) (h : R (some (.int v)) S I P) : pmZ E C pc lv ([.int v]) S I P mc0 ms0 := by
  intro H locs ls hH hS hl hn9
  obtain ⟨q1, q2, q3⟩ := hq
  rw [q2]
  exact W.zret (v := v) G.1 G.2.1 q1 hv (fun t ht hW => ⟨⟨some (.int v), S, I, P, rfl, h, by rw [ht]; exact hH, by omega⟩, hS.F ht⟩) hS.2.2 hdg G.2.2.2.2.2.2.2.2.2.1
theorem z_vret (G : pm_G E C own cc nL d mc0 ms0) {n : Nat} {R : Option Value → pmS → pmI → pmP → Prop} (hq : pm_R E C none n mc0 ms0 R) (hdg : decode cc pc = .ok (.return_, 1)) (h : R none S I P) : pmZ E C pc lv ([]) S I P mc0 ms0 := by
  intro H locs ls hH hS hl hn9
  obtain ⟨q1, q2, q3⟩ := hq
  rw [q2]
  exact W.vret G.1 G.2.1 q1 (fun t ht hW => ⟨⟨none, S, I, P, rfl, h, by rw [ht]; exact hH, by omega⟩, hS.F ht⟩) hS.2.2 hdg G.2.2.2.2.2.2.2.2.2.1
theorem z_aret (G : pm_G E C own cc nL d mc0 ms0) {n a : Nat} {Cn : String} {R : Option Value → pmS → pmI → pmP → Prop} (hq : pm_R E C (some (.object Cn)) n mc0 ms0 R) (hdg : decode cc pc = .ok (.areturn, 1)) (h : R (some (rr E a)) S I P) : pmZ E C pc lv ([rr E a]) S I P mc0 ms0 := by
  intro H locs ls hH hS hl hn9
  obtain ⟨q1, q2, q3⟩ := hq
  rw [q2]
  exact W.aret (v := rr E a) G.1 G.2.1 q1 (Or.inl ⟨_, rfl⟩) (Or.inr ⟨_, rfl⟩) (fun t ht hW => ⟨⟨some (rr E a), S, I, P, rfl, h, by rw [ht]; exact hH, by omega⟩, hS.F ht⟩) hS.2.2 hdg G.2.2.2.2.2.2.2.2.2.1
end ROWS
end
section
theorem fw_0 : ∀ w ∈ u_ws RX0 TX0 3, w ∈ pm_tb := by decide +kernel
theorem ft_0_1 : pm_ft 0 1 false .int := ⟨(RX0, TX0, 3), tyX0, rfl, tyX0_ok, nmX0, rfl, rfl⟩
theorem ft_0_2 : pm_ft 0 2 false .int := ⟨(RX0, TX0, 3), tyX0, rfl, tyX0_ok, nmX0, rfl, rfl⟩
theorem fw_1 : ∀ w ∈ u_ws RX1 TX1 6, w ∈ pm_tb := by decide +kernel
theorem ft_1_3 : pm_ft 1 3 false .int := ⟨(RX1, TX1, 6), tyX1, rfl, tyX1_ok, nmX1, rfl, rfl⟩
theorem ft_1_4 : pm_ft 1 4 false .int := ⟨(RX1, TX1, 6), tyX1, rfl, tyX1_ok, nmX1, rfl, rfl⟩
theorem ft_1_5 : pm_ft 1 5 false .int := ⟨(RX1, TX1, 6), tyX1, rfl, tyX1_ok, nmX1, rfl, rfl⟩
theorem fw_2 : ∀ w ∈ u_ws RX2 TX2 9, w ∈ pm_tb := by decide +kernel
theorem ft_2_8 : pm_ft 2 8 false .int := ⟨(RX2, TX2, 9), tyX2, rfl, tyX2_ok, nmX2, rfl, rfl⟩
theorem fw_3 : ∀ w ∈ u_ws RX3 TX3 3, w ∈ pm_tb := by decide +kernel
theorem ft_3_1 : pm_ft 3 1 false .int := ⟨(RX3, TX3, 3), tyX3, rfl, tyX3_ok, nmX3, rfl, rfl⟩
theorem ft_3_2 : pm_ft 3 2 false .int := ⟨(RX3, TX3, 3), tyX3, rfl, tyX3_ok, nmX3, rfl, rfl⟩
theorem fw_4 : ∀ w ∈ u_ws RX4 TX4 3, w ∈ pm_tb := by decide +kernel
theorem ft_4_2 : pm_ft 4 2 false .boolean := ⟨(RX4, TX4, 3), tyX4, rfl, tyX4_ok, nmX4, rfl, rfl⟩
theorem fw_5 : ∀ w ∈ u_ws RX5 TX5 11, w ∈ pm_tb := by decide +kernel
theorem ft_5_3 : pm_ft 5 3 false .int := ⟨(RX5, TX5, 11), tyX5, rfl, tyX5_ok, nmX5, rfl, rfl⟩
theorem ft_5_4 : pm_ft 5 4 false .int := ⟨(RX5, TX5, 11), tyX5, rfl, tyX5_ok, nmX5, rfl, rfl⟩
theorem ft_5_5 : pm_ft 5 5 false .int := ⟨(RX5, TX5, 11), tyX5, rfl, tyX5_ok, nmX5, rfl, rfl⟩
theorem ft_5_6 : pm_ft 5 6 false .int := ⟨(RX5, TX5, 11), tyX5, rfl, tyX5_ok, nmX5, rfl, rfl⟩
theorem ft_5_7 : pm_ft 5 7 false .int := ⟨(RX5, TX5, 11), tyX5, rfl, tyX5_ok, nmX5, rfl, rfl⟩
theorem ft_5_8 : pm_ft 5 8 false .int := ⟨(RX5, TX5, 11), tyX5, rfl, tyX5_ok, nmX5, rfl, rfl⟩
theorem ft_5_9 : pm_ft 5 9 false .int := ⟨(RX5, TX5, 11), tyX5, rfl, tyX5_ok, nmX5, rfl, rfl⟩
theorem ft_5_10 : pm_ft 5 10 false .int := ⟨(RX5, TX5, 11), tyX5, rfl, tyX5_ok, nmX5, rfl, rfl⟩
theorem fw_6 : ∀ w ∈ u_ws RX6 TX6 4, w ∈ pm_tb := by decide +kernel
theorem ft_6_1 : pm_ft 6 1 false .boolean := ⟨(RX6, TX6, 4), tyX6, rfl, tyX6_ok, nmX6, rfl, rfl⟩
theorem ft_6_2 : pm_ft 6 2 false .int := ⟨(RX6, TX6, 4), tyX6, rfl, tyX6_ok, nmX6, rfl, rfl⟩
theorem ft_6_3 : pm_ft 6 3 false .int := ⟨(RX6, TX6, 4), tyX6, rfl, tyX6_ok, nmX6, rfl, rfl⟩
theorem fw_7 : ∀ w ∈ u_ws RX7 TX7 5, w ∈ pm_tb := by decide +kernel
theorem ft_7_1 : pm_ft 7 1 false .int := ⟨(RX7, TX7, 5), tyX7, rfl, tyX7_ok, nmX7, rfl, rfl⟩
theorem ft_7_2 : pm_ft 7 2 false .int := ⟨(RX7, TX7, 5), tyX7, rfl, tyX7_ok, nmX7, rfl, rfl⟩
theorem ft_7_3 : pm_ft 7 3 false .int := ⟨(RX7, TX7, 5), tyX7, rfl, tyX7_ok, nmX7, rfl, rfl⟩
theorem ft_7_4 : pm_ft 7 4 false .int := ⟨(RX7, TX7, 5), tyX7, rfl, tyX7_ok, nmX7, rfl, rfl⟩
theorem fw_8 : ∀ w ∈ u_ws RX8 TX8 3, w ∈ pm_tb := by decide +kernel
theorem ft_8_2 : pm_ft 8 2 false .int := ⟨(RX8, TX8, 3), tyX8, rfl, tyX8_ok, nmX8, rfl, rfl⟩
theorem fw_9 : ∀ w ∈ u_ws RX9 TX9 9, w ∈ pm_tb := by decide +kernel
theorem ft_9_8 : pm_ft 9 8 false .int := ⟨(RX9, TX9, 9), tyX9, rfl, tyX9_ok, nmX9, rfl, rfl⟩
theorem fw_10 : ∀ w ∈ u_ws RX10 TX10 25, w ∈ pm_tb := by decide +kernel
theorem ft_10_4 : pm_ft 10 4 false .int := ⟨(RX10, TX10, 25), tyX10, rfl, tyX10_ok, nmX10, rfl, rfl⟩
theorem ft_10_6 : pm_ft 10 6 false .int := ⟨(RX10, TX10, 25), tyX10, rfl, tyX10_ok, nmX10, rfl, rfl⟩
theorem ft_10_7 : pm_ft 10 7 false .int := ⟨(RX10, TX10, 25), tyX10, rfl, tyX10_ok, nmX10, rfl, rfl⟩
theorem ft_10_8 : pm_ft 10 8 false .int := ⟨(RX10, TX10, 25), tyX10, rfl, tyX10_ok, nmX10, rfl, rfl⟩
theorem ft_10_9 : pm_ft 10 9 false .int := ⟨(RX10, TX10, 25), tyX10, rfl, tyX10_ok, nmX10, rfl, rfl⟩
theorem ft_10_10 : pm_ft 10 10 false .int := ⟨(RX10, TX10, 25), tyX10, rfl, tyX10_ok, nmX10, rfl, rfl⟩
theorem ft_10_11 : pm_ft 10 11 false .int := ⟨(RX10, TX10, 25), tyX10, rfl, tyX10_ok, nmX10, rfl, rfl⟩
theorem ft_10_12 : pm_ft 10 12 false .int := ⟨(RX10, TX10, 25), tyX10, rfl, tyX10_ok, nmX10, rfl, rfl⟩
theorem ft_10_17 : pm_ft 10 17 false .int := ⟨(RX10, TX10, 25), tyX10, rfl, tyX10_ok, nmX10, rfl, rfl⟩
theorem ft_10_24 : pm_ft 10 24 false .int := ⟨(RX10, TX10, 25), tyX10, rfl, tyX10_ok, nmX10, rfl, rfl⟩
theorem cd_X0_answer : Cond.code yX0_answer cX0_answer 4 (some .int) ∈ pm_tb := (pm_tb_t 838 (by decide +kernel) rfl)
theorem cd_X0_body : Cond.code yX0_body cX0_body 5 (some .int) ∈ pm_tb := (pm_tb_t 852 (by decide +kernel) rfl)
theorem cd_X0_init : Cond.code yX0_init cX0_init 1 none ∈ pm_tb := (pm_tb_t 230 (by decide +kernel) rfl)
theorem cd_X0_leave : Cond.code yX0_leave cX0_leave 2 none ∈ pm_tb := (pm_tb_t 856 (by decide +kernel) rfl)
theorem cd_X0_markBody : Cond.code yX0_markBody cX0_markBody 1 (some .int) ∈ pm_tb := (pm_tb_t 846 (by decide +kernel) rfl)
theorem cd_X0_sizeBody : Cond.code yX0_sizeBody cX0_sizeBody 1 (some .int) ∈ pm_tb := (pm_tb_t 841 (by decide +kernel) rfl)
theorem cd_X10_advances : Cond.code yX10_advances cX10_advances 2 none ∈ pm_tb := (pm_tb_t 1014 (by decide +kernel) rfl)
theorem cd_X10_again : Cond.code yX10_again cX10_again 1 (some .int) ∈ pm_tb := (pm_tb_t 1144 (by decide +kernel) rfl)
theorem cd_X10_as : Cond.code yX10_as cX10_as 5 (some .int) ∈ pm_tb := (pm_tb_t 1243 (by decide +kernel) rfl)
theorem cd_X10_ask : Cond.code yX10_ask cX10_ask 4 (some .int) ∈ pm_tb := (pm_tb_t 1247 (by decide +kernel) rfl)
theorem cd_X10_back : Cond.code yX10_back cX10_back 1 (some .int) ∈ pm_tb := (pm_tb_t 1100 (by decide +kernel) rfl)
theorem cd_X10_begins : Cond.code yX10_begins cX10_begins 2 none ∈ pm_tb := (pm_tb_t 1255 (by decide +kernel) rfl)
theorem cd_X10_byteAt : Cond.code yX10_byteAt cX10_byteAt 2 (some .int) ∈ pm_tb := (pm_tb_t 1018 (by decide +kernel) rfl)
theorem cd_X10_chance : Cond.code yX10_chance cX10_chance 9 (some .int) ∈ pm_tb := (pm_tb_t 1211 (by decide +kernel) rfl)
theorem cd_X10_close : Cond.code yX10_close cX10_close 1 (some .int) ∈ pm_tb := (pm_tb_t 1137 (by decide +kernel) rfl)
theorem cd_X10_closes : Cond.code yX10_closes cX10_closes 2 none ∈ pm_tb := (pm_tb_t 1140 (by decide +kernel) rfl)
theorem cd_X10_comes : Cond.code yX10_comes cX10_comes 6 none ∈ pm_tb := (pm_tb_t 1093 (by decide +kernel) rfl)
theorem cd_X10_copies : Cond.code yX10_copies cX10_copies 5 none ∈ pm_tb := (pm_tb_t 1052 (by decide +kernel) rfl)
theorem cd_X10_copy : Cond.code yX10_copy cX10_copy 7 (some .int) ∈ pm_tb := (pm_tb_t 993 (by decide +kernel) rfl)
theorem cd_X10_count : Cond.code yX10_count cX10_count 4 (some .int) ∈ pm_tb := (pm_tb_t 1275 (by decide +kernel) rfl)
theorem cd_X10_cut : Cond.code yX10_cut cX10_cut 2 (some .int) ∈ pm_tb := (pm_tb_t 989 (by decide +kernel) rfl)
theorem cd_X10_drawn : Cond.code yX10_drawn cX10_drawn 8 (some .int) ∈ pm_tb := (pm_tb_t 1215 (by decide +kernel) rfl)
theorem cd_X10_drop : Cond.code yX10_drop cX10_drop 2 (some .int) ∈ pm_tb := (pm_tb_t 1001 (by decide +kernel) rfl)
theorem cd_X10_far : Cond.code yX10_far cX10_far 3 (some .int) ∈ pm_tb := (pm_tb_t 1168 (by decide +kernel) rfl)
theorem cd_X10_fault : Cond.code yX10_fault cX10_fault 1 (some .int) ∈ pm_tb := (pm_tb_t 1056 (by decide +kernel) rfl)
theorem cd_X10_feed : Cond.code yX10_feed cX10_feed 2 (some .int) ∈ pm_tb := (pm_tb_t 1005 (by decide +kernel) rfl)
theorem cd_X10_figure : Cond.code yX10_figure cX10_figure 3 (some .int) ∈ pm_tb := (pm_tb_t 1030 (by decide +kernel) rfl)
theorem cd_X10_fits : Cond.code yX10_fits cX10_fits 10 (some .int) ∈ pm_tb := (pm_tb_t 1203 (by decide +kernel) rfl)
theorem cd_X10_follow : Cond.code yX10_follow cX10_follow 2 (some .int) ∈ pm_tb := (pm_tb_t 1060 (by decide +kernel) rfl)
theorem cd_X10_follows : Cond.code yX10_follows cX10_follows 3 none ∈ pm_tb := (pm_tb_t 1084 (by decide +kernel) rfl)
theorem cd_X10_forward : Cond.code yX10_forward cX10_forward 1 (some .int) ∈ pm_tb := (pm_tb_t 1114 (by decide +kernel) rfl)
theorem cd_X10_found : Cond.code yX10_found cX10_found 2 (some .int) ∈ pm_tb := (pm_tb_t 973 (by decide +kernel) rfl)
theorem cd_X10_fresh : Cond.code yX10_fresh cX10_fresh 4 none ∈ pm_tb := (pm_tb_t 1044 (by decide +kernel) rfl)
theorem cd_X10_goes : Cond.code yX10_goes cX10_goes 2 none ∈ pm_tb := (pm_tb_t 1110 (by decide +kernel) rfl)
theorem cd_X10_guestMark : Cond.code yX10_guestMark cX10_guestMark 2 (some .int) ∈ pm_tb := (pm_tb_t 1267 (by decide +kernel) rfl)
theorem cd_X10_guestSize : Cond.code yX10_guestSize cX10_guestSize 4 (some .int) ∈ pm_tb := (pm_tb_t 1251 (by decide +kernel) rfl)
theorem cd_X10_image : Cond.code yX10_image cX10_image 2 (some .int) ∈ pm_tb := (pm_tb_t 1227 (by decide +kernel) rfl)
theorem cd_X10_in : Cond.code yX10_in cX10_in 3 (some .boolean) ∈ pm_tb := (pm_tb_t 968 (by decide +kernel) rfl)
theorem cd_X10_init : Cond.code yX10_init cX10_init 2 none ∈ pm_tb := (pm_tb_t 879 (by decide +kernel) rfl)
theorem cd_X10_inserts : Cond.code yX10_inserts cX10_inserts 4 none ∈ pm_tb := (pm_tb_t 1087 (by decide +kernel) rfl)
theorem cd_X10_isMissing : Cond.code yX10_isMissing cX10_isMissing 2 (some .boolean) ∈ pm_tb := (pm_tb_t 986 (by decide +kernel) rfl)
theorem cd_X10_isPage : Cond.code yX10_isPage cX10_isPage 2 (some .boolean) ∈ pm_tb := (pm_tb_t 1130 (by decide +kernel) rfl)
theorem cd_X10_isPart : Cond.code yX10_isPart cX10_isPart 4 (some .boolean) ∈ pm_tb := (pm_tb_t 997 (by decide +kernel) rfl)
theorem cd_X10_isRow : Cond.code yX10_isRow cX10_isRow 1 (some .boolean) ∈ pm_tb := (pm_tb_t 965 (by decide +kernel) rfl)
theorem cd_X10_isSeen : Cond.code yX10_isSeen cX10_isSeen 7 (some .boolean) ∈ pm_tb := (pm_tb_t 1207 (by decide +kernel) rfl)
theorem cd_X10_isShown : Cond.code yX10_isShown cX10_isShown 8 (some .boolean) ∈ pm_tb := (pm_tb_t 1184 (by decide +kernel) rfl)
theorem cd_X10_isTab : Cond.code yX10_isTab cX10_isTab 2 (some .boolean) ∈ pm_tb := (pm_tb_t 1122 (by decide +kernel) rfl)
theorem cd_X10_isWeb : Cond.code yX10_isWeb cX10_isWeb 1 (some .boolean) ∈ pm_tb := (pm_tb_t 1064 (by decide +kernel) rfl)
theorem cd_X10_isWell : Cond.code yX10_isWell cX10_isWell 1 (some .boolean) ∈ pm_tb := (pm_tb_t 1026 (by decide +kernel) rfl)
theorem cd_X10_kind : Cond.code yX10_kind cX10_kind 2 (some .int) ∈ pm_tb := (pm_tb_t 1235 (by decide +kernel) rfl)
theorem cd_X10_kindIn : Cond.code yX10_kindIn cX10_kindIn 2 (some .int) ∈ pm_tb := (pm_tb_t 1239 (by decide +kernel) rfl)
theorem cd_X10_kindOf : Cond.code yX10_kindOf cX10_kindOf 1 (some .int) ∈ pm_tb := (pm_tb_t 1037 (by decide +kernel) rfl)
theorem cd_X10_mayFollow : Cond.code yX10_mayFollow cX10_mayFollow 2 (some .boolean) ∈ pm_tb := (pm_tb_t 1068 (by decide +kernel) rfl)
theorem cd_X10_mayGo : Cond.code yX10_mayGo cX10_mayGo 3 (some .boolean) ∈ pm_tb := (pm_tb_t 1107 (by decide +kernel) rfl)
theorem cd_X10_measures : Cond.code yX10_measures cX10_measures 6 none ∈ pm_tb := (pm_tb_t 1172 (by decide +kernel) rfl)
theorem cd_X10_moves : Cond.code yX10_moves cX10_moves 4 none ∈ pm_tb := (pm_tb_t 1090 (by decide +kernel) rfl)
theorem cd_X10_must : Cond.code yX10_must cX10_must 2 none ∈ pm_tb := (pm_tb_t 1048 (by decide +kernel) rfl)
theorem cd_X10_notes : Cond.code yX10_notes cX10_notes 2 none ∈ pm_tb := (pm_tb_t 1081 (by decide +kernel) rfl)
theorem cd_X10_open : Cond.code yX10_open cX10_open 2 (some .int) ∈ pm_tb := (pm_tb_t 1126 (by decide +kernel) rfl)
theorem cd_X10_opens : Cond.code yX10_opens cX10_opens 2 none ∈ pm_tb := (pm_tb_t 1133 (by decide +kernel) rfl)
theorem cd_X10_page : Cond.code yX10_page cX10_page 4 (some .int) ∈ pm_tb := (pm_tb_t 1160 (by decide +kernel) rfl)
theorem cd_X10_plainMark : Cond.code yX10_plainMark cX10_plainMark 4 (some .int) ∈ pm_tb := (pm_tb_t 1263 (by decide +kernel) rfl)
theorem cd_X10_plainSize : Cond.code yX10_plainSize cX10_plainSize 4 (some .int) ∈ pm_tb := (pm_tb_t 1259 (by decide +kernel) rfl)
theorem cd_X10_readsPage : Cond.code yX10_readsPage cX10_readsPage 4 none ∈ pm_tb := (pm_tb_t 1034 (by decide +kernel) rfl)
theorem cd_X10_readsTab : Cond.code yX10_readsTab cX10_readsTab 4 none ∈ pm_tb := (pm_tb_t 1041 (by decide +kernel) rfl)
theorem cd_X10_restore : Cond.code yX10_restore cX10_restore 2 (some .int) ∈ pm_tb := (pm_tb_t 1231 (by decide +kernel) rfl)
theorem cd_X10_round : Cond.code yX10_round cX10_round 5 (some .int) ∈ pm_tb := (pm_tb_t 1176 (by decide +kernel) rfl)
theorem cd_X10_row : Cond.code yX10_row cX10_row 5 (some .int) ∈ pm_tb := (pm_tb_t 962 (by decide +kernel) rfl)
theorem cd_X10_seen : Cond.code yX10_seen cX10_seen 1 (some .int) ∈ pm_tb := (pm_tb_t 1071 (by decide +kernel) rfl)
theorem cd_X10_select : Cond.code yX10_select cX10_select 3 (some .int) ∈ pm_tb := (pm_tb_t 1118 (by decide +kernel) rfl)
theorem cd_X10_set : Cond.code yX10_set cX10_set 4 (some .int) ∈ pm_tb := (pm_tb_t 982 (by decide +kernel) rfl)
theorem cd_X10_share : Cond.code yX10_share cX10_share 9 (some .int) ∈ pm_tb := (pm_tb_t 1196 (by decide +kernel) rfl)
theorem cd_X10_shows : Cond.code yX10_shows cX10_shows 3 (some .int) ∈ pm_tb := (pm_tb_t 1074 (by decide +kernel) rfl)
theorem cd_X10_status : Cond.code yX10_status cX10_status 1 (some .int) ∈ pm_tb := (pm_tb_t 1279 (by decide +kernel) rfl)
theorem cd_X10_steps : Cond.code yX10_steps cX10_steps 5 (some .boolean) ∈ pm_tb := (pm_tb_t 1222 (by decide +kernel) rfl)
theorem cd_X10_tab : Cond.code yX10_tab cX10_tab 3 (some .int) ∈ pm_tb := (pm_tb_t 1152 (by decide +kernel) rfl)
theorem cd_X10_tabNow : Cond.code yX10_tabNow cX10_tabNow 1 (some .int) ∈ pm_tb := (pm_tb_t 1077 (by decide +kernel) rfl)
theorem cd_X10_takes : Cond.code yX10_takes cX10_takes 4 (some .int) ∈ pm_tb := (pm_tb_t 1022 (by decide +kernel) rfl)
theorem cd_X10_to : Cond.code yX10_to cX10_to 6 (some .int) ∈ pm_tb := (pm_tb_t 1180 (by decide +kernel) rfl)
theorem cd_X10_trace : Cond.code yX10_trace cX10_trace 2 (some .int) ∈ pm_tb := (pm_tb_t 1271 (by decide +kernel) rfl)
theorem cd_X10_trail : Cond.code yX10_trail cX10_trail 3 (some .int) ∈ pm_tb := (pm_tb_t 1156 (by decide +kernel) rfl)
theorem cd_X10_turned : Cond.code yX10_turned cX10_turned 2 (some .int) ∈ pm_tb := (pm_tb_t 1104 (by decide +kernel) rfl)
theorem cd_X10_undo : Cond.code yX10_undo cX10_undo 1 (some .int) ∈ pm_tb := (pm_tb_t 1148 (by decide +kernel) rfl)
theorem cd_X10_visits : Cond.code yX10_visits cX10_visits 2 none ∈ pm_tb := (pm_tb_t 1096 (by decide +kernel) rfl)
theorem cd_X10_visitsOf : Cond.code yX10_visitsOf cX10_visitsOf 3 (some .int) ∈ pm_tb := (pm_tb_t 1199 (by decide +kernel) rfl)
theorem cd_X10_walk : Cond.code yX10_walk cX10_walk 6 (some .int) ∈ pm_tb := (pm_tb_t 1164 (by decide +kernel) rfl)
theorem cd_X10_ways : Cond.code yX10_ways cX10_ways 3 (some .int) ∈ pm_tb := (pm_tb_t 1188 (by decide +kernel) rfl)
theorem cd_X10_web : Cond.code yX10_web cX10_web 2 (some .int) ∈ pm_tb := (pm_tb_t 1010 (by decide +kernel) rfl)
theorem cd_X10_weighs : Cond.code yX10_weighs cX10_weighs 7 none ∈ pm_tb := (pm_tb_t 1192 (by decide +kernel) rfl)
theorem cd_X10_well : Cond.code yX10_well cX10_well 2 (some .int) ∈ pm_tb := (pm_tb_t 978 (by decide +kernel) rfl)
theorem cd_X1_addTab : Cond.code yX1_addTab cX1_addTab 6 (some (.object "TabTrails$Tab")) ∈ pm_tb := (pm_tb_t 525 (by decide +kernel) rfl)
theorem cd_X1_allVisits : Cond.code yX1_allVisits cX1_allVisits 3 (some .int) ∈ pm_tb := (pm_tb_t 732 (by decide +kernel) rfl)
theorem cd_X1_become : Cond.code yX1_become cX1_become 3 none ∈ pm_tb := (pm_tb_t 458 (by decide +kernel) rfl)
theorem cd_X1_clear : Cond.code yX1_clear cX1_clear 2 none ∈ pm_tb := (pm_tb_t 381 (by decide +kernel) rfl)
theorem cd_X1_closeNow : Cond.code yX1_closeNow cX1_closeNow 3 (some .boolean) ∈ pm_tb := (pm_tb_t 600 (by decide +kernel) rfl)
theorem cd_X1_followLink : Cond.code yX1_followLink cX1_followLink 4 (some .boolean) ∈ pm_tb := (pm_tb_t 493 (by decide +kernel) rfl)
theorem cd_X1_hasRoom : Cond.code yX1_hasRoom cX1_hasRoom 1 (some .boolean) ∈ pm_tb := (pm_tb_t 440 (by decide +kernel) rfl)
theorem cd_X1_hasTab : Cond.code yX1_hasTab cX1_hasTab 2 (some .boolean) ∈ pm_tb := (pm_tb_t 497 (by decide +kernel) rfl)
theorem cd_X1_init : Cond.code yX1_init cX1_init 2 none ∈ pm_tb := (pm_tb_t 54 (by decide +kernel) rfl)
theorem cd_X1_keepClosed : Cond.code yX1_keepClosed cX1_keepClosed 4 none ∈ pm_tb := (pm_tb_t 610 (by decide +kernel) rfl)
theorem cd_X1_openPage : Cond.code yX1_openPage cX1_openPage 2 (some .boolean) ∈ pm_tb := (pm_tb_t 592 (by decide +kernel) rfl)
theorem cd_X1_reopen : Cond.code yX1_reopen cX1_reopen 1 (some .boolean) ∈ pm_tb := (pm_tb_t 618 (by decide +kernel) rfl)
theorem cd_X1_selectTab : Cond.code yX1_selectTab cX1_selectTab 2 (some .boolean) ∈ pm_tb := (pm_tb_t 583 (by decide +kernel) rfl)
theorem cd_X1_shareOf : Cond.code yX1_shareOf cX1_shareOf 7 (some .int) ∈ pm_tb := (pm_tb_t 728 (by decide +kernel) rfl)
theorem cd_X1_shownPage : Cond.code yX1_shownPage cX1_shownPage 1 (some .int) ∈ pm_tb := (pm_tb_t 536 (by decide +kernel) rfl)
theorem cd_X1_stepBack : Cond.code yX1_stepBack cX1_stepBack 1 (some .boolean) ∈ pm_tb := (pm_tb_t 558 (by decide +kernel) rfl)
theorem cd_X1_stepForward : Cond.code yX1_stepForward cX1_stepForward 1 (some .boolean) ∈ pm_tb := (pm_tb_t 570 (by decide +kernel) rfl)
theorem cd_X1_visit : Cond.code yX1_visit cX1_visit 2 none ∈ pm_tb := (pm_tb_t 540 (by decide +kernel) rfl)
theorem cd_X2_beginAmounts : Cond.code yX2_beginAmounts cX2_beginAmounts 3 none ∈ pm_tb := (pm_tb_t 712 (by decide +kernel) rfl)
theorem cd_X2_bitIfFits : Cond.code yX2_bitIfFits cX2_bitIfFits 5 (some .int) ∈ pm_tb := (pm_tb_t 754 (by decide +kernel) rfl)
theorem cd_X2_countWays : Cond.code yX2_countWays cX2_countWays 5 none ∈ pm_tb := (pm_tb_t 708 (by decide +kernel) rfl)
theorem cd_X2_drawnAct : Cond.code yX2_drawnAct cX2_drawnAct 4 (some .boolean) ∈ pm_tb := (pm_tb_t 802 (by decide +kernel) rfl)
theorem cd_X2_fewestPresses : Cond.code yX2_fewestPresses cX2_fewestPresses 5 (some .int) ∈ pm_tb := (pm_tb_t 681 (by decide +kernel) rfl)
theorem cd_X2_fittingHomes : Cond.code yX2_fittingHomes cX2_fittingHomes 5 (some .int) ∈ pm_tb := (pm_tb_t 775 (by decide +kernel) rfl)
theorem cd_X2_fittingKinds : Cond.code yX2_fittingKinds cX2_fittingKinds 5 (some .int) ∈ pm_tb := (pm_tb_t 746 (by decide +kernel) rfl)
theorem cd_X2_fittingLeads : Cond.code yX2_fittingLeads cX2_fittingLeads 6 (some .int) ∈ pm_tb := (pm_tb_t 766 (by decide +kernel) rfl)
theorem cd_X2_fittingStarts : Cond.code yX2_fittingStarts cX2_fittingStarts 5 (some .int) ∈ pm_tb := (pm_tb_t 758 (by decide +kernel) rfl)
theorem cd_X2_guessNow : Cond.code yX2_guessNow cX2_guessNow 2 none ∈ pm_tb := (pm_tb_t 750 (by decide +kernel) rfl)
theorem cd_X2_hear : Cond.code yX2_hear cX2_hear 5 none ∈ pm_tb := (pm_tb_t 740 (by decide +kernel) rfl)
theorem cd_X2_init : Cond.code yX2_init cX2_init 2 none ∈ pm_tb := (pm_tb_t 187 (by decide +kernel) rfl)
theorem cd_X2_pressedTo : Cond.code yX2_pressedTo cX2_pressedTo 7 (some .boolean) ∈ pm_tb := (pm_tb_t 689 (by decide +kernel) rfl)
theorem cd_X2_spendEvening : Cond.code yX2_spendEvening cX2_spendEvening 9 (some .int) ∈ pm_tb := (pm_tb_t 795 (by decide +kernel) rfl)
theorem cd_X2_spreadAmounts : Cond.code yX2_spreadAmounts cX2_spreadAmounts 8 none ∈ pm_tb := (pm_tb_t 716 (by decide +kernel) rfl)
theorem cd_X2_weighWays : Cond.code yX2_weighWays cX2_weighWays 6 (some .int) ∈ pm_tb := (pm_tb_t 783 (by decide +kernel) rfl)
theorem cd_X3_commit : Cond.code yX3_commit cX3_commit 1 none ∈ pm_tb := (pm_tb_t 548 (by decide +kernel) rfl)
theorem cd_X3_forget : Cond.code yX3_forget cX3_forget 1 none ∈ pm_tb := (pm_tb_t 468 (by decide +kernel) rfl)
theorem cd_X3_init : Cond.code yX3_init cX3_init 2 none ∈ pm_tb := (pm_tb_t 165 (by decide +kernel) rfl)
theorem cd_X3_prepare : Cond.code yX3_prepare cX3_prepare 2 none ∈ pm_tb := (pm_tb_t 488 (by decide +kernel) rfl)
theorem cd_X3_takeBack : Cond.code yX3_takeBack cX3_takeBack 2 (some .boolean) ∈ pm_tb := (pm_tb_t 626 (by decide +kernel) rfl)
theorem cd_X4_init : Cond.code yX4_init cX4_init 1 none ∈ pm_tb := (pm_tb_t 270 (by decide +kernel) rfl)
theorem cd_X4_keep : Cond.code yX4_keep cX4_keep 3 none ∈ pm_tb := (pm_tb_t 815 (by decide +kernel) rfl)
theorem cd_X5_advance : Cond.code yX5_advance cX5_advance 2 none ∈ pm_tb := (pm_tb_t 385 (by decide +kernel) rfl)
theorem cd_X5_byteAt : Cond.code yX5_byteAt cX5_byteAt 2 (some .int) ∈ pm_tb := (pm_tb_t 389 (by decide +kernel) rfl)
theorem cd_X5_init : Cond.code yX5_init cX5_init 1 none ∈ pm_tb := (pm_tb_t 28 (by decide +kernel) rfl)
theorem cd_X5_isFigure : Cond.code yX5_isFigure cX5_isFigure 1 (some .boolean) ∈ pm_tb := (pm_tb_t 392 (by decide +kernel) rfl)
theorem cd_X5_put : Cond.code yX5_put cX5_put 2 (some .boolean) ∈ pm_tb := (pm_tb_t 364 (by decide +kernel) rfl)
theorem cd_X5_readLaw : Cond.code yX5_readLaw cX5_readLaw 1 (some .boolean) ∈ pm_tb := (pm_tb_t 396 (by decide +kernel) rfl)
theorem cd_X5_readLinks : Cond.code yX5_readLinks cX5_readLinks 3 (some .boolean) ∈ pm_tb := (pm_tb_t 416 (by decide +kernel) rfl)
theorem cd_X5_readPages : Cond.code yX5_readPages cX5_readPages 2 (some .boolean) ∈ pm_tb := (pm_tb_t 412 (by decide +kernel) rfl)
theorem cd_X5_readTab : Cond.code yX5_readTab cX5_readTab 2 (some .boolean) ∈ pm_tb := (pm_tb_t 432 (by decide +kernel) rfl)
theorem cd_X5_readTabs : Cond.code yX5_readTabs cX5_readTabs 2 (some .boolean) ∈ pm_tb := (pm_tb_t 428 (by decide +kernel) rfl)
theorem cd_X5_readTape : Cond.code yX5_readTape cX5_readTape 1 (some .boolean) ∈ pm_tb := (pm_tb_t 373 (by decide +kernel) rfl)
theorem cd_X5_sortOf : Cond.code yX5_sortOf cX5_sortOf 1 (some .int) ∈ pm_tb := (pm_tb_t 435 (by decide +kernel) rfl)
theorem cd_X5_take : Cond.code yX5_take cX5_take 2 (some .boolean) ∈ pm_tb := (pm_tb_t 400 (by decide +kernel) rfl)
theorem cd_X5_takeNumber : Cond.code yX5_takeNumber cX5_takeNumber 3 (some .boolean) ∈ pm_tb := (pm_tb_t 408 (by decide +kernel) rfl)
theorem cd_X5_wrong : Cond.code yX5_wrong cX5_wrong 2 (some .boolean) ∈ pm_tb := (pm_tb_t 404 (by decide +kernel) rfl)
theorem cd_X6_hasPlaces : Cond.code yX6_hasPlaces cX6_hasPlaces 3 (some .boolean) ∈ pm_tb := (pm_tb_t 341 (by decide +kernel) rfl)
theorem cd_X6_init : Cond.code yX6_init cX6_init 1 none ∈ pm_tb := (pm_tb_t 247 (by decide +kernel) rfl)
theorem cd_X6_make : Cond.code yX6_make cX6_make 4 none ∈ pm_tb := (pm_tb_t 333 (by decide +kernel) rfl)
theorem cd_X6_put : Cond.code yX6_put cX6_put 4 (some .int) ∈ pm_tb := (pm_tb_t 345 (by decide +kernel) rfl)
theorem cd_X7_become : Cond.code yX7_become cX7_become 2 none ∈ pm_tb := (pm_tb_t 462 (by decide +kernel) rfl)
theorem cd_X7_begin : Cond.code yX7_begin cX7_begin 3 none ∈ pm_tb := (pm_tb_t 444 (by decide +kernel) rfl)
theorem cd_X7_forgetFirst : Cond.code yX7_forgetFirst cX7_forgetFirst 2 none ∈ pm_tb := (pm_tb_t 520 (by decide +kernel) rfl)
theorem cd_X7_goHome : Cond.code yX7_goHome cX7_goHome 1 none ∈ pm_tb := (pm_tb_t 448 (by decide +kernel) rfl)
theorem cd_X7_init : Cond.code yX7_init cX7_init 1 none ∈ pm_tb := (pm_tb_t 61 (by decide +kernel) rfl)
theorem cd_X7_isOf : Cond.code yX7_isOf cX7_isOf 4 (some .boolean) ∈ pm_tb := (pm_tb_t 604 (by decide +kernel) rfl)
theorem cd_X7_moveOn : Cond.code yX7_moveOn cX7_moveOn 2 none ∈ pm_tb := (pm_tb_t 516 (by decide +kernel) rfl)
theorem cd_X7_press : Cond.code yX7_press cX7_press 5 (some .boolean) ∈ pm_tb := (pm_tb_t 694 (by decide +kernel) rfl)
theorem cd_X7_showInstead : Cond.code yX7_showInstead cX7_showInstead 2 none ∈ pm_tb := (pm_tb_t 762 (by decide +kernel) rfl)
theorem cd_X7_shownPage : Cond.code yX7_shownPage cX7_shownPage 1 (some .int) ∈ pm_tb := (pm_tb_t 501 (by decide +kernel) rfl)
theorem cd_X7_stepBack : Cond.code yX7_stepBack cX7_stepBack 1 (some .boolean) ∈ pm_tb := (pm_tb_t 562 (by decide +kernel) rfl)
theorem cd_X7_stepForward : Cond.code yX7_stepForward cX7_stepForward 1 (some .boolean) ∈ pm_tb := (pm_tb_t 574 (by decide +kernel) rfl)
theorem cd_X8_addLink : Cond.code yX8_addLink cX8_addLink 3 none ∈ pm_tb := (pm_tb_t 420 (by decide +kernel) rfl)
theorem cd_X8_become : Cond.code yX8_become cX8_become 2 none ∈ pm_tb := (pm_tb_t 453 (by decide +kernel) rfl)
theorem cd_X8_begin : Cond.code yX8_begin cX8_begin 3 none ∈ pm_tb := (pm_tb_t 377 (by decide +kernel) rfl)
theorem cd_X8_circle : Cond.code yX8_circle cX8_circle 4 (some .int) ∈ pm_tb := (pm_tb_t 672 (by decide +kernel) rfl)
theorem cd_X8_distance : Cond.code yX8_distance cX8_distance 5 (some .int) ∈ pm_tb := (pm_tb_t 660 (by decide +kernel) rfl)
theorem cd_X8_hasPage : Cond.code yX8_hasPage cX8_hasPage 2 (some .boolean) ∈ pm_tb := (pm_tb_t 424 (by decide +kernel) rfl)
theorem cd_X8_init : Cond.code yX8_init cX8_init 1 none ∈ pm_tb := (pm_tb_t 34 (by decide +kernel) rfl)
theorem cd_X8_linksOf : Cond.code yX8_linksOf cX8_linksOf 2 (some .int) ∈ pm_tb := (pm_tb_t 510 (by decide +kernel) rfl)
theorem cd_X8_target : Cond.code yX8_target cX8_target 3 (some .int) ∈ pm_tb := (pm_tb_t 506 (by decide +kernel) rfl)
theorem cd_X8_turnFirstLink : Cond.code yX8_turnFirstLink cX8_turnFirstLink 3 none ∈ pm_tb := (pm_tb_t 771 (by decide +kernel) rfl)
theorem cd_X8_walkedTo : Cond.code yX8_walkedTo cX8_walkedTo 6 (some .int) ∈ pm_tb := (pm_tb_t 650 (by decide +kernel) rfl)
theorem cd_X8_withNeighbours : Cond.code yX8_withNeighbours cX8_withNeighbours 5 (some .int) ∈ pm_tb := (pm_tb_t 664 (by decide +kernel) rfl)
theorem cd_X9_actDone : Cond.code yX9_actDone cX9_actDone 2 (some .boolean) ∈ pm_tb := (pm_tb_t 544 (by decide +kernel) rfl)
theorem cd_X9_again : Cond.code yX9_again cX9_again 1 (some .int) ∈ pm_tb := (pm_tb_t 614 (by decide +kernel) rfl)
theorem cd_X9_as : Cond.code yX9_as cX9_as 3 (some .int) ∈ pm_tb := (pm_tb_t 829 (by decide +kernel) rfl)
theorem cd_X9_ask : Cond.code yX9_ask cX9_ask 3 (some .int) ∈ pm_tb := (pm_tb_t 834 (by decide +kernel) rfl)
theorem cd_X9_back : Cond.code yX9_back cX9_back 1 (some .int) ∈ pm_tb := (pm_tb_t 554 (by decide +kernel) rfl)
theorem cd_X9_chance : Cond.code yX9_chance cX9_chance 7 (some .int) ∈ pm_tb := (pm_tb_t 779 (by decide +kernel) rfl)
theorem cd_X9_close : Cond.code yX9_close cX9_close 1 (some .int) ∈ pm_tb := (pm_tb_t 596 (by decide +kernel) rfl)
theorem cd_X9_commonDivisor : Cond.code yX9_commonDivisor cX9_commonDivisor 6 (some .int) ∈ pm_tb := (pm_tb_t 786 (by decide +kernel) rfl)
theorem cd_X9_copy : Cond.code yX9_copy cX9_copy 8 (some .int) ∈ pm_tb := (pm_tb_t 349 (by decide +kernel) rfl)
theorem cd_X9_count : Cond.code yX9_count cX9_count 2 (some .int) ∈ pm_tb := (pm_tb_t 865 (by decide +kernel) rfl)
theorem cd_X9_drawn : Cond.code yX9_drawn cX9_drawn 5 (some .int) ∈ pm_tb := (pm_tb_t 790 (by decide +kernel) rfl)
theorem cd_X9_drop : Cond.code yX9_drop cX9_drop 2 (some .int) ∈ pm_tb := (pm_tb_t 356 (by decide +kernel) rfl)
theorem cd_X9_far : Cond.code yX9_far cX9_far 3 (some .int) ∈ pm_tb := (pm_tb_t 656 (by decide +kernel) rfl)
theorem cd_X9_fault : Cond.code yX9_fault cX9_fault 1 (some .int) ∈ pm_tb := (pm_tb_t 472 (by decide +kernel) rfl)
theorem cd_X9_feed : Cond.code yX9_feed cX9_feed 2 (some .int) ∈ pm_tb := (pm_tb_t 360 (by decide +kernel) rfl)
theorem cd_X9_fits : Cond.code yX9_fits cX9_fits 7 (some .int) ∈ pm_tb := (pm_tb_t 736 (by decide +kernel) rfl)
theorem cd_X9_follow : Cond.code yX9_follow cX9_follow 2 (some .int) ∈ pm_tb := (pm_tb_t 476 (by decide +kernel) rfl)
theorem cd_X9_forward : Cond.code yX9_forward cX9_forward 1 (some .int) ∈ pm_tb := (pm_tb_t 566 (by decide +kernel) rfl)
theorem cd_X9_found : Cond.code yX9_found cX9_found 2 (some .int) ∈ pm_tb := (pm_tb_t 328 (by decide +kernel) rfl)
theorem cd_X9_image : Cond.code yX9_image cX9_image 2 (some .int) ∈ pm_tb := (pm_tb_t 811 (by decide +kernel) rfl)
theorem cd_X9_init : Cond.code yX9_init cX9_init 2 none ∈ pm_tb := (pm_tb_t 18 (by decide +kernel) rfl)
theorem cd_X9_isLinkNumber : Cond.code yX9_isLinkNumber cX9_isLinkNumber 1 (some .boolean) ∈ pm_tb := (pm_tb_t 484 (by decide +kernel) rfl)
theorem cd_X9_isRow : Cond.code yX9_isRow cX9_isRow 1 (some .boolean) ∈ pm_tb := (pm_tb_t 323 (by decide +kernel) rfl)
theorem cd_X9_kind : Cond.code yX9_kind cX9_kind 2 (some .int) ∈ pm_tb := (pm_tb_t 825 (by decide +kernel) rfl)
theorem cd_X9_open : Cond.code yX9_open cX9_open 2 (some .int) ∈ pm_tb := (pm_tb_t 587 (by decide +kernel) rfl)
theorem cd_X9_page : Cond.code yX9_page cX9_page 3 (some .int) ∈ pm_tb := (pm_tb_t 640 (by decide +kernel) rfl)
theorem cd_X9_restore : Cond.code yX9_restore cX9_restore 2 (some .int) ∈ pm_tb := (pm_tb_t 821 (by decide +kernel) rfl)
theorem cd_X9_round : Cond.code yX9_round cX9_round 2 (some .int) ∈ pm_tb := (pm_tb_t 668 (by decide +kernel) rfl)
theorem cd_X9_row : Cond.code yX9_row cX9_row 4 (some .int) ∈ pm_tb := (pm_tb_t 320 (by decide +kernel) rfl)
theorem cd_X9_rowsThere : Cond.code yX9_rowsThere cX9_rowsThere 3 (some .int) ∈ pm_tb := (pm_tb_t 869 (by decide +kernel) rfl)
theorem cd_X9_select : Cond.code yX9_select cX9_select 3 (some .int) ∈ pm_tb := (pm_tb_t 578 (by decide +kernel) rfl)
theorem cd_X9_set : Cond.code yX9_set cX9_set 5 (some .int) ∈ pm_tb := (pm_tb_t 337 (by decide +kernel) rfl)
theorem cd_X9_share : Cond.code yX9_share cX9_share 3 (some .int) ∈ pm_tb := (pm_tb_t 724 (by decide +kernel) rfl)
theorem cd_X9_stands : Cond.code yX9_stands cX9_stands 1 (some .boolean) ∈ pm_tb := (pm_tb_t 480 (by decide +kernel) rfl)
theorem cd_X9_status : Cond.code yX9_status cX9_status 1 (some .int) ∈ pm_tb := (pm_tb_t 874 (by decide +kernel) rfl)
theorem cd_X9_tab : Cond.code yX9_tab cX9_tab 4 (some .int) ∈ pm_tb := (pm_tb_t 630 (by decide +kernel) rfl)
theorem cd_X9_to : Cond.code yX9_to cX9_to 4 (some .int) ∈ pm_tb := (pm_tb_t 677 (by decide +kernel) rfl)
theorem cd_X9_trace : Cond.code yX9_trace cX9_trace 2 (some .int) ∈ pm_tb := (pm_tb_t 861 (by decide +kernel) rfl)
theorem cd_X9_trail : Cond.code yX9_trail cX9_trail 4 (some .int) ∈ pm_tb := (pm_tb_t 635 (by decide +kernel) rfl)
theorem cd_X9_undo : Cond.code yX9_undo cX9_undo 1 (some .int) ∈ pm_tb := (pm_tb_t 622 (by decide +kernel) rfl)
theorem cd_X9_walk : Cond.code yX9_walk cX9_walk 3 (some .int) ∈ pm_tb := (pm_tb_t 646 (by decide +kernel) rfl)
theorem cd_X9_ways : Cond.code yX9_ways cX9_ways 3 (some .int) ∈ pm_tb := (pm_tb_t 704 (by decide +kernel) rfl)
theorem cd_X9_web : Cond.code yX9_web cX9_web 2 (some .int) ∈ pm_tb := (pm_tb_t 369 (by decide +kernel) rfl)
theorem lk_L_9 : pm_lnI RL 9 yX9_init 0 := ⟨⟨(pm_tb_t 16 (by decide +kernel) rfl), (pm_tb_t 1 (by decide +kernel) rfl), by decide +kernel, by decide +kernel, by decide +kernel⟩, (pm_tb_t 17 (by decide +kernel) rfl), rfl⟩
theorem ml_X9_1 : Cond.methodLink RX9 1 objectInit ∈ pm_tb := (pm_tb_t 19 (by decide +kernel) rfl)
theorem ml_X5_3 : Cond.methodLink RX5 3 objectInit ∈ pm_tb := (pm_tb_t 29 (by decide +kernel) rfl)
theorem ml_X8_3 : Cond.methodLink RX8 3 objectInit ∈ pm_tb := (pm_tb_t 35 (by decide +kernel) rfl)
theorem fl_X8_9 : pm_fl RX8 9 8 0 := ⟨(RX8, TX8, 3), rfl, by decide, by decide, rfl, (pm_tb_t 36 (by decide +kernel) rfl), fw_8, rfl⟩
theorem fl_X8_15 : pm_fl RX8 15 8 1 := ⟨(RX8, TX8, 3), rfl, by decide, by decide, rfl, (pm_tb_t 37 (by decide +kernel) rfl), fw_8, rfl⟩
theorem fl_X8_18 : pm_fl RX8 18 8 2 := ⟨(RX8, TX8, 3), rfl, by decide, by decide, rfl, (pm_tb_t 38 (by decide +kernel) rfl), fw_8, rfl⟩
theorem fl_X5_82 : pm_fl RX5 82 8 2 := ⟨(RX8, TX8, 3), rfl, by decide, by decide, rfl, (pm_tb_t 39 (by decide +kernel) rfl), fw_8, rfl⟩
theorem fl_X2_92 : pm_fl RX2 92 8 2 := ⟨(RX8, TX8, 3), rfl, by decide, by decide, rfl, (pm_tb_t 40 (by decide +kernel) rfl), fw_8, rfl⟩
theorem fl_X9_312 : pm_fl RX9 312 8 2 := ⟨(RX8, TX8, 3), rfl, by decide, by decide, rfl, (pm_tb_t 41 (by decide +kernel) rfl), fw_8, rfl⟩
theorem lk_X5_24 : pm_lnI RX5 24 yX1_init 0 := ⟨⟨(pm_tb_t 52 (by decide +kernel) rfl), (pm_tb_t 4 (by decide +kernel) rfl), by decide +kernel, by decide +kernel, by decide +kernel⟩, (pm_tb_t 53 (by decide +kernel) rfl), rfl⟩
theorem ml_X1_3 : Cond.methodLink RX1 3 objectInit ∈ pm_tb := (pm_tb_t 55 (by decide +kernel) rfl)
theorem ml_X7_3 : Cond.methodLink RX7 3 objectInit ∈ pm_tb := (pm_tb_t 62 (by decide +kernel) rfl)
theorem fl_X7_9 : pm_fl RX7 9 7 0 := ⟨(RX7, TX7, 5), rfl, by decide, by decide, rfl, (pm_tb_t 63 (by decide +kernel) rfl), fw_7, rfl⟩
theorem fl_X9_212 : pm_fl RX9 212 7 0 := ⟨(RX7, TX7, 5), rfl, by decide, by decide, rfl, (pm_tb_t 64 (by decide +kernel) rfl), fw_7, rfl⟩
theorem fl_X7_15 : pm_fl RX7 15 7 1 := ⟨(RX7, TX7, 5), rfl, by decide, by decide, rfl, (pm_tb_t 65 (by decide +kernel) rfl), fw_7, rfl⟩
theorem fl_X0_44 : pm_fl RX0 44 7 1 := ⟨(RX7, TX7, 5), rfl, by decide, by decide, rfl, (pm_tb_t 66 (by decide +kernel) rfl), fw_7, rfl⟩
theorem fl_X1_60 : pm_fl RX1 60 7 1 := ⟨(RX7, TX7, 5), rfl, by decide, by decide, rfl, (pm_tb_t 67 (by decide +kernel) rfl), fw_7, rfl⟩
theorem fl_X2_130 : pm_fl RX2 130 7 1 := ⟨(RX7, TX7, 5), rfl, by decide, by decide, rfl, (pm_tb_t 68 (by decide +kernel) rfl), fw_7, rfl⟩
theorem fl_X9_293 : pm_fl RX9 293 7 1 := ⟨(RX7, TX7, 5), rfl, by decide, by decide, rfl, (pm_tb_t 69 (by decide +kernel) rfl), fw_7, rfl⟩
theorem fl_X7_19 : pm_fl RX7 19 7 2 := ⟨(RX7, TX7, 5), rfl, by decide, by decide, rfl, (pm_tb_t 70 (by decide +kernel) rfl), fw_7, rfl⟩
theorem fl_X2_147 : pm_fl RX2 147 7 2 := ⟨(RX7, TX7, 5), rfl, by decide, by decide, rfl, (pm_tb_t 71 (by decide +kernel) rfl), fw_7, rfl⟩
theorem fl_X9_205 : pm_fl RX9 205 7 2 := ⟨(RX7, TX7, 5), rfl, by decide, by decide, rfl, (pm_tb_t 72 (by decide +kernel) rfl), fw_7, rfl⟩
theorem fl_X7_22 : pm_fl RX7 22 7 3 := ⟨(RX7, TX7, 5), rfl, by decide, by decide, rfl, (pm_tb_t 73 (by decide +kernel) rfl), fw_7, rfl⟩
theorem fl_X0_35 : pm_fl RX0 35 7 3 := ⟨(RX7, TX7, 5), rfl, by decide, by decide, rfl, (pm_tb_t 74 (by decide +kernel) rfl), fw_7, rfl⟩
theorem fl_X9_208 : pm_fl RX9 208 7 3 := ⟨(RX7, TX7, 5), rfl, by decide, by decide, rfl, (pm_tb_t 75 (by decide +kernel) rfl), fw_7, rfl⟩
theorem fl_X7_25 : pm_fl RX7 25 7 4 := ⟨(RX7, TX7, 5), rfl, by decide, by decide, rfl, (pm_tb_t 76 (by decide +kernel) rfl), fw_7, rfl⟩
theorem fl_X9_209 : pm_fl RX9 209 7 4 := ⟨(RX7, TX7, 5), rfl, by decide, by decide, rfl, (pm_tb_t 77 (by decide +kernel) rfl), fw_7, rfl⟩
theorem fl_X1_11 : pm_fl RX1 11 1 0 := ⟨(RX1, TX1, 6), rfl, by decide, by decide, rfl, (pm_tb_t 89 (by decide +kernel) rfl), fw_1, rfl⟩
theorem fl_X2_61 : pm_fl RX2 61 1 0 := ⟨(RX1, TX1, 6), rfl, by decide, by decide, rfl, (pm_tb_t 90 (by decide +kernel) rfl), fw_1, rfl⟩
theorem fl_X5_106 : pm_fl RX5 106 1 0 := ⟨(RX1, TX1, 6), rfl, by decide, by decide, rfl, (pm_tb_t 91 (by decide +kernel) rfl), fw_1, rfl⟩
theorem fl_X9_198 : pm_fl RX9 198 1 0 := ⟨(RX1, TX1, 6), rfl, by decide, by decide, rfl, (pm_tb_t 92 (by decide +kernel) rfl), fw_1, rfl⟩
theorem fl_X1_17 : pm_fl RX1 17 1 1 := ⟨(RX1, TX1, 6), rfl, by decide, by decide, rfl, (pm_tb_t 93 (by decide +kernel) rfl), fw_1, rfl⟩
theorem fl_X1_20 : pm_fl RX1 20 1 2 := ⟨(RX1, TX1, 6), rfl, by decide, by decide, rfl, (pm_tb_t 94 (by decide +kernel) rfl), fw_1, rfl⟩
theorem fl_X9_222 : pm_fl RX9 222 1 2 := ⟨(RX1, TX1, 6), rfl, by decide, by decide, rfl, (pm_tb_t 95 (by decide +kernel) rfl), fw_1, rfl⟩
theorem fl_X1_24 : pm_fl RX1 24 1 3 := ⟨(RX1, TX1, 6), rfl, by decide, by decide, rfl, (pm_tb_t 96 (by decide +kernel) rfl), fw_1, rfl⟩
theorem fl_X9_136 : pm_fl RX9 136 1 3 := ⟨(RX1, TX1, 6), rfl, by decide, by decide, rfl, (pm_tb_t 97 (by decide +kernel) rfl), fw_1, rfl⟩
theorem fl_X5_110 : pm_fl RX5 110 1 3 := ⟨(RX1, TX1, 6), rfl, by decide, by decide, rfl, (pm_tb_t 98 (by decide +kernel) rfl), fw_1, rfl⟩
theorem fl_X2_160 : pm_fl RX2 160 1 3 := ⟨(RX1, TX1, 6), rfl, by decide, by decide, rfl, (pm_tb_t 99 (by decide +kernel) rfl), fw_1, rfl⟩
theorem fl_X1_28 : pm_fl RX1 28 1 4 := ⟨(RX1, TX1, 6), rfl, by decide, by decide, rfl, (pm_tb_t 100 (by decide +kernel) rfl), fw_1, rfl⟩
theorem fl_X2_53 : pm_fl RX2 53 1 4 := ⟨(RX1, TX1, 6), rfl, by decide, by decide, rfl, (pm_tb_t 101 (by decide +kernel) rfl), fw_1, rfl⟩
theorem fl_X9_173 : pm_fl RX9 173 1 4 := ⟨(RX1, TX1, 6), rfl, by decide, by decide, rfl, (pm_tb_t 102 (by decide +kernel) rfl), fw_1, rfl⟩
theorem fl_X1_31 : pm_fl RX1 31 1 5 := ⟨(RX1, TX1, 6), rfl, by decide, by decide, rfl, (pm_tb_t 103 (by decide +kernel) rfl), fw_1, rfl⟩
theorem fl_X9_313 : pm_fl RX9 313 1 5 := ⟨(RX1, TX1, 6), rfl, by decide, by decide, rfl, (pm_tb_t 104 (by decide +kernel) rfl), fw_1, rfl⟩
theorem fl_X5_9 : pm_fl RX5 9 5 0 := ⟨(RX5, TX5, 11), rfl, by decide, by decide, rfl, (pm_tb_t 118 (by decide +kernel) rfl), fw_5, rfl⟩
theorem fl_X5_18 : pm_fl RX5 18 5 1 := ⟨(RX5, TX5, 11), rfl, by decide, by decide, rfl, (pm_tb_t 119 (by decide +kernel) rfl), fw_5, rfl⟩
theorem fl_X9_124 : pm_fl RX9 124 5 1 := ⟨(RX5, TX5, 11), rfl, by decide, by decide, rfl, (pm_tb_t 120 (by decide +kernel) rfl), fw_5, rfl⟩
theorem fl_X5_25 : pm_fl RX5 25 5 2 := ⟨(RX5, TX5, 11), rfl, by decide, by decide, rfl, (pm_tb_t 121 (by decide +kernel) rfl), fw_5, rfl⟩
theorem fl_X9_129 : pm_fl RX9 129 5 2 := ⟨(RX5, TX5, 11), rfl, by decide, by decide, rfl, (pm_tb_t 122 (by decide +kernel) rfl), fw_5, rfl⟩
theorem fl_X5_29 : pm_fl RX5 29 5 3 := ⟨(RX5, TX5, 11), rfl, by decide, by decide, rfl, (pm_tb_t 123 (by decide +kernel) rfl), fw_5, rfl⟩
theorem fl_X9_112 : pm_fl RX9 112 5 3 := ⟨(RX5, TX5, 11), rfl, by decide, by decide, rfl, (pm_tb_t 124 (by decide +kernel) rfl), fw_5, rfl⟩
theorem fl_X5_33 : pm_fl RX5 33 5 4 := ⟨(RX5, TX5, 11), rfl, by decide, by decide, rfl, (pm_tb_t 125 (by decide +kernel) rfl), fw_5, rfl⟩
theorem fl_X9_139 : pm_fl RX9 139 5 4 := ⟨(RX5, TX5, 11), rfl, by decide, by decide, rfl, (pm_tb_t 126 (by decide +kernel) rfl), fw_5, rfl⟩
theorem fl_X5_36 : pm_fl RX5 36 5 5 := ⟨(RX5, TX5, 11), rfl, by decide, by decide, rfl, (pm_tb_t 127 (by decide +kernel) rfl), fw_5, rfl⟩
theorem fl_X9_121 : pm_fl RX9 121 5 5 := ⟨(RX5, TX5, 11), rfl, by decide, by decide, rfl, (pm_tb_t 128 (by decide +kernel) rfl), fw_5, rfl⟩
theorem fl_X5_39 : pm_fl RX5 39 5 6 := ⟨(RX5, TX5, 11), rfl, by decide, by decide, rfl, (pm_tb_t 129 (by decide +kernel) rfl), fw_5, rfl⟩
theorem fl_X5_42 : pm_fl RX5 42 5 7 := ⟨(RX5, TX5, 11), rfl, by decide, by decide, rfl, (pm_tb_t 130 (by decide +kernel) rfl), fw_5, rfl⟩
theorem fl_X5_45 : pm_fl RX5 45 5 8 := ⟨(RX5, TX5, 11), rfl, by decide, by decide, rfl, (pm_tb_t 131 (by decide +kernel) rfl), fw_5, rfl⟩
theorem fl_X5_48 : pm_fl RX5 48 5 9 := ⟨(RX5, TX5, 11), rfl, by decide, by decide, rfl, (pm_tb_t 132 (by decide +kernel) rfl), fw_5, rfl⟩
theorem fl_X5_51 : pm_fl RX5 51 5 10 := ⟨(RX5, TX5, 11), rfl, by decide, by decide, rfl, (pm_tb_t 133 (by decide +kernel) rfl), fw_5, rfl⟩
theorem lk_X9_31 : pm_lnI RX9 31 yX1_init 0 := ⟨⟨(pm_tb_t 160 (by decide +kernel) rfl), (pm_tb_t 4 (by decide +kernel) rfl), by decide +kernel, by decide +kernel, by decide +kernel⟩, (pm_tb_t 53 (by decide +kernel) rfl), rfl⟩
theorem lk_X9_38 : pm_lnI RX9 38 yX3_init 0 := ⟨⟨(pm_tb_t 163 (by decide +kernel) rfl), (pm_tb_t 6 (by decide +kernel) rfl), by decide +kernel, by decide +kernel, by decide +kernel⟩, (pm_tb_t 164 (by decide +kernel) rfl), rfl⟩
theorem ml_X3_3 : Cond.methodLink RX3 3 objectInit ∈ pm_tb := (pm_tb_t 166 (by decide +kernel) rfl)
theorem lk_X3_24 : pm_lnI RX3 24 yX1_init 0 := ⟨⟨(pm_tb_t 169 (by decide +kernel) rfl), (pm_tb_t 4 (by decide +kernel) rfl), by decide +kernel, by decide +kernel, by decide +kernel⟩, (pm_tb_t 53 (by decide +kernel) rfl), rfl⟩
theorem fl_X3_13 : pm_fl RX3 13 3 0 := ⟨(RX3, TX3, 3), rfl, by decide, by decide, rfl, (pm_tb_t 170 (by decide +kernel) rfl), fw_3, rfl⟩
theorem fl_X3_17 : pm_fl RX3 17 3 1 := ⟨(RX3, TX3, 3), rfl, by decide, by decide, rfl, (pm_tb_t 171 (by decide +kernel) rfl), fw_3, rfl⟩
theorem fl_X3_21 : pm_fl RX3 21 3 2 := ⟨(RX3, TX3, 3), rfl, by decide, by decide, rfl, (pm_tb_t 172 (by decide +kernel) rfl), fw_3, rfl⟩
theorem fl_X9_195 : pm_fl RX9 195 3 2 := ⟨(RX3, TX3, 3), rfl, by decide, by decide, rfl, (pm_tb_t 173 (by decide +kernel) rfl), fw_3, rfl⟩
theorem lk_X9_51 : pm_lnI RX9 51 yX2_init 0 := ⟨⟨(pm_tb_t 185 (by decide +kernel) rfl), (pm_tb_t 7 (by decide +kernel) rfl), by decide +kernel, by decide +kernel, by decide +kernel⟩, (pm_tb_t 186 (by decide +kernel) rfl), rfl⟩
theorem ml_X2_3 : Cond.methodLink RX2 3 objectInit ∈ pm_tb := (pm_tb_t 188 (by decide +kernel) rfl)
theorem lk_X2_20 : pm_lnI RX2 20 yX1_init 0 := ⟨⟨(pm_tb_t 190 (by decide +kernel) rfl), (pm_tb_t 4 (by decide +kernel) rfl), by decide +kernel, by decide +kernel, by decide +kernel⟩, (pm_tb_t 53 (by decide +kernel) rfl), rfl⟩
theorem fl_X2_9 : pm_fl RX2 9 2 0 := ⟨(RX2, TX2, 9), rfl, by decide, by decide, rfl, (pm_tb_t 195 (by decide +kernel) rfl), fw_2, rfl⟩
theorem fl_X9_239 : pm_fl RX9 239 2 0 := ⟨(RX2, TX2, 9), rfl, by decide, by decide, rfl, (pm_tb_t 196 (by decide +kernel) rfl), fw_2, rfl⟩
theorem fl_X2_15 : pm_fl RX2 15 2 1 := ⟨(RX2, TX2, 9), rfl, by decide, by decide, rfl, (pm_tb_t 197 (by decide +kernel) rfl), fw_2, rfl⟩
theorem fl_X9_246 : pm_fl RX9 246 2 1 := ⟨(RX2, TX2, 9), rfl, by decide, by decide, rfl, (pm_tb_t 198 (by decide +kernel) rfl), fw_2, rfl⟩
theorem fl_X2_21 : pm_fl RX2 21 2 2 := ⟨(RX2, TX2, 9), rfl, by decide, by decide, rfl, (pm_tb_t 199 (by decide +kernel) rfl), fw_2, rfl⟩
theorem fl_X9_281 : pm_fl RX9 281 2 2 := ⟨(RX2, TX2, 9), rfl, by decide, by decide, rfl, (pm_tb_t 200 (by decide +kernel) rfl), fw_2, rfl⟩
theorem fl_X2_25 : pm_fl RX2 25 2 3 := ⟨(RX2, TX2, 9), rfl, by decide, by decide, rfl, (pm_tb_t 201 (by decide +kernel) rfl), fw_2, rfl⟩
theorem fl_X2_30 : pm_fl RX2 30 2 4 := ⟨(RX2, TX2, 9), rfl, by decide, by decide, rfl, (pm_tb_t 202 (by decide +kernel) rfl), fw_2, rfl⟩
theorem fl_X2_35 : pm_fl RX2 35 2 5 := ⟨(RX2, TX2, 9), rfl, by decide, by decide, rfl, (pm_tb_t 203 (by decide +kernel) rfl), fw_2, rfl⟩
theorem fl_X2_42 : pm_fl RX2 42 2 6 := ⟨(RX2, TX2, 9), rfl, by decide, by decide, rfl, (pm_tb_t 204 (by decide +kernel) rfl), fw_2, rfl⟩
theorem fl_X2_46 : pm_fl RX2 46 2 7 := ⟨(RX2, TX2, 9), rfl, by decide, by decide, rfl, (pm_tb_t 205 (by decide +kernel) rfl), fw_2, rfl⟩
theorem fl_X2_49 : pm_fl RX2 49 2 8 := ⟨(RX2, TX2, 9), rfl, by decide, by decide, rfl, (pm_tb_t 206 (by decide +kernel) rfl), fw_2, rfl⟩
theorem ml_X0_1 : Cond.methodLink RX0 1 objectInit ∈ pm_tb := (pm_tb_t 231 (by decide +kernel) rfl)
theorem fl_X0_9 : pm_fl RX0 9 0 0 := ⟨(RX0, TX0, 3), rfl, by decide, by decide, rfl, (pm_tb_t 232 (by decide +kernel) rfl), fw_0, rfl⟩
theorem fl_X9_306 : pm_fl RX9 306 0 0 := ⟨(RX0, TX0, 3), rfl, by decide, by decide, rfl, (pm_tb_t 233 (by decide +kernel) rfl), fw_0, rfl⟩
theorem fl_X0_13 : pm_fl RX0 13 0 1 := ⟨(RX0, TX0, 3), rfl, by decide, by decide, rfl, (pm_tb_t 234 (by decide +kernel) rfl), fw_0, rfl⟩
theorem fl_X9_303 : pm_fl RX9 303 0 1 := ⟨(RX0, TX0, 3), rfl, by decide, by decide, rfl, (pm_tb_t 235 (by decide +kernel) rfl), fw_0, rfl⟩
theorem fl_X0_17 : pm_fl RX0 17 0 2 := ⟨(RX0, TX0, 3), rfl, by decide, by decide, rfl, (pm_tb_t 236 (by decide +kernel) rfl), fw_0, rfl⟩
theorem ml_X6_3 : Cond.methodLink RX6 3 objectInit ∈ pm_tb := (pm_tb_t 248 (by decide +kernel) rfl)
theorem fl_X6_9 : pm_fl RX6 9 6 0 := ⟨(RX6, TX6, 4), rfl, by decide, by decide, rfl, (pm_tb_t 249 (by decide +kernel) rfl), fw_6, rfl⟩
theorem fl_X9_97 : pm_fl RX9 97 6 0 := ⟨(RX6, TX6, 4), rfl, by decide, by decide, rfl, (pm_tb_t 250 (by decide +kernel) rfl), fw_6, rfl⟩
theorem fl_X2_123 : pm_fl RX2 123 6 0 := ⟨(RX6, TX6, 4), rfl, by decide, by decide, rfl, (pm_tb_t 251 (by decide +kernel) rfl), fw_6, rfl⟩
theorem fl_X6_15 : pm_fl RX6 15 6 1 := ⟨(RX6, TX6, 4), rfl, by decide, by decide, rfl, (pm_tb_t 252 (by decide +kernel) rfl), fw_6, rfl⟩
theorem fl_X9_82 : pm_fl RX9 82 6 1 := ⟨(RX6, TX6, 4), rfl, by decide, by decide, rfl, (pm_tb_t 253 (by decide +kernel) rfl), fw_6, rfl⟩
theorem fl_X6_19 : pm_fl RX6 19 6 2 := ⟨(RX6, TX6, 4), rfl, by decide, by decide, rfl, (pm_tb_t 254 (by decide +kernel) rfl), fw_6, rfl⟩
theorem fl_X9_94 : pm_fl RX9 94 6 2 := ⟨(RX6, TX6, 4), rfl, by decide, by decide, rfl, (pm_tb_t 255 (by decide +kernel) rfl), fw_6, rfl⟩
theorem fl_X6_23 : pm_fl RX6 23 6 3 := ⟨(RX6, TX6, 4), rfl, by decide, by decide, rfl, (pm_tb_t 256 (by decide +kernel) rfl), fw_6, rfl⟩
theorem fl_X9_107 : pm_fl RX9 107 6 3 := ⟨(RX6, TX6, 4), rfl, by decide, by decide, rfl, (pm_tb_t 257 (by decide +kernel) rfl), fw_6, rfl⟩
theorem ml_X4_1 : Cond.methodLink RX4 1 objectInit ∈ pm_tb := (pm_tb_t 271 (by decide +kernel) rfl)
theorem lk_X4_18 : pm_lnI RX4 18 yX1_init 0 := ⟨⟨(pm_tb_t 275 (by decide +kernel) rfl), (pm_tb_t 4 (by decide +kernel) rfl), by decide +kernel, by decide +kernel, by decide +kernel⟩, (pm_tb_t 53 (by decide +kernel) rfl), rfl⟩
theorem fl_X4_10 : pm_fl RX4 10 4 0 := ⟨(RX4, TX4, 3), rfl, by decide, by decide, rfl, (pm_tb_t 276 (by decide +kernel) rfl), fw_4, rfl⟩
theorem fl_X9_291 : pm_fl RX9 291 4 0 := ⟨(RX4, TX4, 3), rfl, by decide, by decide, rfl, (pm_tb_t 277 (by decide +kernel) rfl), fw_4, rfl⟩
theorem fl_X4_19 : pm_fl RX4 19 4 1 := ⟨(RX4, TX4, 3), rfl, by decide, by decide, rfl, (pm_tb_t 278 (by decide +kernel) rfl), fw_4, rfl⟩
theorem fl_X9_292 : pm_fl RX9 292 4 1 := ⟨(RX4, TX4, 3), rfl, by decide, by decide, rfl, (pm_tb_t 279 (by decide +kernel) rfl), fw_4, rfl⟩
theorem fl_X4_23 : pm_fl RX4 23 4 2 := ⟨(RX4, TX4, 3), rfl, by decide, by decide, rfl, (pm_tb_t 280 (by decide +kernel) rfl), fw_4, rfl⟩
theorem fl_X9_288 : pm_fl RX9 288 4 2 := ⟨(RX4, TX4, 3), rfl, by decide, by decide, rfl, (pm_tb_t 281 (by decide +kernel) rfl), fw_4, rfl⟩
theorem fl_X9_11 : pm_fl RX9 11 9 0 := ⟨(RX9, TX9, 9), rfl, by decide, by decide, rfl, (pm_tb_t 289 (by decide +kernel) rfl), fw_9, rfl⟩
theorem fl_X9_18 : pm_fl RX9 18 9 1 := ⟨(RX9, TX9, 9), rfl, by decide, by decide, rfl, (pm_tb_t 290 (by decide +kernel) rfl), fw_9, rfl⟩
theorem fl_X9_25 : pm_fl RX9 25 9 2 := ⟨(RX9, TX9, 9), rfl, by decide, by decide, rfl, (pm_tb_t 291 (by decide +kernel) rfl), fw_9, rfl⟩
theorem fl_X9_32 : pm_fl RX9 32 9 3 := ⟨(RX9, TX9, 9), rfl, by decide, by decide, rfl, (pm_tb_t 292 (by decide +kernel) rfl), fw_9, rfl⟩
theorem fl_X9_39 : pm_fl RX9 39 9 4 := ⟨(RX9, TX9, 9), rfl, by decide, by decide, rfl, (pm_tb_t 293 (by decide +kernel) rfl), fw_9, rfl⟩
theorem fl_X9_45 : pm_fl RX9 45 9 5 := ⟨(RX9, TX9, 9), rfl, by decide, by decide, rfl, (pm_tb_t 294 (by decide +kernel) rfl), fw_9, rfl⟩
theorem fl_X9_52 : pm_fl RX9 52 9 6 := ⟨(RX9, TX9, 9), rfl, by decide, by decide, rfl, (pm_tb_t 295 (by decide +kernel) rfl), fw_9, rfl⟩
theorem fl_X9_59 : pm_fl RX9 59 9 7 := ⟨(RX9, TX9, 9), rfl, by decide, by decide, rfl, (pm_tb_t 296 (by decide +kernel) rfl), fw_9, rfl⟩
theorem fl_X9_63 : pm_fl RX9 63 9 8 := ⟨(RX9, TX9, 9), rfl, by decide, by decide, rfl, (pm_tb_t 297 (by decide +kernel) rfl), fw_9, rfl⟩
theorem lk_L_13 : pm_lnV RL 13 yX9_row 3 9 := ⟨⟨(pm_tb_t 317 (by decide +kernel) rfl), (pm_tb_t 1 (by decide +kernel) rfl), by decide +kernel, by decide +kernel, by decide +kernel⟩, (pm_tb_t 318 (by decide +kernel) rfl), (pm_tb_t 319 (by decide +kernel) rfl), by decide, (RX9, TX9, 9), rfl, rfl⟩
theorem lk_X9_69 : pm_lnS RX9 69 yX9_isRow 1 := ⟨⟨(pm_tb_t 321 (by decide +kernel) rfl), (pm_tb_t 1 (by decide +kernel) rfl), by decide +kernel, by decide +kernel, by decide +kernel⟩, (pm_tb_t 322 (by decide +kernel) rfl)⟩
theorem ct_X9_73 : Cond.constant RX9 73 (-1000001) ∈ pm_tb := (pm_tb_t 324 (by decide +kernel) rfl)
theorem lk_X9_74 : pm_lnV RX9 74 yX9_found 1 9 := ⟨⟨(pm_tb_t 325 (by decide +kernel) rfl), (pm_tb_t 1 (by decide +kernel) rfl), by decide +kernel, by decide +kernel, by decide +kernel⟩, (pm_tb_t 327 (by decide +kernel) rfl), (pm_tb_s 0 (by decide +kernel) rfl), by decide, (RX9, TX9, 9), rfl, rfl⟩
theorem ct_X9_319 : Cond.constant RX9 319 (-1000010) ∈ pm_tb := (pm_tb_t 329 (by decide +kernel) rfl)
theorem lk_X9_78 : pm_lnV RX9 78 yX6_make 2 6 := ⟨⟨(pm_tb_t 330 (by decide +kernel) rfl), (pm_tb_t 9 (by decide +kernel) rfl), by decide +kernel, by decide +kernel, by decide +kernel⟩, (pm_tb_t 331 (by decide +kernel) rfl), (pm_tb_t 332 (by decide +kernel) rfl), by decide, (RX6, TX6, 4), rfl, rfl⟩
theorem lk_L_18 : pm_lnV RL 18 yX9_set 3 9 := ⟨⟨(pm_tb_t 334 (by decide +kernel) rfl), (pm_tb_t 1 (by decide +kernel) rfl), by decide +kernel, by decide +kernel, by decide +kernel⟩, (pm_tb_t 335 (by decide +kernel) rfl), (pm_tb_t 336 (by decide +kernel) rfl), by decide, (RX9, TX9, 9), rfl, rfl⟩
theorem lk_X9_86 : pm_lnV RX9 86 yX6_hasPlaces 2 6 := ⟨⟨(pm_tb_t 338 (by decide +kernel) rfl), (pm_tb_t 9 (by decide +kernel) rfl), by decide +kernel, by decide +kernel, by decide +kernel⟩, (pm_tb_t 339 (by decide +kernel) rfl), (pm_tb_t 340 (by decide +kernel) rfl), by decide, (RX6, TX6, 4), rfl, rfl⟩
theorem lk_X9_90 : pm_lnV RX9 90 yX6_put 2 6 := ⟨⟨(pm_tb_t 342 (by decide +kernel) rfl), (pm_tb_t 9 (by decide +kernel) rfl), by decide +kernel, by decide +kernel, by decide +kernel⟩, (pm_tb_t 343 (by decide +kernel) rfl), (pm_tb_t 344 (by decide +kernel) rfl), by decide, (RX6, TX6, 4), rfl, rfl⟩
theorem lk_L_22 : pm_lnV RL 22 yX9_copy 5 9 := ⟨⟨(pm_tb_t 346 (by decide +kernel) rfl), (pm_tb_t 1 (by decide +kernel) rfl), by decide +kernel, by decide +kernel, by decide +kernel⟩, (pm_tb_t 347 (by decide +kernel) rfl), (pm_tb_t 348 (by decide +kernel) rfl), by decide, (RX9, TX9, 9), rfl, rfl⟩
theorem ml_X9_101 : Cond.methodLink RX9 101 arraycopyName ∈ pm_tb := (pm_tb_t 350 (by decide +kernel) rfl)
theorem lk_L_27 : pm_lnV RL 27 yX9_drop 1 9 := ⟨⟨(pm_tb_t 353 (by decide +kernel) rfl), (pm_tb_t 1 (by decide +kernel) rfl), by decide +kernel, by decide +kernel, by decide +kernel⟩, (pm_tb_t 354 (by decide +kernel) rfl), (pm_tb_t 355 (by decide +kernel) rfl), by decide, (RX9, TX9, 9), rfl, rfl⟩
theorem lk_L_32 : pm_lnV RL 32 yX9_feed 1 9 := ⟨⟨(pm_tb_t 357 (by decide +kernel) rfl), (pm_tb_t 1 (by decide +kernel) rfl), by decide +kernel, by decide +kernel, by decide +kernel⟩, (pm_tb_t 358 (by decide +kernel) rfl), (pm_tb_t 359 (by decide +kernel) rfl), by decide, (RX9, TX9, 9), rfl, rfl⟩
theorem lk_X9_110 : pm_lnV RX9 110 yX5_put 1 5 := ⟨⟨(pm_tb_t 361 (by decide +kernel) rfl), (pm_tb_t 2 (by decide +kernel) rfl), by decide +kernel, by decide +kernel, by decide +kernel⟩, (pm_tb_t 362 (by decide +kernel) rfl), (pm_tb_t 363 (by decide +kernel) rfl), by decide, (RX5, TX5, 11), rfl, rfl⟩
theorem ct_X9_115 : Cond.constant RX9 115 (-1000003) ∈ pm_tb := (pm_tb_t 365 (by decide +kernel) rfl)
theorem lk_L_36 : pm_lnV RL 36 yX9_web 0 9 := ⟨⟨(pm_tb_t 366 (by decide +kernel) rfl), (pm_tb_t 1 (by decide +kernel) rfl), by decide +kernel, by decide +kernel, by decide +kernel⟩, (pm_tb_t 367 (by decide +kernel) rfl), (pm_tb_t 368 (by decide +kernel) rfl), by decide, (RX9, TX9, 9), rfl, rfl⟩
theorem lk_X9_116 : pm_lnV RX9 116 yX5_readTape 0 5 := ⟨⟨(pm_tb_t 370 (by decide +kernel) rfl), (pm_tb_t 2 (by decide +kernel) rfl), by decide +kernel, by decide +kernel, by decide +kernel⟩, (pm_tb_t 371 (by decide +kernel) rfl), (pm_tb_t 372 (by decide +kernel) rfl), by decide, (RX5, TX5, 11), rfl, rfl⟩
theorem lk_X5_54 : pm_lnV RX5 54 yX8_begin 1 8 := ⟨⟨(pm_tb_t 374 (by decide +kernel) rfl), (pm_tb_t 3 (by decide +kernel) rfl), by decide +kernel, by decide +kernel, by decide +kernel⟩, (pm_tb_t 375 (by decide +kernel) rfl), (pm_tb_t 376 (by decide +kernel) rfl), by decide, (RX8, TX8, 3), rfl, rfl⟩
theorem lk_X5_58 : pm_lnV RX5 58 yX1_clear 0 1 := ⟨⟨(pm_tb_t 378 (by decide +kernel) rfl), (pm_tb_t 4 (by decide +kernel) rfl), by decide +kernel, by decide +kernel, by decide +kernel⟩, (pm_tb_t 379 (by decide +kernel) rfl), (pm_tb_t 380 (by decide +kernel) rfl), by decide, (RX1, TX1, 6), rfl, rfl⟩
theorem lk_X5_61 : pm_lnV RX5 61 yX5_advance 0 5 := ⟨⟨(pm_tb_t 382 (by decide +kernel) rfl), (pm_tb_t 2 (by decide +kernel) rfl), by decide +kernel, by decide +kernel, by decide +kernel⟩, (pm_tb_t 384 (by decide +kernel) rfl), (pm_tb_s 1 (by decide +kernel) rfl), by decide, (RX5, TX5, 11), rfl, rfl⟩
theorem lk_X5_117 : pm_lnV RX5 117 yX5_byteAt 1 5 := ⟨⟨(pm_tb_t 386 (by decide +kernel) rfl), (pm_tb_t 2 (by decide +kernel) rfl), by decide +kernel, by decide +kernel, by decide +kernel⟩, (pm_tb_t 388 (by decide +kernel) rfl), (pm_tb_s 2 (by decide +kernel) rfl), by decide, (RX5, TX5, 11), rfl, rfl⟩
theorem lk_X5_120 : pm_lnS RX5 120 yX5_isFigure 1 := ⟨⟨(pm_tb_t 390 (by decide +kernel) rfl), (pm_tb_t 2 (by decide +kernel) rfl), by decide +kernel, by decide +kernel, by decide +kernel⟩, (pm_tb_t 391 (by decide +kernel) rfl)⟩
theorem lk_X5_64 : pm_lnV RX5 64 yX5_readLaw 0 5 := ⟨⟨(pm_tb_t 393 (by decide +kernel) rfl), (pm_tb_t 2 (by decide +kernel) rfl), by decide +kernel, by decide +kernel, by decide +kernel⟩, (pm_tb_t 395 (by decide +kernel) rfl), (pm_tb_s 3 (by decide +kernel) rfl), by decide, (RX5, TX5, 11), rfl, rfl⟩
theorem lk_X5_74 : pm_lnV RX5 74 yX5_take 1 5 := ⟨⟨(pm_tb_t 397 (by decide +kernel) rfl), (pm_tb_t 2 (by decide +kernel) rfl), by decide +kernel, by decide +kernel, by decide +kernel⟩, (pm_tb_t 399 (by decide +kernel) rfl), (pm_tb_s 4 (by decide +kernel) rfl), by decide, (RX5, TX5, 11), rfl, rfl⟩
theorem lk_X5_100 : pm_lnV RX5 100 yX5_wrong 1 5 := ⟨⟨(pm_tb_t 401 (by decide +kernel) rfl), (pm_tb_t 2 (by decide +kernel) rfl), by decide +kernel, by decide +kernel, by decide +kernel⟩, (pm_tb_t 403 (by decide +kernel) rfl), (pm_tb_s 5 (by decide +kernel) rfl), by decide, (RX5, TX5, 11), rfl, rfl⟩
theorem lk_X5_78 : pm_lnV RX5 78 yX5_takeNumber 2 5 := ⟨⟨(pm_tb_t 405 (by decide +kernel) rfl), (pm_tb_t 2 (by decide +kernel) rfl), by decide +kernel, by decide +kernel, by decide +kernel⟩, (pm_tb_t 407 (by decide +kernel) rfl), (pm_tb_s 6 (by decide +kernel) rfl), by decide, (RX5, TX5, 11), rfl, rfl⟩
theorem lk_X5_68 : pm_lnV RX5 68 yX5_readPages 0 5 := ⟨⟨(pm_tb_t 409 (by decide +kernel) rfl), (pm_tb_t 2 (by decide +kernel) rfl), by decide +kernel, by decide +kernel, by decide +kernel⟩, (pm_tb_t 411 (by decide +kernel) rfl), (pm_tb_s 7 (by decide +kernel) rfl), by decide, (RX5, TX5, 11), rfl, rfl⟩
theorem lk_X5_85 : pm_lnV RX5 85 yX5_readLinks 1 5 := ⟨⟨(pm_tb_t 413 (by decide +kernel) rfl), (pm_tb_t 2 (by decide +kernel) rfl), by decide +kernel, by decide +kernel, by decide +kernel⟩, (pm_tb_t 415 (by decide +kernel) rfl), (pm_tb_s 8 (by decide +kernel) rfl), by decide, (RX5, TX5, 11), rfl, rfl⟩
theorem lk_X5_88 : pm_lnV RX5 88 yX8_addLink 2 8 := ⟨⟨(pm_tb_t 417 (by decide +kernel) rfl), (pm_tb_t 3 (by decide +kernel) rfl), by decide +kernel, by decide +kernel, by decide +kernel⟩, (pm_tb_t 418 (by decide +kernel) rfl), (pm_tb_t 419 (by decide +kernel) rfl), by decide, (RX8, TX8, 3), rfl, rfl⟩
theorem lk_X8_28 : pm_lnV RX8 28 yX8_hasPage 1 8 := ⟨⟨(pm_tb_t 421 (by decide +kernel) rfl), (pm_tb_t 3 (by decide +kernel) rfl), by decide +kernel, by decide +kernel, by decide +kernel⟩, (pm_tb_t 422 (by decide +kernel) rfl), (pm_tb_t 423 (by decide +kernel) rfl), by decide, (RX8, TX8, 3), rfl, rfl⟩
theorem lk_X5_71 : pm_lnV RX5 71 yX5_readTabs 0 5 := ⟨⟨(pm_tb_t 425 (by decide +kernel) rfl), (pm_tb_t 2 (by decide +kernel) rfl), by decide +kernel, by decide +kernel, by decide +kernel⟩, (pm_tb_t 427 (by decide +kernel) rfl), (pm_tb_s 9 (by decide +kernel) rfl), by decide, (RX5, TX5, 11), rfl, rfl⟩
theorem lk_X5_92 : pm_lnV RX5 92 yX5_readTab 0 5 := ⟨⟨(pm_tb_t 429 (by decide +kernel) rfl), (pm_tb_t 2 (by decide +kernel) rfl), by decide +kernel, by decide +kernel, by decide +kernel⟩, (pm_tb_t 431 (by decide +kernel) rfl), (pm_tb_s 10 (by decide +kernel) rfl), by decide, (RX5, TX5, 11), rfl, rfl⟩
theorem lk_X5_95 : pm_lnS RX5 95 yX5_sortOf 1 := ⟨⟨(pm_tb_t 433 (by decide +kernel) rfl), (pm_tb_t 2 (by decide +kernel) rfl), by decide +kernel, by decide +kernel, by decide +kernel⟩, (pm_tb_t 434 (by decide +kernel) rfl)⟩
theorem ct_X5_99 : Cond.constant RX5 99 (-1000000) ∈ pm_tb := (pm_tb_t 436 (by decide +kernel) rfl)
theorem lk_X5_103 : pm_lnV RX5 103 yX1_hasRoom 0 1 := ⟨⟨(pm_tb_t 437 (by decide +kernel) rfl), (pm_tb_t 4 (by decide +kernel) rfl), by decide +kernel, by decide +kernel, by decide +kernel⟩, (pm_tb_t 438 (by decide +kernel) rfl), (pm_tb_t 439 (by decide +kernel) rfl), by decide, (RX1, TX1, 6), rfl, rfl⟩
theorem lk_X5_113 : pm_lnV RX5 113 yX7_begin 2 7 := ⟨⟨(pm_tb_t 441 (by decide +kernel) rfl), (pm_tb_t 5 (by decide +kernel) rfl), by decide +kernel, by decide +kernel, by decide +kernel⟩, (pm_tb_t 442 (by decide +kernel) rfl), (pm_tb_t 443 (by decide +kernel) rfl), by decide, (RX7, TX7, 5), rfl, rfl⟩
theorem lk_X7_28 : pm_lnV RX7 28 yX7_goHome 0 7 := ⟨⟨(pm_tb_t 445 (by decide +kernel) rfl), (pm_tb_t 5 (by decide +kernel) rfl), by decide +kernel, by decide +kernel, by decide +kernel⟩, (pm_tb_t 447 (by decide +kernel) rfl), (pm_tb_s 11 (by decide +kernel) rfl), by decide, (RX7, TX7, 5), rfl, rfl⟩
theorem ct_X9_120 : Cond.constant RX9 120 (-1000100) ∈ pm_tb := (pm_tb_t 449 (by decide +kernel) rfl)
theorem lk_X9_125 : pm_lnV RX9 125 yX8_become 1 8 := ⟨⟨(pm_tb_t 450 (by decide +kernel) rfl), (pm_tb_t 3 (by decide +kernel) rfl), by decide +kernel, by decide +kernel, by decide +kernel⟩, (pm_tb_t 451 (by decide +kernel) rfl), (pm_tb_t 452 (by decide +kernel) rfl), by decide, (RX8, TX8, 3), rfl, rfl⟩
theorem ml_X8_22 : Cond.methodLink RX8 22 arraycopyName ∈ pm_tb := (pm_tb_t 454 (by decide +kernel) rfl)
theorem lk_X9_130 : pm_lnV RX9 130 yX1_become 1 1 := ⟨⟨(pm_tb_t 455 (by decide +kernel) rfl), (pm_tb_t 4 (by decide +kernel) rfl), by decide +kernel, by decide +kernel, by decide +kernel⟩, (pm_tb_t 456 (by decide +kernel) rfl), (pm_tb_t 457 (by decide +kernel) rfl), by decide, (RX1, TX1, 6), rfl, rfl⟩
theorem lk_X1_35 : pm_lnV RX1 35 yX7_become 1 7 := ⟨⟨(pm_tb_t 459 (by decide +kernel) rfl), (pm_tb_t 5 (by decide +kernel) rfl), by decide +kernel, by decide +kernel, by decide +kernel⟩, (pm_tb_t 460 (by decide +kernel) rfl), (pm_tb_t 461 (by decide +kernel) rfl), by decide, (RX7, TX7, 5), rfl, rfl⟩
theorem ml_X7_31 : Cond.methodLink RX7 31 arraycopyName ∈ pm_tb := (pm_tb_t 463 (by decide +kernel) rfl)
theorem ml_X1_39 : Cond.methodLink RX1 39 arraycopyName ∈ pm_tb := (pm_tb_t 464 (by decide +kernel) rfl)
theorem lk_X9_133 : pm_lnV RX9 133 yX3_forget 0 3 := ⟨⟨(pm_tb_t 465 (by decide +kernel) rfl), (pm_tb_t 6 (by decide +kernel) rfl), by decide +kernel, by decide +kernel, by decide +kernel⟩, (pm_tb_t 466 (by decide +kernel) rfl), (pm_tb_t 467 (by decide +kernel) rfl), by decide, (RX3, TX3, 3), rfl, rfl⟩
theorem lk_L_41 : pm_lnV RL 41 yX9_fault 0 9 := ⟨⟨(pm_tb_t 469 (by decide +kernel) rfl), (pm_tb_t 1 (by decide +kernel) rfl), by decide +kernel, by decide +kernel, by decide +kernel⟩, (pm_tb_t 470 (by decide +kernel) rfl), (pm_tb_t 471 (by decide +kernel) rfl), by decide, (RX9, TX9, 9), rfl, rfl⟩
theorem lk_L_45 : pm_lnV RL 45 yX9_follow 1 9 := ⟨⟨(pm_tb_t 473 (by decide +kernel) rfl), (pm_tb_t 1 (by decide +kernel) rfl), by decide +kernel, by decide +kernel, by decide +kernel⟩, (pm_tb_t 474 (by decide +kernel) rfl), (pm_tb_t 475 (by decide +kernel) rfl), by decide, (RX9, TX9, 9), rfl, rfl⟩
theorem lk_X9_142 : pm_lnV RX9 142 yX9_stands 0 9 := ⟨⟨(pm_tb_t 477 (by decide +kernel) rfl), (pm_tb_t 1 (by decide +kernel) rfl), by decide +kernel, by decide +kernel, by decide +kernel⟩, (pm_tb_t 479 (by decide +kernel) rfl), (pm_tb_s 12 (by decide +kernel) rfl), by decide, (RX9, TX9, 9), rfl, rfl⟩
theorem ct_X9_145 : Cond.constant RX9 145 (-1000002) ∈ pm_tb := (pm_tb_t 481 (by decide +kernel) rfl)
theorem lk_X9_146 : pm_lnS RX9 146 yX9_isLinkNumber 1 := ⟨⟨(pm_tb_t 482 (by decide +kernel) rfl), (pm_tb_t 1 (by decide +kernel) rfl), by decide +kernel, by decide +kernel, by decide +kernel⟩, (pm_tb_t 483 (by decide +kernel) rfl)⟩
theorem lk_X9_149 : pm_lnV RX9 149 yX3_prepare 1 3 := ⟨⟨(pm_tb_t 485 (by decide +kernel) rfl), (pm_tb_t 6 (by decide +kernel) rfl), by decide +kernel, by decide +kernel, by decide +kernel⟩, (pm_tb_t 486 (by decide +kernel) rfl), (pm_tb_t 487 (by decide +kernel) rfl), by decide, (RX3, TX3, 3), rfl, rfl⟩
theorem lk_X3_25 : pm_lnV RX3 25 yX1_become 1 1 := ⟨⟨(pm_tb_t 489 (by decide +kernel) rfl), (pm_tb_t 4 (by decide +kernel) rfl), by decide +kernel, by decide +kernel, by decide +kernel⟩, (pm_tb_t 456 (by decide +kernel) rfl), (pm_tb_t 457 (by decide +kernel) rfl), by decide, (RX1, TX1, 6), rfl, rfl⟩
theorem lk_X9_152 : pm_lnV RX9 152 yX1_followLink 2 1 := ⟨⟨(pm_tb_t 490 (by decide +kernel) rfl), (pm_tb_t 4 (by decide +kernel) rfl), by decide +kernel, by decide +kernel, by decide +kernel⟩, (pm_tb_t 491 (by decide +kernel) rfl), (pm_tb_t 492 (by decide +kernel) rfl), by decide, (RX1, TX1, 6), rfl, rfl⟩
theorem lk_X1_45 : pm_lnV RX1 45 yX1_hasTab 1 1 := ⟨⟨(pm_tb_t 494 (by decide +kernel) rfl), (pm_tb_t 4 (by decide +kernel) rfl), by decide +kernel, by decide +kernel, by decide +kernel⟩, (pm_tb_t 495 (by decide +kernel) rfl), (pm_tb_t 496 (by decide +kernel) rfl), by decide, (RX1, TX1, 6), rfl, rfl⟩
theorem lk_X1_49 : pm_lnV RX1 49 yX7_shownPage 0 7 := ⟨⟨(pm_tb_t 498 (by decide +kernel) rfl), (pm_tb_t 5 (by decide +kernel) rfl), by decide +kernel, by decide +kernel, by decide +kernel⟩, (pm_tb_t 499 (by decide +kernel) rfl), (pm_tb_t 500 (by decide +kernel) rfl), by decide, (RX7, TX7, 5), rfl, rfl⟩
theorem ct_X7_40 : Cond.constant RX7 40 (-1000000) ∈ pm_tb := (pm_tb_t 502 (by decide +kernel) rfl)
theorem lk_X1_53 : pm_lnV RX1 53 yX8_target 2 8 := ⟨⟨(pm_tb_t 503 (by decide +kernel) rfl), (pm_tb_t 3 (by decide +kernel) rfl), by decide +kernel, by decide +kernel, by decide +kernel⟩, (pm_tb_t 504 (by decide +kernel) rfl), (pm_tb_t 505 (by decide +kernel) rfl), by decide, (RX8, TX8, 3), rfl, rfl⟩
theorem lk_X8_32 : pm_lnV RX8 32 yX8_linksOf 1 8 := ⟨⟨(pm_tb_t 507 (by decide +kernel) rfl), (pm_tb_t 3 (by decide +kernel) rfl), by decide +kernel, by decide +kernel, by decide +kernel⟩, (pm_tb_t 508 (by decide +kernel) rfl), (pm_tb_t 509 (by decide +kernel) rfl), by decide, (RX8, TX8, 3), rfl, rfl⟩
theorem ct_X8_36 : Cond.constant RX8 36 (-1000000) ∈ pm_tb := (pm_tb_t 511 (by decide +kernel) rfl)
theorem ct_X1_59 : Cond.constant RX1 59 (-1000000) ∈ pm_tb := (pm_tb_t 512 (by decide +kernel) rfl)
theorem lk_X1_63 : pm_lnV RX1 63 yX7_moveOn 1 7 := ⟨⟨(pm_tb_t 513 (by decide +kernel) rfl), (pm_tb_t 5 (by decide +kernel) rfl), by decide +kernel, by decide +kernel, by decide +kernel⟩, (pm_tb_t 514 (by decide +kernel) rfl), (pm_tb_t 515 (by decide +kernel) rfl), by decide, (RX7, TX7, 5), rfl, rfl⟩
theorem lk_X7_41 : pm_lnV RX7 41 yX7_forgetFirst 0 7 := ⟨⟨(pm_tb_t 517 (by decide +kernel) rfl), (pm_tb_t 5 (by decide +kernel) rfl), by decide +kernel, by decide +kernel, by decide +kernel⟩, (pm_tb_t 519 (by decide +kernel) rfl), (pm_tb_s 13 (by decide +kernel) rfl), by decide, (RX7, TX7, 5), rfl, rfl⟩
theorem lk_X1_67 : pm_lnV RX1 67 yX1_hasRoom 0 1 := ⟨⟨(pm_tb_t 521 (by decide +kernel) rfl), (pm_tb_t 4 (by decide +kernel) rfl), by decide +kernel, by decide +kernel, by decide +kernel⟩, (pm_tb_t 438 (by decide +kernel) rfl), (pm_tb_t 439 (by decide +kernel) rfl), by decide, (RX1, TX1, 6), rfl, rfl⟩
theorem lk_X1_71 : pm_lnV RX1 71 yX1_addTab 1 1 := ⟨⟨(pm_tb_t 522 (by decide +kernel) rfl), (pm_tb_t 4 (by decide +kernel) rfl), by decide +kernel, by decide +kernel, by decide +kernel⟩, (pm_tb_t 524 (by decide +kernel) rfl), (pm_tb_s 14 (by decide +kernel) rfl), by decide, (RX1, TX1, 6), rfl, rfl⟩
theorem ml_X1_95 : Cond.methodLink RX1 95 Lib.Math.min.name ∈ pm_tb := (pm_tb_t 526 (by decide +kernel) rfl)
theorem ml_X1_103 : Cond.methodLink RX1 103 Lib.Math.max.name ∈ pm_tb := (pm_tb_t 529 (by decide +kernel) rfl)
theorem lk_X1_75 : pm_lnV RX1 75 yX7_begin 2 7 := ⟨⟨(pm_tb_t 532 (by decide +kernel) rfl), (pm_tb_t 5 (by decide +kernel) rfl), by decide +kernel, by decide +kernel, by decide +kernel⟩, (pm_tb_t 442 (by decide +kernel) rfl), (pm_tb_t 443 (by decide +kernel) rfl), by decide, (RX7, TX7, 5), rfl, rfl⟩
theorem lk_X1_79 : pm_lnV RX1 79 yX1_shownPage 0 1 := ⟨⟨(pm_tb_t 533 (by decide +kernel) rfl), (pm_tb_t 4 (by decide +kernel) rfl), by decide +kernel, by decide +kernel, by decide +kernel⟩, (pm_tb_t 534 (by decide +kernel) rfl), (pm_tb_t 535 (by decide +kernel) rfl), by decide, (RX1, TX1, 6), rfl, rfl⟩
theorem lk_X1_80 : pm_lnV RX1 80 yX1_visit 1 1 := ⟨⟨(pm_tb_t 537 (by decide +kernel) rfl), (pm_tb_t 4 (by decide +kernel) rfl), by decide +kernel, by decide +kernel, by decide +kernel⟩, (pm_tb_t 539 (by decide +kernel) rfl), (pm_tb_s 15 (by decide +kernel) rfl), by decide, (RX1, TX1, 6), rfl, rfl⟩
theorem lk_X9_156 : pm_lnV RX9 156 yX9_actDone 1 9 := ⟨⟨(pm_tb_t 541 (by decide +kernel) rfl), (pm_tb_t 1 (by decide +kernel) rfl), by decide +kernel, by decide +kernel, by decide +kernel⟩, (pm_tb_t 543 (by decide +kernel) rfl), (pm_tb_s 16 (by decide +kernel) rfl), by decide, (RX9, TX9, 9), rfl, rfl⟩
theorem lk_X9_320 : pm_lnV RX9 320 yX3_commit 0 3 := ⟨⟨(pm_tb_t 545 (by decide +kernel) rfl), (pm_tb_t 6 (by decide +kernel) rfl), by decide +kernel, by decide +kernel, by decide +kernel⟩, (pm_tb_t 546 (by decide +kernel) rfl), (pm_tb_t 547 (by decide +kernel) rfl), by decide, (RX3, TX3, 3), rfl, rfl⟩
theorem ml_X3_29 : Cond.methodLink RX3 29 Lib.Math.min.name ∈ pm_tb := (pm_tb_t 549 (by decide +kernel) rfl)
theorem lk_X9_160 : pm_lnV RX9 160 yX1_shownPage 0 1 := ⟨⟨(pm_tb_t 550 (by decide +kernel) rfl), (pm_tb_t 4 (by decide +kernel) rfl), by decide +kernel, by decide +kernel, by decide +kernel⟩, (pm_tb_t 534 (by decide +kernel) rfl), (pm_tb_t 535 (by decide +kernel) rfl), by decide, (RX1, TX1, 6), rfl, rfl⟩
theorem lk_L_49 : pm_lnV RL 49 yX9_back 0 9 := ⟨⟨(pm_tb_t 551 (by decide +kernel) rfl), (pm_tb_t 1 (by decide +kernel) rfl), by decide +kernel, by decide +kernel, by decide +kernel⟩, (pm_tb_t 552 (by decide +kernel) rfl), (pm_tb_t 553 (by decide +kernel) rfl), by decide, (RX9, TX9, 9), rfl, rfl⟩
theorem lk_X9_164 : pm_lnV RX9 164 yX1_stepBack 0 1 := ⟨⟨(pm_tb_t 555 (by decide +kernel) rfl), (pm_tb_t 4 (by decide +kernel) rfl), by decide +kernel, by decide +kernel, by decide +kernel⟩, (pm_tb_t 556 (by decide +kernel) rfl), (pm_tb_t 557 (by decide +kernel) rfl), by decide, (RX1, TX1, 6), rfl, rfl⟩
theorem lk_X1_83 : pm_lnV RX1 83 yX7_stepBack 0 7 := ⟨⟨(pm_tb_t 559 (by decide +kernel) rfl), (pm_tb_t 5 (by decide +kernel) rfl), by decide +kernel, by decide +kernel, by decide +kernel⟩, (pm_tb_t 560 (by decide +kernel) rfl), (pm_tb_t 561 (by decide +kernel) rfl), by decide, (RX7, TX7, 5), rfl, rfl⟩
theorem lk_L_53 : pm_lnV RL 53 yX9_forward 0 9 := ⟨⟨(pm_tb_t 563 (by decide +kernel) rfl), (pm_tb_t 1 (by decide +kernel) rfl), by decide +kernel, by decide +kernel, by decide +kernel⟩, (pm_tb_t 564 (by decide +kernel) rfl), (pm_tb_t 565 (by decide +kernel) rfl), by decide, (RX9, TX9, 9), rfl, rfl⟩
theorem lk_X9_167 : pm_lnV RX9 167 yX1_stepForward 0 1 := ⟨⟨(pm_tb_t 567 (by decide +kernel) rfl), (pm_tb_t 4 (by decide +kernel) rfl), by decide +kernel, by decide +kernel, by decide +kernel⟩, (pm_tb_t 568 (by decide +kernel) rfl), (pm_tb_t 569 (by decide +kernel) rfl), by decide, (RX1, TX1, 6), rfl, rfl⟩
theorem lk_X1_86 : pm_lnV RX1 86 yX7_stepForward 0 7 := ⟨⟨(pm_tb_t 571 (by decide +kernel) rfl), (pm_tb_t 5 (by decide +kernel) rfl), by decide +kernel, by decide +kernel, by decide +kernel⟩, (pm_tb_t 572 (by decide +kernel) rfl), (pm_tb_t 573 (by decide +kernel) rfl), by decide, (RX7, TX7, 5), rfl, rfl⟩
theorem lk_L_57 : pm_lnV RL 57 yX9_select 1 9 := ⟨⟨(pm_tb_t 575 (by decide +kernel) rfl), (pm_tb_t 1 (by decide +kernel) rfl), by decide +kernel, by decide +kernel, by decide +kernel⟩, (pm_tb_t 576 (by decide +kernel) rfl), (pm_tb_t 577 (by decide +kernel) rfl), by decide, (RX9, TX9, 9), rfl, rfl⟩
theorem lk_X9_170 : pm_lnV RX9 170 yX1_hasTab 1 1 := ⟨⟨(pm_tb_t 579 (by decide +kernel) rfl), (pm_tb_t 4 (by decide +kernel) rfl), by decide +kernel, by decide +kernel, by decide +kernel⟩, (pm_tb_t 495 (by decide +kernel) rfl), (pm_tb_t 496 (by decide +kernel) rfl), by decide, (RX1, TX1, 6), rfl, rfl⟩
theorem lk_X9_176 : pm_lnV RX9 176 yX1_selectTab 1 1 := ⟨⟨(pm_tb_t 580 (by decide +kernel) rfl), (pm_tb_t 4 (by decide +kernel) rfl), by decide +kernel, by decide +kernel, by decide +kernel⟩, (pm_tb_t 581 (by decide +kernel) rfl), (pm_tb_t 582 (by decide +kernel) rfl), by decide, (RX1, TX1, 6), rfl, rfl⟩
theorem lk_L_61 : pm_lnV RL 61 yX9_open 1 9 := ⟨⟨(pm_tb_t 584 (by decide +kernel) rfl), (pm_tb_t 1 (by decide +kernel) rfl), by decide +kernel, by decide +kernel, by decide +kernel⟩, (pm_tb_t 585 (by decide +kernel) rfl), (pm_tb_t 586 (by decide +kernel) rfl), by decide, (RX9, TX9, 9), rfl, rfl⟩
theorem lk_X9_179 : pm_lnV RX9 179 yX8_hasPage 1 8 := ⟨⟨(pm_tb_t 588 (by decide +kernel) rfl), (pm_tb_t 3 (by decide +kernel) rfl), by decide +kernel, by decide +kernel, by decide +kernel⟩, (pm_tb_t 422 (by decide +kernel) rfl), (pm_tb_t 423 (by decide +kernel) rfl), by decide, (RX8, TX8, 3), rfl, rfl⟩
theorem lk_X9_182 : pm_lnV RX9 182 yX1_openPage 1 1 := ⟨⟨(pm_tb_t 589 (by decide +kernel) rfl), (pm_tb_t 4 (by decide +kernel) rfl), by decide +kernel, by decide +kernel, by decide +kernel⟩, (pm_tb_t 590 (by decide +kernel) rfl), (pm_tb_t 591 (by decide +kernel) rfl), by decide, (RX1, TX1, 6), rfl, rfl⟩
theorem lk_L_65 : pm_lnV RL 65 yX9_close 0 9 := ⟨⟨(pm_tb_t 593 (by decide +kernel) rfl), (pm_tb_t 1 (by decide +kernel) rfl), by decide +kernel, by decide +kernel, by decide +kernel⟩, (pm_tb_t 594 (by decide +kernel) rfl), (pm_tb_t 595 (by decide +kernel) rfl), by decide, (RX9, TX9, 9), rfl, rfl⟩
theorem lk_X9_185 : pm_lnV RX9 185 yX1_closeNow 0 1 := ⟨⟨(pm_tb_t 597 (by decide +kernel) rfl), (pm_tb_t 4 (by decide +kernel) rfl), by decide +kernel, by decide +kernel, by decide +kernel⟩, (pm_tb_t 598 (by decide +kernel) rfl), (pm_tb_t 599 (by decide +kernel) rfl), by decide, (RX1, TX1, 6), rfl, rfl⟩
theorem lk_X1_89 : pm_lnV RX1 89 yX7_isOf 1 7 := ⟨⟨(pm_tb_t 601 (by decide +kernel) rfl), (pm_tb_t 5 (by decide +kernel) rfl), by decide +kernel, by decide +kernel, by decide +kernel⟩, (pm_tb_t 602 (by decide +kernel) rfl), (pm_tb_t 603 (by decide +kernel) rfl), by decide, (RX7, TX7, 5), rfl, rfl⟩
theorem fs_X7_37 : ∀ s, pm_N s → va_Nw (.fieldLinkNest RX7 37 "TabTrails" "WIDER_KIND" "[I" "TabTrails") s := fun _ h => h.1
theorem lk_X1_92 : pm_lnV RX1 92 yX1_keepClosed 1 1 := ⟨⟨(pm_tb_t 607 (by decide +kernel) rfl), (pm_tb_t 4 (by decide +kernel) rfl), by decide +kernel, by decide +kernel, by decide +kernel⟩, (pm_tb_t 609 (by decide +kernel) rfl), (pm_tb_s 17 (by decide +kernel) rfl), by decide, (RX1, TX1, 6), rfl, rfl⟩
theorem lk_L_69 : pm_lnV RL 69 yX9_again 0 9 := ⟨⟨(pm_tb_t 611 (by decide +kernel) rfl), (pm_tb_t 1 (by decide +kernel) rfl), by decide +kernel, by decide +kernel, by decide +kernel⟩, (pm_tb_t 612 (by decide +kernel) rfl), (pm_tb_t 613 (by decide +kernel) rfl), by decide, (RX9, TX9, 9), rfl, rfl⟩
theorem lk_X9_188 : pm_lnV RX9 188 yX1_reopen 0 1 := ⟨⟨(pm_tb_t 615 (by decide +kernel) rfl), (pm_tb_t 4 (by decide +kernel) rfl), by decide +kernel, by decide +kernel, by decide +kernel⟩, (pm_tb_t 616 (by decide +kernel) rfl), (pm_tb_t 617 (by decide +kernel) rfl), by decide, (RX1, TX1, 6), rfl, rfl⟩
theorem lk_L_73 : pm_lnV RL 73 yX9_undo 0 9 := ⟨⟨(pm_tb_t 619 (by decide +kernel) rfl), (pm_tb_t 1 (by decide +kernel) rfl), by decide +kernel, by decide +kernel, by decide +kernel⟩, (pm_tb_t 620 (by decide +kernel) rfl), (pm_tb_t 621 (by decide +kernel) rfl), by decide, (RX9, TX9, 9), rfl, rfl⟩
theorem lk_X9_191 : pm_lnV RX9 191 yX3_takeBack 1 3 := ⟨⟨(pm_tb_t 623 (by decide +kernel) rfl), (pm_tb_t 6 (by decide +kernel) rfl), by decide +kernel, by decide +kernel, by decide +kernel⟩, (pm_tb_t 624 (by decide +kernel) rfl), (pm_tb_t 625 (by decide +kernel) rfl), by decide, (RX3, TX3, 3), rfl, rfl⟩
theorem lk_L_77 : pm_lnV RL 77 yX9_tab 2 9 := ⟨⟨(pm_tb_t 627 (by decide +kernel) rfl), (pm_tb_t 1 (by decide +kernel) rfl), by decide +kernel, by decide +kernel, by decide +kernel⟩, (pm_tb_t 628 (by decide +kernel) rfl), (pm_tb_t 629 (by decide +kernel) rfl), by decide, (RX9, TX9, 9), rfl, rfl⟩
theorem lk_X9_202 : pm_lnV RX9 202 yX7_shownPage 0 7 := ⟨⟨(pm_tb_t 631 (by decide +kernel) rfl), (pm_tb_t 5 (by decide +kernel) rfl), by decide +kernel, by decide +kernel, by decide +kernel⟩, (pm_tb_t 499 (by decide +kernel) rfl), (pm_tb_t 500 (by decide +kernel) rfl), by decide, (RX7, TX7, 5), rfl, rfl⟩
theorem lk_L_82 : pm_lnV RL 82 yX9_trail 2 9 := ⟨⟨(pm_tb_t 632 (by decide +kernel) rfl), (pm_tb_t 1 (by decide +kernel) rfl), by decide +kernel, by decide +kernel, by decide +kernel⟩, (pm_tb_t 633 (by decide +kernel) rfl), (pm_tb_t 634 (by decide +kernel) rfl), by decide, (RX9, TX9, 9), rfl, rfl⟩
theorem ct_X9_215 : Cond.constant RX9 215 (-1000000) ∈ pm_tb := (pm_tb_t 636 (by decide +kernel) rfl)
theorem lk_L_86 : pm_lnV RL 86 yX9_page 2 9 := ⟨⟨(pm_tb_t 637 (by decide +kernel) rfl), (pm_tb_t 1 (by decide +kernel) rfl), by decide +kernel, by decide +kernel, by decide +kernel⟩, (pm_tb_t 638 (by decide +kernel) rfl), (pm_tb_t 639 (by decide +kernel) rfl), by decide, (RX9, TX9, 9), rfl, rfl⟩
theorem lk_X9_216 : pm_lnV RX9 216 yX8_linksOf 1 8 := ⟨⟨(pm_tb_t 641 (by decide +kernel) rfl), (pm_tb_t 3 (by decide +kernel) rfl), by decide +kernel, by decide +kernel, by decide +kernel⟩, (pm_tb_t 508 (by decide +kernel) rfl), (pm_tb_t 509 (by decide +kernel) rfl), by decide, (RX8, TX8, 3), rfl, rfl⟩
theorem lk_X9_219 : pm_lnV RX9 219 yX8_target 2 8 := ⟨⟨(pm_tb_t 642 (by decide +kernel) rfl), (pm_tb_t 3 (by decide +kernel) rfl), by decide +kernel, by decide +kernel, by decide +kernel⟩, (pm_tb_t 504 (by decide +kernel) rfl), (pm_tb_t 505 (by decide +kernel) rfl), by decide, (RX8, TX8, 3), rfl, rfl⟩
theorem lk_L_90 : pm_lnV RL 90 yX9_walk 2 9 := ⟨⟨(pm_tb_t 643 (by decide +kernel) rfl), (pm_tb_t 1 (by decide +kernel) rfl), by decide +kernel, by decide +kernel, by decide +kernel⟩, (pm_tb_t 644 (by decide +kernel) rfl), (pm_tb_t 645 (by decide +kernel) rfl), by decide, (RX9, TX9, 9), rfl, rfl⟩
theorem lk_X9_225 : pm_lnV RX9 225 yX8_walkedTo 3 8 := ⟨⟨(pm_tb_t 647 (by decide +kernel) rfl), (pm_tb_t 3 (by decide +kernel) rfl), by decide +kernel, by decide +kernel, by decide +kernel⟩, (pm_tb_t 648 (by decide +kernel) rfl), (pm_tb_t 649 (by decide +kernel) rfl), by decide, (RX8, TX8, 3), rfl, rfl⟩
theorem ml_X8_37 : Cond.methodLink RX8 37 Lib.Math.min.name ∈ pm_tb := (pm_tb_t 651 (by decide +kernel) rfl)
theorem lk_X8_43 : pm_lnV RX8 43 yX8_target 2 8 := ⟨⟨(pm_tb_t 652 (by decide +kernel) rfl), (pm_tb_t 3 (by decide +kernel) rfl), by decide +kernel, by decide +kernel, by decide +kernel⟩, (pm_tb_t 504 (by decide +kernel) rfl), (pm_tb_t 505 (by decide +kernel) rfl), by decide, (RX8, TX8, 3), rfl, rfl⟩
theorem lk_L_94 : pm_lnV RL 94 yX9_far 2 9 := ⟨⟨(pm_tb_t 653 (by decide +kernel) rfl), (pm_tb_t 1 (by decide +kernel) rfl), by decide +kernel, by decide +kernel, by decide +kernel⟩, (pm_tb_t 654 (by decide +kernel) rfl), (pm_tb_t 655 (by decide +kernel) rfl), by decide, (RX9, TX9, 9), rfl, rfl⟩
theorem lk_X9_229 : pm_lnV RX9 229 yX8_distance 2 8 := ⟨⟨(pm_tb_t 657 (by decide +kernel) rfl), (pm_tb_t 3 (by decide +kernel) rfl), by decide +kernel, by decide +kernel, by decide +kernel⟩, (pm_tb_t 658 (by decide +kernel) rfl), (pm_tb_t 659 (by decide +kernel) rfl), by decide, (RX8, TX8, 3), rfl, rfl⟩
theorem lk_X8_46 : pm_lnV RX8 46 yX8_withNeighbours 1 8 := ⟨⟨(pm_tb_t 661 (by decide +kernel) rfl), (pm_tb_t 3 (by decide +kernel) rfl), by decide +kernel, by decide +kernel, by decide +kernel⟩, (pm_tb_t 663 (by decide +kernel) rfl), (pm_tb_s 18 (by decide +kernel) rfl), by decide, (RX8, TX8, 3), rfl, rfl⟩
theorem lk_L_98 : pm_lnV RL 98 yX9_round 1 9 := ⟨⟨(pm_tb_t 665 (by decide +kernel) rfl), (pm_tb_t 1 (by decide +kernel) rfl), by decide +kernel, by decide +kernel, by decide +kernel⟩, (pm_tb_t 666 (by decide +kernel) rfl), (pm_tb_t 667 (by decide +kernel) rfl), by decide, (RX9, TX9, 9), rfl, rfl⟩
theorem lk_X9_232 : pm_lnV RX9 232 yX8_circle 1 8 := ⟨⟨(pm_tb_t 669 (by decide +kernel) rfl), (pm_tb_t 3 (by decide +kernel) rfl), by decide +kernel, by decide +kernel, by decide +kernel⟩, (pm_tb_t 670 (by decide +kernel) rfl), (pm_tb_t 671 (by decide +kernel) rfl), by decide, (RX8, TX8, 3), rfl, rfl⟩
theorem lk_X8_49 : pm_lnV RX8 49 yX8_distance 2 8 := ⟨⟨(pm_tb_t 673 (by decide +kernel) rfl), (pm_tb_t 3 (by decide +kernel) rfl), by decide +kernel, by decide +kernel, by decide +kernel⟩, (pm_tb_t 658 (by decide +kernel) rfl), (pm_tb_t 659 (by decide +kernel) rfl), by decide, (RX8, TX8, 3), rfl, rfl⟩
theorem lk_L_102 : pm_lnV RL 102 yX9_to 2 9 := ⟨⟨(pm_tb_t 674 (by decide +kernel) rfl), (pm_tb_t 1 (by decide +kernel) rfl), by decide +kernel, by decide +kernel, by decide +kernel⟩, (pm_tb_t 675 (by decide +kernel) rfl), (pm_tb_t 676 (by decide +kernel) rfl), by decide, (RX9, TX9, 9), rfl, rfl⟩
theorem lk_X9_235 : pm_lnV RX9 235 yX2_fewestPresses 3 2 := ⟨⟨(pm_tb_t 678 (by decide +kernel) rfl), (pm_tb_t 7 (by decide +kernel) rfl), by decide +kernel, by decide +kernel, by decide +kernel⟩, (pm_tb_t 679 (by decide +kernel) rfl), (pm_tb_t 680 (by decide +kernel) rfl), by decide, (RX2, TX2, 9), rfl, rfl⟩
theorem lk_X2_56 : pm_lnV RX2 56 yX1_hasTab 1 1 := ⟨⟨(pm_tb_t 682 (by decide +kernel) rfl), (pm_tb_t 4 (by decide +kernel) rfl), by decide +kernel, by decide +kernel, by decide +kernel⟩, (pm_tb_t 495 (by decide +kernel) rfl), (pm_tb_t 496 (by decide +kernel) rfl), by decide, (RX1, TX1, 6), rfl, rfl⟩
theorem ct_X2_60 : Cond.constant RX2 60 (-1000000) ∈ pm_tb := (pm_tb_t 683 (by decide +kernel) rfl)
theorem lk_X2_64 : pm_lnV RX2 64 yX7_become 1 7 := ⟨⟨(pm_tb_t 684 (by decide +kernel) rfl), (pm_tb_t 5 (by decide +kernel) rfl), by decide +kernel, by decide +kernel, by decide +kernel⟩, (pm_tb_t 460 (by decide +kernel) rfl), (pm_tb_t 461 (by decide +kernel) rfl), by decide, (RX7, TX7, 5), rfl, rfl⟩
theorem lk_X2_68 : pm_lnV RX2 68 yX1_hasRoom 0 1 := ⟨⟨(pm_tb_t 685 (by decide +kernel) rfl), (pm_tb_t 4 (by decide +kernel) rfl), by decide +kernel, by decide +kernel, by decide +kernel⟩, (pm_tb_t 438 (by decide +kernel) rfl), (pm_tb_t 439 (by decide +kernel) rfl), by decide, (RX1, TX1, 6), rfl, rfl⟩
theorem lk_X2_72 : pm_lnV RX2 72 yX2_pressedTo 5 2 := ⟨⟨(pm_tb_t 686 (by decide +kernel) rfl), (pm_tb_t 7 (by decide +kernel) rfl), by decide +kernel, by decide +kernel, by decide +kernel⟩, (pm_tb_t 688 (by decide +kernel) rfl), (pm_tb_s 19 (by decide +kernel) rfl), by decide, (RX2, TX2, 9), rfl, rfl⟩
theorem lk_X2_76 : pm_lnV RX2 76 yX7_shownPage 0 7 := ⟨⟨(pm_tb_t 690 (by decide +kernel) rfl), (pm_tb_t 5 (by decide +kernel) rfl), by decide +kernel, by decide +kernel, by decide +kernel⟩, (pm_tb_t 499 (by decide +kernel) rfl), (pm_tb_t 500 (by decide +kernel) rfl), by decide, (RX7, TX7, 5), rfl, rfl⟩
theorem lk_X2_80 : pm_lnV RX2 80 yX7_press 3 7 := ⟨⟨(pm_tb_t 691 (by decide +kernel) rfl), (pm_tb_t 5 (by decide +kernel) rfl), by decide +kernel, by decide +kernel, by decide +kernel⟩, (pm_tb_t 692 (by decide +kernel) rfl), (pm_tb_t 693 (by decide +kernel) rfl), by decide, (RX7, TX7, 5), rfl, rfl⟩
theorem lk_X7_44 : pm_lnV RX7 44 yX7_stepBack 0 7 := ⟨⟨(pm_tb_t 695 (by decide +kernel) rfl), (pm_tb_t 5 (by decide +kernel) rfl), by decide +kernel, by decide +kernel, by decide +kernel⟩, (pm_tb_t 560 (by decide +kernel) rfl), (pm_tb_t 561 (by decide +kernel) rfl), by decide, (RX7, TX7, 5), rfl, rfl⟩
theorem lk_X7_48 : pm_lnV RX7 48 yX7_stepForward 0 7 := ⟨⟨(pm_tb_t 696 (by decide +kernel) rfl), (pm_tb_t 5 (by decide +kernel) rfl), by decide +kernel, by decide +kernel, by decide +kernel⟩, (pm_tb_t 572 (by decide +kernel) rfl), (pm_tb_t 573 (by decide +kernel) rfl), by decide, (RX7, TX7, 5), rfl, rfl⟩
theorem lk_X7_51 : pm_lnV RX7 51 yX7_shownPage 0 7 := ⟨⟨(pm_tb_t 697 (by decide +kernel) rfl), (pm_tb_t 5 (by decide +kernel) rfl), by decide +kernel, by decide +kernel, by decide +kernel⟩, (pm_tb_t 499 (by decide +kernel) rfl), (pm_tb_t 500 (by decide +kernel) rfl), by decide, (RX7, TX7, 5), rfl, rfl⟩
theorem lk_X7_55 : pm_lnV RX7 55 yX8_target 2 8 := ⟨⟨(pm_tb_t 698 (by decide +kernel) rfl), (pm_tb_t 3 (by decide +kernel) rfl), by decide +kernel, by decide +kernel, by decide +kernel⟩, (pm_tb_t 504 (by decide +kernel) rfl), (pm_tb_t 505 (by decide +kernel) rfl), by decide, (RX8, TX8, 3), rfl, rfl⟩
theorem lk_X7_61 : pm_lnV RX7 61 yX7_begin 2 7 := ⟨⟨(pm_tb_t 699 (by decide +kernel) rfl), (pm_tb_t 5 (by decide +kernel) rfl), by decide +kernel, by decide +kernel, by decide +kernel⟩, (pm_tb_t 442 (by decide +kernel) rfl), (pm_tb_t 443 (by decide +kernel) rfl), by decide, (RX7, TX7, 5), rfl, rfl⟩
theorem lk_X7_65 : pm_lnV RX7 65 yX7_moveOn 1 7 := ⟨⟨(pm_tb_t 700 (by decide +kernel) rfl), (pm_tb_t 5 (by decide +kernel) rfl), by decide +kernel, by decide +kernel, by decide +kernel⟩, (pm_tb_t 514 (by decide +kernel) rfl), (pm_tb_t 515 (by decide +kernel) rfl), by decide, (RX7, TX7, 5), rfl, rfl⟩
theorem lk_L_106 : pm_lnV RL 106 yX9_ways 2 9 := ⟨⟨(pm_tb_t 701 (by decide +kernel) rfl), (pm_tb_t 1 (by decide +kernel) rfl), by decide +kernel, by decide +kernel, by decide +kernel⟩, (pm_tb_t 702 (by decide +kernel) rfl), (pm_tb_t 703 (by decide +kernel) rfl), by decide, (RX9, TX9, 9), rfl, rfl⟩
theorem lk_X9_242 : pm_lnV RX9 242 yX2_countWays 3 2 := ⟨⟨(pm_tb_t 705 (by decide +kernel) rfl), (pm_tb_t 7 (by decide +kernel) rfl), by decide +kernel, by decide +kernel, by decide +kernel⟩, (pm_tb_t 706 (by decide +kernel) rfl), (pm_tb_t 707 (by decide +kernel) rfl), by decide, (RX2, TX2, 9), rfl, rfl⟩
theorem lk_X2_84 : pm_lnV RX2 84 yX2_beginAmounts 1 2 := ⟨⟨(pm_tb_t 709 (by decide +kernel) rfl), (pm_tb_t 7 (by decide +kernel) rfl), by decide +kernel, by decide +kernel, by decide +kernel⟩, (pm_tb_t 711 (by decide +kernel) rfl), (pm_tb_s 20 (by decide +kernel) rfl), by decide, (RX2, TX2, 9), rfl, rfl⟩
theorem lk_X2_88 : pm_lnV RX2 88 yX2_spreadAmounts 2 2 := ⟨⟨(pm_tb_t 713 (by decide +kernel) rfl), (pm_tb_t 7 (by decide +kernel) rfl), by decide +kernel, by decide +kernel, by decide +kernel⟩, (pm_tb_t 715 (by decide +kernel) rfl), (pm_tb_s 21 (by decide +kernel) rfl), by decide, (RX2, TX2, 9), rfl, rfl⟩
theorem lk_X2_95 : pm_lnV RX2 95 yX8_linksOf 1 8 := ⟨⟨(pm_tb_t 717 (by decide +kernel) rfl), (pm_tb_t 3 (by decide +kernel) rfl), by decide +kernel, by decide +kernel, by decide +kernel⟩, (pm_tb_t 508 (by decide +kernel) rfl), (pm_tb_t 509 (by decide +kernel) rfl), by decide, (RX8, TX8, 3), rfl, rfl⟩
theorem lk_X2_99 : pm_lnV RX2 99 yX8_target 2 8 := ⟨⟨(pm_tb_t 718 (by decide +kernel) rfl), (pm_tb_t 3 (by decide +kernel) rfl), by decide +kernel, by decide +kernel, by decide +kernel⟩, (pm_tb_t 504 (by decide +kernel) rfl), (pm_tb_t 505 (by decide +kernel) rfl), by decide, (RX8, TX8, 3), rfl, rfl⟩
theorem lk_X2_103 : pm_lnV RX2 103 yX8_hasPage 1 8 := ⟨⟨(pm_tb_t 719 (by decide +kernel) rfl), (pm_tb_t 3 (by decide +kernel) rfl), by decide +kernel, by decide +kernel, by decide +kernel⟩, (pm_tb_t 422 (by decide +kernel) rfl), (pm_tb_t 423 (by decide +kernel) rfl), by decide, (RX8, TX8, 3), rfl, rfl⟩
theorem ml_X2_106 : Cond.methodLink RX2 106 arraycopyName ∈ pm_tb := (pm_tb_t 720 (by decide +kernel) rfl)
theorem lk_L_110 : pm_lnV RL 110 yX9_share 2 9 := ⟨⟨(pm_tb_t 721 (by decide +kernel) rfl), (pm_tb_t 1 (by decide +kernel) rfl), by decide +kernel, by decide +kernel, by decide +kernel⟩, (pm_tb_t 722 (by decide +kernel) rfl), (pm_tb_t 723 (by decide +kernel) rfl), by decide, (RX9, TX9, 9), rfl, rfl⟩
theorem lk_X9_249 : pm_lnV RX9 249 yX1_shareOf 2 1 := ⟨⟨(pm_tb_t 725 (by decide +kernel) rfl), (pm_tb_t 4 (by decide +kernel) rfl), by decide +kernel, by decide +kernel, by decide +kernel⟩, (pm_tb_t 726 (by decide +kernel) rfl), (pm_tb_t 727 (by decide +kernel) rfl), by decide, (RX1, TX1, 6), rfl, rfl⟩
theorem lk_X1_100 : pm_lnV RX1 100 yX1_allVisits 0 1 := ⟨⟨(pm_tb_t 729 (by decide +kernel) rfl), (pm_tb_t 4 (by decide +kernel) rfl), by decide +kernel, by decide +kernel, by decide +kernel⟩, (pm_tb_t 730 (by decide +kernel) rfl), (pm_tb_t 731 (by decide +kernel) rfl), by decide, (RX1, TX1, 6), rfl, rfl⟩
theorem lk_L_114 : pm_lnV RL 114 yX9_fits 5 9 := ⟨⟨(pm_tb_t 733 (by decide +kernel) rfl), (pm_tb_t 1 (by decide +kernel) rfl), by decide +kernel, by decide +kernel, by decide +kernel⟩, (pm_tb_t 734 (by decide +kernel) rfl), (pm_tb_t 735 (by decide +kernel) rfl), by decide, (RX9, TX9, 9), rfl, rfl⟩
theorem lk_X9_252 : pm_lnV RX9 252 yX2_hear 3 2 := ⟨⟨(pm_tb_t 737 (by decide +kernel) rfl), (pm_tb_t 7 (by decide +kernel) rfl), by decide +kernel, by decide +kernel, by decide +kernel⟩, (pm_tb_t 738 (by decide +kernel) rfl), (pm_tb_t 739 (by decide +kernel) rfl), by decide, (RX2, TX2, 9), rfl, rfl⟩
theorem lk_X2_112 : pm_lnV RX2 112 yX6_hasPlaces 2 6 := ⟨⟨(pm_tb_t 741 (by decide +kernel) rfl), (pm_tb_t 9 (by decide +kernel) rfl), by decide +kernel, by decide +kernel, by decide +kernel⟩, (pm_tb_t 339 (by decide +kernel) rfl), (pm_tb_t 340 (by decide +kernel) rfl), by decide, (RX6, TX6, 4), rfl, rfl⟩
theorem ml_X2_118 : Cond.methodLink RX2 118 Lib.Math.min.name ∈ pm_tb := (pm_tb_t 742 (by decide +kernel) rfl)
theorem lk_X9_256 : pm_lnV RX9 256 yX2_fittingKinds 2 2 := ⟨⟨(pm_tb_t 743 (by decide +kernel) rfl), (pm_tb_t 7 (by decide +kernel) rfl), by decide +kernel, by decide +kernel, by decide +kernel⟩, (pm_tb_t 744 (by decide +kernel) rfl), (pm_tb_t 745 (by decide +kernel) rfl), by decide, (RX2, TX2, 9), rfl, rfl⟩
theorem lk_X2_126 : pm_lnV RX2 126 yX2_guessNow 1 2 := ⟨⟨(pm_tb_t 747 (by decide +kernel) rfl), (pm_tb_t 7 (by decide +kernel) rfl), by decide +kernel, by decide +kernel, by decide +kernel⟩, (pm_tb_t 749 (by decide +kernel) rfl), (pm_tb_s 22 (by decide +kernel) rfl), by decide, (RX2, TX2, 9), rfl, rfl⟩
theorem lk_X2_133 : pm_lnV RX2 133 yX2_bitIfFits 3 2 := ⟨⟨(pm_tb_t 751 (by decide +kernel) rfl), (pm_tb_t 7 (by decide +kernel) rfl), by decide +kernel, by decide +kernel, by decide +kernel⟩, (pm_tb_t 753 (by decide +kernel) rfl), (pm_tb_s 23 (by decide +kernel) rfl), by decide, (RX2, TX2, 9), rfl, rfl⟩
theorem lk_X9_260 : pm_lnV RX9 260 yX2_fittingStarts 2 2 := ⟨⟨(pm_tb_t 755 (by decide +kernel) rfl), (pm_tb_t 7 (by decide +kernel) rfl), by decide +kernel, by decide +kernel, by decide +kernel⟩, (pm_tb_t 756 (by decide +kernel) rfl), (pm_tb_t 757 (by decide +kernel) rfl), by decide, (RX2, TX2, 9), rfl, rfl⟩
theorem lk_X2_137 : pm_lnV RX2 137 yX7_showInstead 1 7 := ⟨⟨(pm_tb_t 759 (by decide +kernel) rfl), (pm_tb_t 5 (by decide +kernel) rfl), by decide +kernel, by decide +kernel, by decide +kernel⟩, (pm_tb_t 760 (by decide +kernel) rfl), (pm_tb_t 761 (by decide +kernel) rfl), by decide, (RX7, TX7, 5), rfl, rfl⟩
theorem lk_X9_263 : pm_lnV RX9 263 yX2_fittingLeads 3 2 := ⟨⟨(pm_tb_t 763 (by decide +kernel) rfl), (pm_tb_t 7 (by decide +kernel) rfl), by decide +kernel, by decide +kernel, by decide +kernel⟩, (pm_tb_t 764 (by decide +kernel) rfl), (pm_tb_t 765 (by decide +kernel) rfl), by decide, (RX2, TX2, 9), rfl, rfl⟩
theorem lk_X2_140 : pm_lnV RX2 140 yX8_become 1 8 := ⟨⟨(pm_tb_t 767 (by decide +kernel) rfl), (pm_tb_t 3 (by decide +kernel) rfl), by decide +kernel, by decide +kernel, by decide +kernel⟩, (pm_tb_t 451 (by decide +kernel) rfl), (pm_tb_t 452 (by decide +kernel) rfl), by decide, (RX8, TX8, 3), rfl, rfl⟩
theorem lk_X2_143 : pm_lnV RX2 143 yX8_turnFirstLink 2 8 := ⟨⟨(pm_tb_t 768 (by decide +kernel) rfl), (pm_tb_t 3 (by decide +kernel) rfl), by decide +kernel, by decide +kernel, by decide +kernel⟩, (pm_tb_t 769 (by decide +kernel) rfl), (pm_tb_t 770 (by decide +kernel) rfl), by decide, (RX8, TX8, 3), rfl, rfl⟩
theorem lk_X9_266 : pm_lnV RX9 266 yX2_fittingHomes 2 2 := ⟨⟨(pm_tb_t 772 (by decide +kernel) rfl), (pm_tb_t 7 (by decide +kernel) rfl), by decide +kernel, by decide +kernel, by decide +kernel⟩, (pm_tb_t 773 (by decide +kernel) rfl), (pm_tb_t 774 (by decide +kernel) rfl), by decide, (RX2, TX2, 9), rfl, rfl⟩
theorem lk_L_118 : pm_lnV RL 118 yX9_chance 3 9 := ⟨⟨(pm_tb_t 776 (by decide +kernel) rfl), (pm_tb_t 1 (by decide +kernel) rfl), by decide +kernel, by decide +kernel, by decide +kernel⟩, (pm_tb_t 777 (by decide +kernel) rfl), (pm_tb_t 778 (by decide +kernel) rfl), by decide, (RX9, TX9, 9), rfl, rfl⟩
theorem lk_X9_269 : pm_lnV RX9 269 yX2_weighWays 3 2 := ⟨⟨(pm_tb_t 780 (by decide +kernel) rfl), (pm_tb_t 7 (by decide +kernel) rfl), by decide +kernel, by decide +kernel, by decide +kernel⟩, (pm_tb_t 781 (by decide +kernel) rfl), (pm_tb_t 782 (by decide +kernel) rfl), by decide, (RX2, TX2, 9), rfl, rfl⟩
theorem lk_X9_273 : pm_lnS RX9 273 yX9_commonDivisor 2 := ⟨⟨(pm_tb_t 784 (by decide +kernel) rfl), (pm_tb_t 1 (by decide +kernel) rfl), by decide +kernel, by decide +kernel, by decide +kernel⟩, (pm_tb_t 785 (by decide +kernel) rfl)⟩
theorem lk_L_122 : pm_lnV RL 122 yX9_drawn 3 9 := ⟨⟨(pm_tb_t 787 (by decide +kernel) rfl), (pm_tb_t 1 (by decide +kernel) rfl), by decide +kernel, by decide +kernel, by decide +kernel⟩, (pm_tb_t 788 (by decide +kernel) rfl), (pm_tb_t 789 (by decide +kernel) rfl), by decide, (RX9, TX9, 9), rfl, rfl⟩
theorem ct_X9_276 : Cond.constant RX9 276 (999999) ∈ pm_tb := (pm_tb_t 791 (by decide +kernel) rfl)
theorem lk_X9_277 : pm_lnV RX9 277 yX2_spendEvening 4 2 := ⟨⟨(pm_tb_t 792 (by decide +kernel) rfl), (pm_tb_t 7 (by decide +kernel) rfl), by decide +kernel, by decide +kernel, by decide +kernel⟩, (pm_tb_t 793 (by decide +kernel) rfl), (pm_tb_t 794 (by decide +kernel) rfl), by decide, (RX2, TX2, 9), rfl, rfl⟩
theorem lk_X2_150 : pm_lnV RX2 150 yX1_become 1 1 := ⟨⟨(pm_tb_t 796 (by decide +kernel) rfl), (pm_tb_t 4 (by decide +kernel) rfl), by decide +kernel, by decide +kernel, by decide +kernel⟩, (pm_tb_t 456 (by decide +kernel) rfl), (pm_tb_t 457 (by decide +kernel) rfl), by decide, (RX1, TX1, 6), rfl, rfl⟩
theorem ct_X2_152 : Cond.constantLong RX2 152 (16807) ∈ pm_tb := (pm_tb_t 797 (by decide +kernel) rfl)
theorem ct_X2_154 : Cond.constantLong RX2 154 (2147483647) ∈ pm_tb := (pm_tb_t 798 (by decide +kernel) rfl)
theorem lk_X2_156 : pm_lnV RX2 156 yX2_drawnAct 2 2 := ⟨⟨(pm_tb_t 799 (by decide +kernel) rfl), (pm_tb_t 7 (by decide +kernel) rfl), by decide +kernel, by decide +kernel, by decide +kernel⟩, (pm_tb_t 801 (by decide +kernel) rfl), (pm_tb_s 24 (by decide +kernel) rfl), by decide, (RX2, TX2, 9), rfl, rfl⟩
theorem lk_X2_163 : pm_lnV RX2 163 yX1_stepBack 0 1 := ⟨⟨(pm_tb_t 803 (by decide +kernel) rfl), (pm_tb_t 4 (by decide +kernel) rfl), by decide +kernel, by decide +kernel, by decide +kernel⟩, (pm_tb_t 556 (by decide +kernel) rfl), (pm_tb_t 557 (by decide +kernel) rfl), by decide, (RX1, TX1, 6), rfl, rfl⟩
theorem lk_X2_166 : pm_lnV RX2 166 yX1_selectTab 1 1 := ⟨⟨(pm_tb_t 804 (by decide +kernel) rfl), (pm_tb_t 4 (by decide +kernel) rfl), by decide +kernel, by decide +kernel, by decide +kernel⟩, (pm_tb_t 581 (by decide +kernel) rfl), (pm_tb_t 582 (by decide +kernel) rfl), by decide, (RX1, TX1, 6), rfl, rfl⟩
theorem lk_X2_169 : pm_lnV RX2 169 yX1_openPage 1 1 := ⟨⟨(pm_tb_t 805 (by decide +kernel) rfl), (pm_tb_t 4 (by decide +kernel) rfl), by decide +kernel, by decide +kernel, by decide +kernel⟩, (pm_tb_t 590 (by decide +kernel) rfl), (pm_tb_t 591 (by decide +kernel) rfl), by decide, (RX1, TX1, 6), rfl, rfl⟩
theorem lk_X2_172 : pm_lnV RX2 172 yX1_closeNow 0 1 := ⟨⟨(pm_tb_t 806 (by decide +kernel) rfl), (pm_tb_t 4 (by decide +kernel) rfl), by decide +kernel, by decide +kernel, by decide +kernel⟩, (pm_tb_t 598 (by decide +kernel) rfl), (pm_tb_t 599 (by decide +kernel) rfl), by decide, (RX1, TX1, 6), rfl, rfl⟩
theorem lk_X2_175 : pm_lnV RX2 175 yX1_followLink 2 1 := ⟨⟨(pm_tb_t 807 (by decide +kernel) rfl), (pm_tb_t 4 (by decide +kernel) rfl), by decide +kernel, by decide +kernel, by decide +kernel⟩, (pm_tb_t 491 (by decide +kernel) rfl), (pm_tb_t 492 (by decide +kernel) rfl), by decide, (RX1, TX1, 6), rfl, rfl⟩
theorem lk_L_126 : pm_lnV RL 126 yX9_image 1 9 := ⟨⟨(pm_tb_t 808 (by decide +kernel) rfl), (pm_tb_t 1 (by decide +kernel) rfl), by decide +kernel, by decide +kernel, by decide +kernel⟩, (pm_tb_t 809 (by decide +kernel) rfl), (pm_tb_t 810 (by decide +kernel) rfl), by decide, (RX9, TX9, 9), rfl, rfl⟩
theorem lk_X9_284 : pm_lnV RX9 284 yX4_keep 2 4 := ⟨⟨(pm_tb_t 812 (by decide +kernel) rfl), (pm_tb_t 10 (by decide +kernel) rfl), by decide +kernel, by decide +kernel, by decide +kernel⟩, (pm_tb_t 813 (by decide +kernel) rfl), (pm_tb_t 814 (by decide +kernel) rfl), by decide, (RX4, TX4, 3), rfl, rfl⟩
theorem lk_X4_27 : pm_lnV RX4 27 yX8_become 1 8 := ⟨⟨(pm_tb_t 816 (by decide +kernel) rfl), (pm_tb_t 3 (by decide +kernel) rfl), by decide +kernel, by decide +kernel, by decide +kernel⟩, (pm_tb_t 451 (by decide +kernel) rfl), (pm_tb_t 452 (by decide +kernel) rfl), by decide, (RX8, TX8, 3), rfl, rfl⟩
theorem lk_X4_31 : pm_lnV RX4 31 yX1_become 1 1 := ⟨⟨(pm_tb_t 817 (by decide +kernel) rfl), (pm_tb_t 4 (by decide +kernel) rfl), by decide +kernel, by decide +kernel, by decide +kernel⟩, (pm_tb_t 456 (by decide +kernel) rfl), (pm_tb_t 457 (by decide +kernel) rfl), by decide, (RX1, TX1, 6), rfl, rfl⟩
theorem lk_L_130 : pm_lnV RL 130 yX9_restore 1 9 := ⟨⟨(pm_tb_t 818 (by decide +kernel) rfl), (pm_tb_t 1 (by decide +kernel) rfl), by decide +kernel, by decide +kernel, by decide +kernel⟩, (pm_tb_t 819 (by decide +kernel) rfl), (pm_tb_t 820 (by decide +kernel) rfl), by decide, (RX9, TX9, 9), rfl, rfl⟩
theorem lk_L_134 : pm_lnV RL 134 yX9_kind 1 9 := ⟨⟨(pm_tb_t 822 (by decide +kernel) rfl), (pm_tb_t 1 (by decide +kernel) rfl), by decide +kernel, by decide +kernel, by decide +kernel⟩, (pm_tb_t 823 (by decide +kernel) rfl), (pm_tb_t 824 (by decide +kernel) rfl), by decide, (RX9, TX9, 9), rfl, rfl⟩
theorem lk_L_138 : pm_lnV RL 138 yX9_as 2 9 := ⟨⟨(pm_tb_t 826 (by decide +kernel) rfl), (pm_tb_t 1 (by decide +kernel) rfl), by decide +kernel, by decide +kernel, by decide +kernel⟩, (pm_tb_t 827 (by decide +kernel) rfl), (pm_tb_t 828 (by decide +kernel) rfl), by decide, (RX9, TX9, 9), rfl, rfl⟩
theorem lk_X9_296 : pm_lnV RX9 296 yX7_isOf 1 7 := ⟨⟨(pm_tb_t 830 (by decide +kernel) rfl), (pm_tb_t 5 (by decide +kernel) rfl), by decide +kernel, by decide +kernel, by decide +kernel⟩, (pm_tb_t 602 (by decide +kernel) rfl), (pm_tb_t 603 (by decide +kernel) rfl), by decide, (RX7, TX7, 5), rfl, rfl⟩
theorem lk_L_142 : pm_lnV RL 142 yX9_ask 2 9 := ⟨⟨(pm_tb_t 831 (by decide +kernel) rfl), (pm_tb_t 1 (by decide +kernel) rfl), by decide +kernel, by decide +kernel, by decide +kernel⟩, (pm_tb_t 832 (by decide +kernel) rfl), (pm_tb_t 833 (by decide +kernel) rfl), by decide, (RX9, TX9, 9), rfl, rfl⟩
theorem lk_X9_299 : pm_lnV RX9 299 yX0_answer 3 0 := ⟨⟨(pm_tb_t 835 (by decide +kernel) rfl), (pm_tb_t 8 (by decide +kernel) rfl), by decide +kernel, by decide +kernel, by decide +kernel⟩, (pm_tb_t 836 (by decide +kernel) rfl), (pm_tb_t 837 (by decide +kernel) rfl), by decide, (RX0, TX0, 3), rfl, rfl⟩
theorem lk_X0_20 : pm_lnS RX0 20 yX0_sizeBody 1 := ⟨⟨(pm_tb_t 839 (by decide +kernel) rfl), (pm_tb_t 8 (by decide +kernel) rfl), by decide +kernel, by decide +kernel, by decide +kernel⟩, (pm_tb_t 840 (by decide +kernel) rfl)⟩
theorem fs_X0_47 : Cond.fieldLink RX0 47 "TabTrails$Asking" "SIZE_BODIES" "[I" ∈ pm_tb := (pm_tb_t 842 (by decide +kernel) rfl)
theorem lk_X0_24 : pm_lnS RX0 24 yX0_markBody 1 := ⟨⟨(pm_tb_t 844 (by decide +kernel) rfl), (pm_tb_t 8 (by decide +kernel) rfl), by decide +kernel, by decide +kernel, by decide +kernel⟩, (pm_tb_t 845 (by decide +kernel) rfl)⟩
theorem fs_X0_50 : Cond.fieldLink RX0 50 "TabTrails$Asking" "MARK_BODIES" "[I" ∈ pm_tb := (pm_tb_t 847 (by decide +kernel) rfl)
theorem lk_X0_27 : pm_lnV RX0 27 yX0_body 3 0 := ⟨⟨(pm_tb_t 849 (by decide +kernel) rfl), (pm_tb_t 8 (by decide +kernel) rfl), by decide +kernel, by decide +kernel, by decide +kernel⟩, (pm_tb_t 851 (by decide +kernel) rfl), (pm_tb_s 25 (by decide +kernel) rfl), by decide, (RX0, TX0, 3), rfl, rfl⟩
theorem lk_X0_31 : pm_lnV RX0 31 yX0_leave 1 0 := ⟨⟨(pm_tb_t 853 (by decide +kernel) rfl), (pm_tb_t 8 (by decide +kernel) rfl), by decide +kernel, by decide +kernel, by decide +kernel⟩, (pm_tb_t 855 (by decide +kernel) rfl), (pm_tb_s 26 (by decide +kernel) rfl), by decide, (RX0, TX0, 3), rfl, rfl⟩
theorem lk_X0_40 : pm_lnV RX0 40 yX7_shownPage 0 7 := ⟨⟨(pm_tb_t 857 (by decide +kernel) rfl), (pm_tb_t 5 (by decide +kernel) rfl), by decide +kernel, by decide +kernel, by decide +kernel⟩, (pm_tb_t 499 (by decide +kernel) rfl), (pm_tb_t 500 (by decide +kernel) rfl), by decide, (RX7, TX7, 5), rfl, rfl⟩
theorem lk_L_146 : pm_lnV RL 146 yX9_trace 1 9 := ⟨⟨(pm_tb_t 858 (by decide +kernel) rfl), (pm_tb_t 1 (by decide +kernel) rfl), by decide +kernel, by decide +kernel, by decide +kernel⟩, (pm_tb_t 859 (by decide +kernel) rfl), (pm_tb_t 860 (by decide +kernel) rfl), by decide, (RX9, TX9, 9), rfl, rfl⟩
theorem lk_L_150 : pm_lnV RL 150 yX9_count 1 9 := ⟨⟨(pm_tb_t 862 (by decide +kernel) rfl), (pm_tb_t 1 (by decide +kernel) rfl), by decide +kernel, by decide +kernel, by decide +kernel⟩, (pm_tb_t 863 (by decide +kernel) rfl), (pm_tb_t 864 (by decide +kernel) rfl), by decide, (RX9, TX9, 9), rfl, rfl⟩
theorem lk_X9_309 : pm_lnV RX9 309 yX9_rowsThere 0 9 := ⟨⟨(pm_tb_t 866 (by decide +kernel) rfl), (pm_tb_t 1 (by decide +kernel) rfl), by decide +kernel, by decide +kernel, by decide +kernel⟩, (pm_tb_t 868 (by decide +kernel) rfl), (pm_tb_s 27 (by decide +kernel) rfl), by decide, (RX9, TX9, 9), rfl, rfl⟩
theorem lk_X9_316 : pm_lnV RX9 316 yX1_allVisits 0 1 := ⟨⟨(pm_tb_t 870 (by decide +kernel) rfl), (pm_tb_t 4 (by decide +kernel) rfl), by decide +kernel, by decide +kernel, by decide +kernel⟩, (pm_tb_t 730 (by decide +kernel) rfl), (pm_tb_t 731 (by decide +kernel) rfl), by decide, (RX1, TX1, 6), rfl, rfl⟩
theorem lk_L_154 : pm_lnV RL 154 yX9_status 0 9 := ⟨⟨(pm_tb_t 871 (by decide +kernel) rfl), (pm_tb_t 1 (by decide +kernel) rfl), by decide +kernel, by decide +kernel, by decide +kernel⟩, (pm_tb_t 872 (by decide +kernel) rfl), (pm_tb_t 873 (by decide +kernel) rfl), by decide, (RX9, TX9, 9), rfl, rfl⟩
theorem lk_L_12 : pm_lnI RL 12 yX10_init 0 := ⟨⟨(pm_tb_t 877 (by decide +kernel) rfl), (pm_tb_t 11 (by decide +kernel) rfl), by decide +kernel, by decide +kernel, by decide +kernel⟩, (pm_tb_t 878 (by decide +kernel) rfl), rfl⟩
theorem ml_X10_1 : Cond.methodLink RX10 1 objectInit ∈ pm_tb := (pm_tb_t 880 (by decide +kernel) rfl)
theorem ct_X10_56 : Cond.constant RX10 56 (-1000000) ∈ pm_tb := (pm_tb_t 881 (by decide +kernel) rfl)
theorem fl_X10_7 : pm_fl RX10 7 10 0 := ⟨(RX10, TX10, 25), rfl, by decide, by decide, rfl, (pm_tb_t 882 (by decide +kernel) rfl), fw_10, rfl⟩
theorem fl_X10_13 : pm_fl RX10 13 10 1 := ⟨(RX10, TX10, 25), rfl, by decide, by decide, rfl, (pm_tb_t 883 (by decide +kernel) rfl), fw_10, rfl⟩
theorem fl_X10_16 : pm_fl RX10 16 10 2 := ⟨(RX10, TX10, 25), rfl, by decide, by decide, rfl, (pm_tb_t 884 (by decide +kernel) rfl), fw_10, rfl⟩
theorem fl_X10_19 : pm_fl RX10 19 10 3 := ⟨(RX10, TX10, 25), rfl, by decide, by decide, rfl, (pm_tb_t 885 (by decide +kernel) rfl), fw_10, rfl⟩
theorem fl_X10_57 : pm_fl RX10 57 10 4 := ⟨(RX10, TX10, 25), rfl, by decide, by decide, rfl, (pm_tb_t 886 (by decide +kernel) rfl), fw_10, rfl⟩
theorem fl_X10_22 : pm_fl RX10 22 10 5 := ⟨(RX10, TX10, 25), rfl, by decide, by decide, rfl, (pm_tb_t 887 (by decide +kernel) rfl), fw_10, rfl⟩
theorem fl_X10_88 : pm_fl RX10 88 10 6 := ⟨(RX10, TX10, 25), rfl, by decide, by decide, rfl, (pm_tb_t 888 (by decide +kernel) rfl), fw_10, rfl⟩
theorem fl_X10_114 : pm_fl RX10 114 10 7 := ⟨(RX10, TX10, 25), rfl, by decide, by decide, rfl, (pm_tb_t 889 (by decide +kernel) rfl), fw_10, rfl⟩
theorem fl_X10_107 : pm_fl RX10 107 10 8 := ⟨(RX10, TX10, 25), rfl, by decide, by decide, rfl, (pm_tb_t 890 (by decide +kernel) rfl), fw_10, rfl⟩
theorem fl_X10_92 : pm_fl RX10 92 10 9 := ⟨(RX10, TX10, 25), rfl, by decide, by decide, rfl, (pm_tb_t 891 (by decide +kernel) rfl), fw_10, rfl⟩
theorem fl_X10_95 : pm_fl RX10 95 10 10 := ⟨(RX10, TX10, 25), rfl, by decide, by decide, rfl, (pm_tb_t 892 (by decide +kernel) rfl), fw_10, rfl⟩
theorem fl_X10_104 : pm_fl RX10 104 10 11 := ⟨(RX10, TX10, 25), rfl, by decide, by decide, rfl, (pm_tb_t 893 (by decide +kernel) rfl), fw_10, rfl⟩
theorem fl_X10_101 : pm_fl RX10 101 10 12 := ⟨(RX10, TX10, 25), rfl, by decide, by decide, rfl, (pm_tb_t 894 (by decide +kernel) rfl), fw_10, rfl⟩
theorem fl_X10_25 : pm_fl RX10 25 10 13 := ⟨(RX10, TX10, 25), rfl, by decide, by decide, rfl, (pm_tb_t 895 (by decide +kernel) rfl), fw_10, rfl⟩
theorem fl_X10_28 : pm_fl RX10 28 10 14 := ⟨(RX10, TX10, 25), rfl, by decide, by decide, rfl, (pm_tb_t 896 (by decide +kernel) rfl), fw_10, rfl⟩
theorem fl_X10_31 : pm_fl RX10 31 10 15 := ⟨(RX10, TX10, 25), rfl, by decide, by decide, rfl, (pm_tb_t 897 (by decide +kernel) rfl), fw_10, rfl⟩
theorem fl_X10_34 : pm_fl RX10 34 10 16 := ⟨(RX10, TX10, 25), rfl, by decide, by decide, rfl, (pm_tb_t 898 (by decide +kernel) rfl), fw_10, rfl⟩
theorem fl_X10_150 : pm_fl RX10 150 10 17 := ⟨(RX10, TX10, 25), rfl, by decide, by decide, rfl, (pm_tb_t 899 (by decide +kernel) rfl), fw_10, rfl⟩
theorem fl_X10_37 : pm_fl RX10 37 10 18 := ⟨(RX10, TX10, 25), rfl, by decide, by decide, rfl, (pm_tb_t 900 (by decide +kernel) rfl), fw_10, rfl⟩
theorem fl_X10_40 : pm_fl RX10 40 10 19 := ⟨(RX10, TX10, 25), rfl, by decide, by decide, rfl, (pm_tb_t 901 (by decide +kernel) rfl), fw_10, rfl⟩
theorem fl_X10_44 : pm_fl RX10 44 10 20 := ⟨(RX10, TX10, 25), rfl, by decide, by decide, rfl, (pm_tb_t 902 (by decide +kernel) rfl), fw_10, rfl⟩
theorem fl_X10_47 : pm_fl RX10 47 10 21 := ⟨(RX10, TX10, 25), rfl, by decide, by decide, rfl, (pm_tb_t 903 (by decide +kernel) rfl), fw_10, rfl⟩
theorem fl_X10_50 : pm_fl RX10 50 10 22 := ⟨(RX10, TX10, 25), rfl, by decide, by decide, rfl, (pm_tb_t 904 (by decide +kernel) rfl), fw_10, rfl⟩
theorem fl_X10_53 : pm_fl RX10 53 10 23 := ⟨(RX10, TX10, 25), rfl, by decide, by decide, rfl, (pm_tb_t 905 (by decide +kernel) rfl), fw_10, rfl⟩
theorem fl_X10_245 : pm_fl RX10 245 10 24 := ⟨(RX10, TX10, 25), rfl, by decide, by decide, rfl, (pm_tb_t 906 (by decide +kernel) rfl), fw_10, rfl⟩
theorem lk_L_17 : pm_lnV RL 17 yX10_row 3 10 := ⟨⟨(pm_tb_t 959 (by decide +kernel) rfl), (pm_tb_t 11 (by decide +kernel) rfl), by decide +kernel, by decide +kernel, by decide +kernel⟩, (pm_tb_t 960 (by decide +kernel) rfl), (pm_tb_t 961 (by decide +kernel) rfl), by decide, (RX10, TX10, 25), rfl, rfl⟩
theorem lk_X10_66 : pm_lnS RX10 66 yX10_isRow 1 := ⟨⟨(pm_tb_t 963 (by decide +kernel) rfl), (pm_tb_t 11 (by decide +kernel) rfl), by decide +kernel, by decide +kernel, by decide +kernel⟩, (pm_tb_t 964 (by decide +kernel) rfl)⟩
theorem lk_X10_62 : pm_lnS RX10 62 yX10_in 3 := ⟨⟨(pm_tb_t 966 (by decide +kernel) rfl), (pm_tb_t 11 (by decide +kernel) rfl), by decide +kernel, by decide +kernel, by decide +kernel⟩, (pm_tb_t 967 (by decide +kernel) rfl)⟩
theorem ct_X10_70 : Cond.constant RX10 70 (-1000001) ∈ pm_tb := (pm_tb_t 969 (by decide +kernel) rfl)
theorem lk_X10_71 : pm_lnV RX10 71 yX10_found 1 10 := ⟨⟨(pm_tb_t 970 (by decide +kernel) rfl), (pm_tb_t 11 (by decide +kernel) rfl), by decide +kernel, by decide +kernel, by decide +kernel⟩, (pm_tb_t 972 (by decide +kernel) rfl), (pm_tb_s 28 (by decide +kernel) rfl), by decide, (RX10, TX10, 25), rfl, rfl⟩
theorem ct_X10_61 : Cond.constant RX10 61 (-1000010) ∈ pm_tb := (pm_tb_t 974 (by decide +kernel) rfl)
theorem lk_X10_75 : pm_lnV RX10 75 yX10_well 1 10 := ⟨⟨(pm_tb_t 975 (by decide +kernel) rfl), (pm_tb_t 11 (by decide +kernel) rfl), by decide +kernel, by decide +kernel, by decide +kernel⟩, (pm_tb_t 977 (by decide +kernel) rfl), (pm_tb_s 29 (by decide +kernel) rfl), by decide, (RX10, TX10, 25), rfl, rfl⟩
theorem lk_L_21 : pm_lnV RL 21 yX10_set 3 10 := ⟨⟨(pm_tb_t 979 (by decide +kernel) rfl), (pm_tb_t 11 (by decide +kernel) rfl), by decide +kernel, by decide +kernel, by decide +kernel⟩, (pm_tb_t 980 (by decide +kernel) rfl), (pm_tb_t 981 (by decide +kernel) rfl), by decide, (RX10, TX10, 25), rfl, rfl⟩
theorem lk_X10_78 : pm_lnV RX10 78 yX10_isMissing 1 10 := ⟨⟨(pm_tb_t 983 (by decide +kernel) rfl), (pm_tb_t 11 (by decide +kernel) rfl), by decide +kernel, by decide +kernel, by decide +kernel⟩, (pm_tb_t 985 (by decide +kernel) rfl), (pm_tb_s 30 (by decide +kernel) rfl), by decide, (RX10, TX10, 25), rfl, rfl⟩
theorem lk_X10_81 : pm_lnS RX10 81 yX10_cut 2 := ⟨⟨(pm_tb_t 987 (by decide +kernel) rfl), (pm_tb_t 11 (by decide +kernel) rfl), by decide +kernel, by decide +kernel, by decide +kernel⟩, (pm_tb_t 988 (by decide +kernel) rfl)⟩
theorem lk_L_26 : pm_lnV RL 26 yX10_copy 5 10 := ⟨⟨(pm_tb_t 990 (by decide +kernel) rfl), (pm_tb_t 11 (by decide +kernel) rfl), by decide +kernel, by decide +kernel, by decide +kernel⟩, (pm_tb_t 991 (by decide +kernel) rfl), (pm_tb_t 992 (by decide +kernel) rfl), by decide, (RX10, TX10, 25), rfl, rfl⟩
theorem lk_X10_85 : pm_lnV RX10 85 yX10_isPart 3 10 := ⟨⟨(pm_tb_t 994 (by decide +kernel) rfl), (pm_tb_t 11 (by decide +kernel) rfl), by decide +kernel, by decide +kernel, by decide +kernel⟩, (pm_tb_t 996 (by decide +kernel) rfl), (pm_tb_s 31 (by decide +kernel) rfl), by decide, (RX10, TX10, 25), rfl, rfl⟩
theorem lk_L_31 : pm_lnV RL 31 yX10_drop 1 10 := ⟨⟨(pm_tb_t 998 (by decide +kernel) rfl), (pm_tb_t 11 (by decide +kernel) rfl), by decide +kernel, by decide +kernel, by decide +kernel⟩, (pm_tb_t 999 (by decide +kernel) rfl), (pm_tb_t 1000 (by decide +kernel) rfl), by decide, (RX10, TX10, 25), rfl, rfl⟩
theorem lk_L_35 : pm_lnV RL 35 yX10_feed 1 10 := ⟨⟨(pm_tb_t 1002 (by decide +kernel) rfl), (pm_tb_t 11 (by decide +kernel) rfl), by decide +kernel, by decide +kernel, by decide +kernel⟩, (pm_tb_t 1003 (by decide +kernel) rfl), (pm_tb_t 1004 (by decide +kernel) rfl), by decide, (RX10, TX10, 25), rfl, rfl⟩
theorem ct_X10_91 : Cond.constant RX10 91 (-1000003) ∈ pm_tb := (pm_tb_t 1006 (by decide +kernel) rfl)
theorem lk_L_40 : pm_lnV RL 40 yX10_web 0 10 := ⟨⟨(pm_tb_t 1007 (by decide +kernel) rfl), (pm_tb_t 11 (by decide +kernel) rfl), by decide +kernel, by decide +kernel, by decide +kernel⟩, (pm_tb_t 1008 (by decide +kernel) rfl), (pm_tb_t 1009 (by decide +kernel) rfl), by decide, (RX10, TX10, 25), rfl, rfl⟩
theorem lk_X10_117 : pm_lnV RX10 117 yX10_advances 0 10 := ⟨⟨(pm_tb_t 1011 (by decide +kernel) rfl), (pm_tb_t 11 (by decide +kernel) rfl), by decide +kernel, by decide +kernel, by decide +kernel⟩, (pm_tb_t 1013 (by decide +kernel) rfl), (pm_tb_s 32 (by decide +kernel) rfl), by decide, (RX10, TX10, 25), rfl, rfl⟩
theorem lk_X10_98 : pm_lnV RX10 98 yX10_byteAt 1 10 := ⟨⟨(pm_tb_t 1015 (by decide +kernel) rfl), (pm_tb_t 11 (by decide +kernel) rfl), by decide +kernel, by decide +kernel, by decide +kernel⟩, (pm_tb_t 1017 (by decide +kernel) rfl), (pm_tb_s 33 (by decide +kernel) rfl), by decide, (RX10, TX10, 25), rfl, rfl⟩
theorem lk_X10_120 : pm_lnV RX10 120 yX10_takes 2 10 := ⟨⟨(pm_tb_t 1019 (by decide +kernel) rfl), (pm_tb_t 11 (by decide +kernel) rfl), by decide +kernel, by decide +kernel, by decide +kernel⟩, (pm_tb_t 1021 (by decide +kernel) rfl), (pm_tb_s 34 (by decide +kernel) rfl), by decide, (RX10, TX10, 25), rfl, rfl⟩
theorem lk_X10_110 : pm_lnV RX10 110 yX10_isWell 0 10 := ⟨⟨(pm_tb_t 1023 (by decide +kernel) rfl), (pm_tb_t 11 (by decide +kernel) rfl), by decide +kernel, by decide +kernel, by decide +kernel⟩, (pm_tb_t 1025 (by decide +kernel) rfl), (pm_tb_s 35 (by decide +kernel) rfl), by decide, (RX10, TX10, 25), rfl, rfl⟩
theorem lk_X10_124 : pm_lnV RX10 124 yX10_figure 2 10 := ⟨⟨(pm_tb_t 1027 (by decide +kernel) rfl), (pm_tb_t 11 (by decide +kernel) rfl), by decide +kernel, by decide +kernel, by decide +kernel⟩, (pm_tb_t 1029 (by decide +kernel) rfl), (pm_tb_s 36 (by decide +kernel) rfl), by decide, (RX10, TX10, 25), rfl, rfl⟩
theorem lk_X10_134 : pm_lnV RX10 134 yX10_readsPage 1 10 := ⟨⟨(pm_tb_t 1031 (by decide +kernel) rfl), (pm_tb_t 11 (by decide +kernel) rfl), by decide +kernel, by decide +kernel, by decide +kernel⟩, (pm_tb_t 1033 (by decide +kernel) rfl), (pm_tb_s 37 (by decide +kernel) rfl), by decide, (RX10, TX10, 25), rfl, rfl⟩
theorem lk_X10_127 : pm_lnS RX10 127 yX10_kindOf 1 := ⟨⟨(pm_tb_t 1035 (by decide +kernel) rfl), (pm_tb_t 11 (by decide +kernel) rfl), by decide +kernel, by decide +kernel, by decide +kernel⟩, (pm_tb_t 1036 (by decide +kernel) rfl)⟩
theorem lk_X10_138 : pm_lnV RX10 138 yX10_readsTab 0 10 := ⟨⟨(pm_tb_t 1038 (by decide +kernel) rfl), (pm_tb_t 11 (by decide +kernel) rfl), by decide +kernel, by decide +kernel, by decide +kernel⟩, (pm_tb_t 1040 (by decide +kernel) rfl), (pm_tb_s 38 (by decide +kernel) rfl), by decide, (RX10, TX10, 25), rfl, rfl⟩
theorem lk_X10_130 : pm_lnS RX10 130 yX10_fresh 4 := ⟨⟨(pm_tb_t 1042 (by decide +kernel) rfl), (pm_tb_t 11 (by decide +kernel) rfl), by decide +kernel, by decide +kernel, by decide +kernel⟩, (pm_tb_t 1043 (by decide +kernel) rfl)⟩
theorem lk_X10_141 : pm_lnV RX10 141 yX10_must 1 10 := ⟨⟨(pm_tb_t 1045 (by decide +kernel) rfl), (pm_tb_t 11 (by decide +kernel) rfl), by decide +kernel, by decide +kernel, by decide +kernel⟩, (pm_tb_t 1047 (by decide +kernel) rfl), (pm_tb_s 39 (by decide +kernel) rfl), by decide, (RX10, TX10, 25), rfl, rfl⟩
theorem ct_X10_145 : Cond.constant RX10 145 (-1000100) ∈ pm_tb := (pm_tb_t 1049 (by decide +kernel) rfl)
theorem lk_X10_146 : pm_lnS RX10 146 yX10_copies 4 := ⟨⟨(pm_tb_t 1050 (by decide +kernel) rfl), (pm_tb_t 11 (by decide +kernel) rfl), by decide +kernel, by decide +kernel, by decide +kernel⟩, (pm_tb_t 1051 (by decide +kernel) rfl)⟩
theorem lk_L_44 : pm_lnV RL 44 yX10_fault 0 10 := ⟨⟨(pm_tb_t 1053 (by decide +kernel) rfl), (pm_tb_t 11 (by decide +kernel) rfl), by decide +kernel, by decide +kernel, by decide +kernel⟩, (pm_tb_t 1054 (by decide +kernel) rfl), (pm_tb_t 1055 (by decide +kernel) rfl), by decide, (RX10, TX10, 25), rfl, rfl⟩
theorem lk_L_48 : pm_lnV RL 48 yX10_follow 1 10 := ⟨⟨(pm_tb_t 1057 (by decide +kernel) rfl), (pm_tb_t 11 (by decide +kernel) rfl), by decide +kernel, by decide +kernel, by decide +kernel⟩, (pm_tb_t 1058 (by decide +kernel) rfl), (pm_tb_t 1059 (by decide +kernel) rfl), by decide, (RX10, TX10, 25), rfl, rfl⟩
theorem lk_X10_179 : pm_lnV RX10 179 yX10_isWeb 0 10 := ⟨⟨(pm_tb_t 1061 (by decide +kernel) rfl), (pm_tb_t 11 (by decide +kernel) rfl), by decide +kernel, by decide +kernel, by decide +kernel⟩, (pm_tb_t 1063 (by decide +kernel) rfl), (pm_tb_s 40 (by decide +kernel) rfl), by decide, (RX10, TX10, 25), rfl, rfl⟩
theorem ct_X10_182 : Cond.constant RX10 182 (-1000002) ∈ pm_tb := (pm_tb_t 1065 (by decide +kernel) rfl)
theorem lk_X10_183 : pm_lnS RX10 183 yX10_mayFollow 2 := ⟨⟨(pm_tb_t 1066 (by decide +kernel) rfl), (pm_tb_t 11 (by decide +kernel) rfl), by decide +kernel, by decide +kernel, by decide +kernel⟩, (pm_tb_t 1067 (by decide +kernel) rfl)⟩
theorem lk_X10_157 : pm_lnS RX10 157 yX10_seen 1 := ⟨⟨(pm_tb_t 1069 (by decide +kernel) rfl), (pm_tb_t 11 (by decide +kernel) rfl), by decide +kernel, by decide +kernel, by decide +kernel⟩, (pm_tb_t 1070 (by decide +kernel) rfl)⟩
theorem lk_X10_153 : pm_lnS RX10 153 yX10_shows 2 := ⟨⟨(pm_tb_t 1072 (by decide +kernel) rfl), (pm_tb_t 11 (by decide +kernel) rfl), by decide +kernel, by decide +kernel, by decide +kernel⟩, (pm_tb_t 1073 (by decide +kernel) rfl)⟩
theorem lk_X10_161 : pm_lnS RX10 161 yX10_tabNow 1 := ⟨⟨(pm_tb_t 1075 (by decide +kernel) rfl), (pm_tb_t 11 (by decide +kernel) rfl), by decide +kernel, by decide +kernel, by decide +kernel⟩, (pm_tb_t 1076 (by decide +kernel) rfl)⟩
theorem lk_X10_187 : pm_lnV RX10 187 yX10_notes 0 10 := ⟨⟨(pm_tb_t 1078 (by decide +kernel) rfl), (pm_tb_t 11 (by decide +kernel) rfl), by decide +kernel, by decide +kernel, by decide +kernel⟩, (pm_tb_t 1080 (by decide +kernel) rfl), (pm_tb_s 41 (by decide +kernel) rfl), by decide, (RX10, TX10, 25), rfl, rfl⟩
theorem lk_X10_190 : pm_lnS RX10 190 yX10_follows 2 := ⟨⟨(pm_tb_t 1082 (by decide +kernel) rfl), (pm_tb_t 11 (by decide +kernel) rfl), by decide +kernel, by decide +kernel, by decide +kernel⟩, (pm_tb_t 1083 (by decide +kernel) rfl)⟩
theorem lk_X10_168 : pm_lnS RX10 168 yX10_inserts 3 := ⟨⟨(pm_tb_t 1085 (by decide +kernel) rfl), (pm_tb_t 11 (by decide +kernel) rfl), by decide +kernel, by decide +kernel, by decide +kernel⟩, (pm_tb_t 1086 (by decide +kernel) rfl)⟩
theorem lk_X10_164 : pm_lnS RX10 164 yX10_moves 3 := ⟨⟨(pm_tb_t 1088 (by decide +kernel) rfl), (pm_tb_t 11 (by decide +kernel) rfl), by decide +kernel, by decide +kernel, by decide +kernel⟩, (pm_tb_t 1089 (by decide +kernel) rfl)⟩
theorem lk_X10_171 : pm_lnS RX10 171 yX10_comes 2 := ⟨⟨(pm_tb_t 1091 (by decide +kernel) rfl), (pm_tb_t 11 (by decide +kernel) rfl), by decide +kernel, by decide +kernel, by decide +kernel⟩, (pm_tb_t 1092 (by decide +kernel) rfl)⟩
theorem lk_X10_175 : pm_lnS RX10 175 yX10_visits 1 := ⟨⟨(pm_tb_t 1094 (by decide +kernel) rfl), (pm_tb_t 11 (by decide +kernel) rfl), by decide +kernel, by decide +kernel, by decide +kernel⟩, (pm_tb_t 1095 (by decide +kernel) rfl)⟩
theorem lk_L_52 : pm_lnV RL 52 yX10_back 0 10 := ⟨⟨(pm_tb_t 1097 (by decide +kernel) rfl), (pm_tb_t 11 (by decide +kernel) rfl), by decide +kernel, by decide +kernel, by decide +kernel⟩, (pm_tb_t 1098 (by decide +kernel) rfl), (pm_tb_t 1099 (by decide +kernel) rfl), by decide, (RX10, TX10, 25), rfl, rfl⟩
theorem lk_X10_199 : pm_lnV RX10 199 yX10_turned 1 10 := ⟨⟨(pm_tb_t 1101 (by decide +kernel) rfl), (pm_tb_t 11 (by decide +kernel) rfl), by decide +kernel, by decide +kernel, by decide +kernel⟩, (pm_tb_t 1103 (by decide +kernel) rfl), (pm_tb_s 42 (by decide +kernel) rfl), by decide, (RX10, TX10, 25), rfl, rfl⟩
theorem lk_X10_193 : pm_lnS RX10 193 yX10_mayGo 2 := ⟨⟨(pm_tb_t 1105 (by decide +kernel) rfl), (pm_tb_t 11 (by decide +kernel) rfl), by decide +kernel, by decide +kernel, by decide +kernel⟩, (pm_tb_t 1106 (by decide +kernel) rfl)⟩
theorem lk_X10_196 : pm_lnS RX10 196 yX10_goes 2 := ⟨⟨(pm_tb_t 1108 (by decide +kernel) rfl), (pm_tb_t 11 (by decide +kernel) rfl), by decide +kernel, by decide +kernel, by decide +kernel⟩, (pm_tb_t 1109 (by decide +kernel) rfl)⟩
theorem lk_L_56 : pm_lnV RL 56 yX10_forward 0 10 := ⟨⟨(pm_tb_t 1111 (by decide +kernel) rfl), (pm_tb_t 11 (by decide +kernel) rfl), by decide +kernel, by decide +kernel, by decide +kernel⟩, (pm_tb_t 1112 (by decide +kernel) rfl), (pm_tb_t 1113 (by decide +kernel) rfl), by decide, (RX10, TX10, 25), rfl, rfl⟩
theorem lk_L_60 : pm_lnV RL 60 yX10_select 1 10 := ⟨⟨(pm_tb_t 1115 (by decide +kernel) rfl), (pm_tb_t 11 (by decide +kernel) rfl), by decide +kernel, by decide +kernel, by decide +kernel⟩, (pm_tb_t 1116 (by decide +kernel) rfl), (pm_tb_t 1117 (by decide +kernel) rfl), by decide, (RX10, TX10, 25), rfl, rfl⟩
theorem lk_X10_202 : pm_lnV RX10 202 yX10_isTab 1 10 := ⟨⟨(pm_tb_t 1119 (by decide +kernel) rfl), (pm_tb_t 11 (by decide +kernel) rfl), by decide +kernel, by decide +kernel, by decide +kernel⟩, (pm_tb_t 1121 (by decide +kernel) rfl), (pm_tb_s 43 (by decide +kernel) rfl), by decide, (RX10, TX10, 25), rfl, rfl⟩
theorem lk_L_64 : pm_lnV RL 64 yX10_open 1 10 := ⟨⟨(pm_tb_t 1123 (by decide +kernel) rfl), (pm_tb_t 11 (by decide +kernel) rfl), by decide +kernel, by decide +kernel, by decide +kernel⟩, (pm_tb_t 1124 (by decide +kernel) rfl), (pm_tb_t 1125 (by decide +kernel) rfl), by decide, (RX10, TX10, 25), rfl, rfl⟩
theorem lk_X10_205 : pm_lnV RX10 205 yX10_isPage 1 10 := ⟨⟨(pm_tb_t 1127 (by decide +kernel) rfl), (pm_tb_t 11 (by decide +kernel) rfl), by decide +kernel, by decide +kernel, by decide +kernel⟩, (pm_tb_t 1129 (by decide +kernel) rfl), (pm_tb_s 44 (by decide +kernel) rfl), by decide, (RX10, TX10, 25), rfl, rfl⟩
theorem lk_X10_208 : pm_lnS RX10 208 yX10_opens 2 := ⟨⟨(pm_tb_t 1131 (by decide +kernel) rfl), (pm_tb_t 11 (by decide +kernel) rfl), by decide +kernel, by decide +kernel, by decide +kernel⟩, (pm_tb_t 1132 (by decide +kernel) rfl)⟩
theorem lk_L_68 : pm_lnV RL 68 yX10_close 0 10 := ⟨⟨(pm_tb_t 1134 (by decide +kernel) rfl), (pm_tb_t 11 (by decide +kernel) rfl), by decide +kernel, by decide +kernel, by decide +kernel⟩, (pm_tb_t 1135 (by decide +kernel) rfl), (pm_tb_t 1136 (by decide +kernel) rfl), by decide, (RX10, TX10, 25), rfl, rfl⟩
theorem lk_X10_211 : pm_lnS RX10 211 yX10_closes 1 := ⟨⟨(pm_tb_t 1138 (by decide +kernel) rfl), (pm_tb_t 11 (by decide +kernel) rfl), by decide +kernel, by decide +kernel, by decide +kernel⟩, (pm_tb_t 1139 (by decide +kernel) rfl)⟩
theorem lk_L_72 : pm_lnV RL 72 yX10_again 0 10 := ⟨⟨(pm_tb_t 1141 (by decide +kernel) rfl), (pm_tb_t 11 (by decide +kernel) rfl), by decide +kernel, by decide +kernel, by decide +kernel⟩, (pm_tb_t 1142 (by decide +kernel) rfl), (pm_tb_t 1143 (by decide +kernel) rfl), by decide, (RX10, TX10, 25), rfl, rfl⟩
theorem lk_L_76 : pm_lnV RL 76 yX10_undo 0 10 := ⟨⟨(pm_tb_t 1145 (by decide +kernel) rfl), (pm_tb_t 11 (by decide +kernel) rfl), by decide +kernel, by decide +kernel, by decide +kernel⟩, (pm_tb_t 1146 (by decide +kernel) rfl), (pm_tb_t 1147 (by decide +kernel) rfl), by decide, (RX10, TX10, 25), rfl, rfl⟩
theorem lk_L_81 : pm_lnV RL 81 yX10_tab 2 10 := ⟨⟨(pm_tb_t 1149 (by decide +kernel) rfl), (pm_tb_t 11 (by decide +kernel) rfl), by decide +kernel, by decide +kernel, by decide +kernel⟩, (pm_tb_t 1150 (by decide +kernel) rfl), (pm_tb_t 1151 (by decide +kernel) rfl), by decide, (RX10, TX10, 25), rfl, rfl⟩
theorem lk_L_85 : pm_lnV RL 85 yX10_trail 2 10 := ⟨⟨(pm_tb_t 1153 (by decide +kernel) rfl), (pm_tb_t 11 (by decide +kernel) rfl), by decide +kernel, by decide +kernel, by decide +kernel⟩, (pm_tb_t 1154 (by decide +kernel) rfl), (pm_tb_t 1155 (by decide +kernel) rfl), by decide, (RX10, TX10, 25), rfl, rfl⟩
theorem lk_L_89 : pm_lnV RL 89 yX10_page 2 10 := ⟨⟨(pm_tb_t 1157 (by decide +kernel) rfl), (pm_tb_t 11 (by decide +kernel) rfl), by decide +kernel, by decide +kernel, by decide +kernel⟩, (pm_tb_t 1158 (by decide +kernel) rfl), (pm_tb_t 1159 (by decide +kernel) rfl), by decide, (RX10, TX10, 25), rfl, rfl⟩
theorem lk_L_93 : pm_lnV RL 93 yX10_walk 2 10 := ⟨⟨(pm_tb_t 1161 (by decide +kernel) rfl), (pm_tb_t 11 (by decide +kernel) rfl), by decide +kernel, by decide +kernel, by decide +kernel⟩, (pm_tb_t 1162 (by decide +kernel) rfl), (pm_tb_t 1163 (by decide +kernel) rfl), by decide, (RX10, TX10, 25), rfl, rfl⟩
theorem lk_L_97 : pm_lnV RL 97 yX10_far 2 10 := ⟨⟨(pm_tb_t 1165 (by decide +kernel) rfl), (pm_tb_t 11 (by decide +kernel) rfl), by decide +kernel, by decide +kernel, by decide +kernel⟩, (pm_tb_t 1166 (by decide +kernel) rfl), (pm_tb_t 1167 (by decide +kernel) rfl), by decide, (RX10, TX10, 25), rfl, rfl⟩
theorem lk_X10_214 : pm_lnV RX10 214 yX10_measures 1 10 := ⟨⟨(pm_tb_t 1169 (by decide +kernel) rfl), (pm_tb_t 11 (by decide +kernel) rfl), by decide +kernel, by decide +kernel, by decide +kernel⟩, (pm_tb_t 1171 (by decide +kernel) rfl), (pm_tb_s 45 (by decide +kernel) rfl), by decide, (RX10, TX10, 25), rfl, rfl⟩
theorem lk_L_101 : pm_lnV RL 101 yX10_round 1 10 := ⟨⟨(pm_tb_t 1173 (by decide +kernel) rfl), (pm_tb_t 11 (by decide +kernel) rfl), by decide +kernel, by decide +kernel, by decide +kernel⟩, (pm_tb_t 1174 (by decide +kernel) rfl), (pm_tb_t 1175 (by decide +kernel) rfl), by decide, (RX10, TX10, 25), rfl, rfl⟩
theorem lk_L_105 : pm_lnV RL 105 yX10_to 2 10 := ⟨⟨(pm_tb_t 1177 (by decide +kernel) rfl), (pm_tb_t 11 (by decide +kernel) rfl), by decide +kernel, by decide +kernel, by decide +kernel⟩, (pm_tb_t 1178 (by decide +kernel) rfl), (pm_tb_t 1179 (by decide +kernel) rfl), by decide, (RX10, TX10, 25), rfl, rfl⟩
theorem lk_X10_217 : pm_lnV RX10 217 yX10_isShown 3 10 := ⟨⟨(pm_tb_t 1181 (by decide +kernel) rfl), (pm_tb_t 11 (by decide +kernel) rfl), by decide +kernel, by decide +kernel, by decide +kernel⟩, (pm_tb_t 1183 (by decide +kernel) rfl), (pm_tb_s 46 (by decide +kernel) rfl), by decide, (RX10, TX10, 25), rfl, rfl⟩
theorem lk_L_109 : pm_lnV RL 109 yX10_ways 2 10 := ⟨⟨(pm_tb_t 1185 (by decide +kernel) rfl), (pm_tb_t 11 (by decide +kernel) rfl), by decide +kernel, by decide +kernel, by decide +kernel⟩, (pm_tb_t 1186 (by decide +kernel) rfl), (pm_tb_t 1187 (by decide +kernel) rfl), by decide, (RX10, TX10, 25), rfl, rfl⟩
theorem lk_X10_220 : pm_lnV RX10 220 yX10_weighs 2 10 := ⟨⟨(pm_tb_t 1189 (by decide +kernel) rfl), (pm_tb_t 11 (by decide +kernel) rfl), by decide +kernel, by decide +kernel, by decide +kernel⟩, (pm_tb_t 1191 (by decide +kernel) rfl), (pm_tb_s 47 (by decide +kernel) rfl), by decide, (RX10, TX10, 25), rfl, rfl⟩
theorem lk_L_113 : pm_lnV RL 113 yX10_share 2 10 := ⟨⟨(pm_tb_t 1193 (by decide +kernel) rfl), (pm_tb_t 11 (by decide +kernel) rfl), by decide +kernel, by decide +kernel, by decide +kernel⟩, (pm_tb_t 1194 (by decide +kernel) rfl), (pm_tb_t 1195 (by decide +kernel) rfl), by decide, (RX10, TX10, 25), rfl, rfl⟩
theorem lk_X10_224 : pm_lnS RX10 224 yX10_visitsOf 1 := ⟨⟨(pm_tb_t 1197 (by decide +kernel) rfl), (pm_tb_t 11 (by decide +kernel) rfl), by decide +kernel, by decide +kernel, by decide +kernel⟩, (pm_tb_t 1198 (by decide +kernel) rfl)⟩
theorem lk_L_117 : pm_lnV RL 117 yX10_fits 5 10 := ⟨⟨(pm_tb_t 1200 (by decide +kernel) rfl), (pm_tb_t 11 (by decide +kernel) rfl), by decide +kernel, by decide +kernel, by decide +kernel⟩, (pm_tb_t 1201 (by decide +kernel) rfl), (pm_tb_t 1202 (by decide +kernel) rfl), by decide, (RX10, TX10, 25), rfl, rfl⟩
theorem lk_X10_227 : pm_lnV RX10 227 yX10_isSeen 4 10 := ⟨⟨(pm_tb_t 1204 (by decide +kernel) rfl), (pm_tb_t 11 (by decide +kernel) rfl), by decide +kernel, by decide +kernel, by decide +kernel⟩, (pm_tb_t 1206 (by decide +kernel) rfl), (pm_tb_s 48 (by decide +kernel) rfl), by decide, (RX10, TX10, 25), rfl, rfl⟩
theorem lk_L_121 : pm_lnV RL 121 yX10_chance 3 10 := ⟨⟨(pm_tb_t 1208 (by decide +kernel) rfl), (pm_tb_t 11 (by decide +kernel) rfl), by decide +kernel, by decide +kernel, by decide +kernel⟩, (pm_tb_t 1209 (by decide +kernel) rfl), (pm_tb_t 1210 (by decide +kernel) rfl), by decide, (RX10, TX10, 25), rfl, rfl⟩
theorem lk_L_125 : pm_lnV RL 125 yX10_drawn 3 10 := ⟨⟨(pm_tb_t 1212 (by decide +kernel) rfl), (pm_tb_t 11 (by decide +kernel) rfl), by decide +kernel, by decide +kernel, by decide +kernel⟩, (pm_tb_t 1213 (by decide +kernel) rfl), (pm_tb_t 1214 (by decide +kernel) rfl), by decide, (RX10, TX10, 25), rfl, rfl⟩
theorem ct_X10_233 : Cond.constant RX10 233 (999999) ∈ pm_tb := (pm_tb_t 1216 (by decide +kernel) rfl)
theorem ct_X10_234 : Cond.constantLong RX10 234 (16807) ∈ pm_tb := (pm_tb_t 1217 (by decide +kernel) rfl)
theorem ct_X10_236 : Cond.constantLong RX10 236 (2147483647) ∈ pm_tb := (pm_tb_t 1218 (by decide +kernel) rfl)
theorem lk_X10_238 : pm_lnV RX10 238 yX10_steps 1 10 := ⟨⟨(pm_tb_t 1219 (by decide +kernel) rfl), (pm_tb_t 11 (by decide +kernel) rfl), by decide +kernel, by decide +kernel, by decide +kernel⟩, (pm_tb_t 1221 (by decide +kernel) rfl), (pm_tb_s 49 (by decide +kernel) rfl), by decide, (RX10, TX10, 25), rfl, rfl⟩
theorem ct_X10_231 : Cond.constantLong RX10 231 (7) ∈ pm_tb := (pm_tb_t 1223 (by decide +kernel) rfl)
theorem lk_L_129 : pm_lnV RL 129 yX10_image 1 10 := ⟨⟨(pm_tb_t 1224 (by decide +kernel) rfl), (pm_tb_t 11 (by decide +kernel) rfl), by decide +kernel, by decide +kernel, by decide +kernel⟩, (pm_tb_t 1225 (by decide +kernel) rfl), (pm_tb_t 1226 (by decide +kernel) rfl), by decide, (RX10, TX10, 25), rfl, rfl⟩
theorem lk_L_133 : pm_lnV RL 133 yX10_restore 1 10 := ⟨⟨(pm_tb_t 1228 (by decide +kernel) rfl), (pm_tb_t 11 (by decide +kernel) rfl), by decide +kernel, by decide +kernel, by decide +kernel⟩, (pm_tb_t 1229 (by decide +kernel) rfl), (pm_tb_t 1230 (by decide +kernel) rfl), by decide, (RX10, TX10, 25), rfl, rfl⟩
theorem lk_L_137 : pm_lnV RL 137 yX10_kind 1 10 := ⟨⟨(pm_tb_t 1232 (by decide +kernel) rfl), (pm_tb_t 11 (by decide +kernel) rfl), by decide +kernel, by decide +kernel, by decide +kernel⟩, (pm_tb_t 1233 (by decide +kernel) rfl), (pm_tb_t 1234 (by decide +kernel) rfl), by decide, (RX10, TX10, 25), rfl, rfl⟩
theorem lk_X10_242 : pm_lnV RX10 242 yX10_kindIn 1 10 := ⟨⟨(pm_tb_t 1236 (by decide +kernel) rfl), (pm_tb_t 11 (by decide +kernel) rfl), by decide +kernel, by decide +kernel, by decide +kernel⟩, (pm_tb_t 1238 (by decide +kernel) rfl), (pm_tb_s 50 (by decide +kernel) rfl), by decide, (RX10, TX10, 25), rfl, rfl⟩
theorem lk_L_141 : pm_lnV RL 141 yX10_as 2 10 := ⟨⟨(pm_tb_t 1240 (by decide +kernel) rfl), (pm_tb_t 11 (by decide +kernel) rfl), by decide +kernel, by decide +kernel, by decide +kernel⟩, (pm_tb_t 1241 (by decide +kernel) rfl), (pm_tb_t 1242 (by decide +kernel) rfl), by decide, (RX10, TX10, 25), rfl, rfl⟩
theorem lk_L_145 : pm_lnV RL 145 yX10_ask 2 10 := ⟨⟨(pm_tb_t 1244 (by decide +kernel) rfl), (pm_tb_t 11 (by decide +kernel) rfl), by decide +kernel, by decide +kernel, by decide +kernel⟩, (pm_tb_t 1245 (by decide +kernel) rfl), (pm_tb_t 1246 (by decide +kernel) rfl), by decide, (RX10, TX10, 25), rfl, rfl⟩
theorem lk_X10_254 : pm_lnV RX10 254 yX10_guestSize 1 10 := ⟨⟨(pm_tb_t 1248 (by decide +kernel) rfl), (pm_tb_t 11 (by decide +kernel) rfl), by decide +kernel, by decide +kernel, by decide +kernel⟩, (pm_tb_t 1250 (by decide +kernel) rfl), (pm_tb_s 51 (by decide +kernel) rfl), by decide, (RX10, TX10, 25), rfl, rfl⟩
theorem lk_X10_248 : pm_lnV RX10 248 yX10_begins 1 10 := ⟨⟨(pm_tb_t 1252 (by decide +kernel) rfl), (pm_tb_t 11 (by decide +kernel) rfl), by decide +kernel, by decide +kernel, by decide +kernel⟩, (pm_tb_t 1254 (by decide +kernel) rfl), (pm_tb_s 52 (by decide +kernel) rfl), by decide, (RX10, TX10, 25), rfl, rfl⟩
theorem lk_X10_257 : pm_lnV RX10 257 yX10_plainSize 1 10 := ⟨⟨(pm_tb_t 1256 (by decide +kernel) rfl), (pm_tb_t 11 (by decide +kernel) rfl), by decide +kernel, by decide +kernel, by decide +kernel⟩, (pm_tb_t 1258 (by decide +kernel) rfl), (pm_tb_s 53 (by decide +kernel) rfl), by decide, (RX10, TX10, 25), rfl, rfl⟩
theorem lk_X10_251 : pm_lnV RX10 251 yX10_plainMark 1 10 := ⟨⟨(pm_tb_t 1260 (by decide +kernel) rfl), (pm_tb_t 11 (by decide +kernel) rfl), by decide +kernel, by decide +kernel, by decide +kernel⟩, (pm_tb_t 1262 (by decide +kernel) rfl), (pm_tb_s 54 (by decide +kernel) rfl), by decide, (RX10, TX10, 25), rfl, rfl⟩
theorem lk_X10_260 : pm_lnV RX10 260 yX10_guestMark 1 10 := ⟨⟨(pm_tb_t 1264 (by decide +kernel) rfl), (pm_tb_t 11 (by decide +kernel) rfl), by decide +kernel, by decide +kernel, by decide +kernel⟩, (pm_tb_t 1266 (by decide +kernel) rfl), (pm_tb_s 55 (by decide +kernel) rfl), by decide, (RX10, TX10, 25), rfl, rfl⟩
theorem lk_L_149 : pm_lnV RL 149 yX10_trace 1 10 := ⟨⟨(pm_tb_t 1268 (by decide +kernel) rfl), (pm_tb_t 11 (by decide +kernel) rfl), by decide +kernel, by decide +kernel, by decide +kernel⟩, (pm_tb_t 1269 (by decide +kernel) rfl), (pm_tb_t 1270 (by decide +kernel) rfl), by decide, (RX10, TX10, 25), rfl, rfl⟩
theorem lk_L_153 : pm_lnV RL 153 yX10_count 1 10 := ⟨⟨(pm_tb_t 1272 (by decide +kernel) rfl), (pm_tb_t 11 (by decide +kernel) rfl), by decide +kernel, by decide +kernel, by decide +kernel⟩, (pm_tb_t 1273 (by decide +kernel) rfl), (pm_tb_t 1274 (by decide +kernel) rfl), by decide, (RX10, TX10, 25), rfl, rfl⟩
theorem lk_L_157 : pm_lnV RL 157 yX10_status 0 10 := ⟨⟨(pm_tb_t 1276 (by decide +kernel) rfl), (pm_tb_t 11 (by decide +kernel) rfl), by decide +kernel, by decide +kernel, by decide +kernel⟩, (pm_tb_t 1277 (by decide +kernel) rfl), (pm_tb_t 1278 (by decide +kernel) rfl), by decide, (RX10, TX10, 25), rfl, rfl⟩
theorem mx_s : Cond.static Lib.Math.max.name ∈ pm_tb := (pm_tb_t 530 (by decide +kernel) rfl)
theorem mn_s : Cond.static Lib.Math.min.name ∈ pm_tb := (pm_tb_t 527 (by decide +kernel) rfl)
theorem mm_i : Cond.initialized "java/lang/Math" ∈ pm_tb := (pm_tb_t 13 (by decide +kernel) rfl)
theorem mx_c : Cond.code Lib.Math.max.name Lib.Math.max.code 2 (some .int) ∈ pm_tb := (pm_tb_t 531 (by decide +kernel) rfl)
theorem mn_c : Cond.code Lib.Math.min.name Lib.Math.min.code 2 (some .int) ∈ pm_tb := (pm_tb_t 528 (by decide +kernel) rfl)
theorem ac_n : Cond.native arraycopyName ∈ pm_tb := (pm_tb_t 352 (by decide +kernel) rfl)
theorem ac_s : Cond.static arraycopyName ∈ pm_tb := (pm_tb_t 351 (by decide +kernel) rfl)
theorem ac_i : Cond.initialized "java/lang/System" ∈ pm_tb := (pm_tb_t 12 (by decide +kernel) rfl)
end
section
section MORE
variable {E : pmE} {C : pmC} {own : String} {cc : ByteArray} {nL d mc0 ms0 : Nat} {pc : Nat} {lv : List (Option Value)} {st : List Value} {S : pmS} {I : pmI} {P : pmP} {ca sl : Nat}
/-- a call that makes no cell -/
theorem z_V (G : pm_G E C own cc nL (d + 1) mc0 ms0) {idx n ci k : Nat} {y : MethodName} (L : pm_lnV own idx y n ci) (hdg : decode cc pc = .ok (.invokevirtual idx, 3)) {rest st0 : List Value} (As : List Value) (hst : st0 = As.reverse ++ rr E k :: rest) (hn : As.length = n) (hnL : lv.length = nL) (hW : (rest.map fun v => v.category).sum ≤ 8) (hf : ca ≤ mc0 ∧ sl ≤ ms0)
    (ho : OB S k ci) (h : pmX E d 0 0 y (rr E k :: As) S I P (fun v S' I' P' => pmZ E C (pc + 3) lv (v.toList ++ rest) S' I' P' ca sl)) : pmZ E C pc lv st0 S I P ca sl := z_callV G L hdg hst hn hnL hW hf ho.1 ho.2 h
theorem z_S (G : pm_G E C own cc nL (d + 1) mc0 ms0) {idx n : Nat} {y : MethodName} (L : pm_lnS own idx y n) (hdg : decode cc pc = .ok (.invokestatic idx, 3)) {rest st0 : List Value} (As : List Value) (hst : st0 = As.reverse ++ rest) (hn : As.length = n) (hnL : lv.length = nL) (hW : (rest.map fun v => v.category).sum ≤ 8) (hf : ca ≤ mc0 ∧ sl ≤ ms0)
    (h : pmX E d 0 0 y As S I P (fun v S' I' P' => pmZ E C (pc + 3) lv (v.toList ++ rest) S' I' P' ca sl)) : pmZ E C pc lv st0 S I P ca sl := z_callS G L hdg hst hn hnL hW hf h
theorem z_top {x y : Int32} (h : x = y) (k : pmZ E C pc lv (.int y :: st) S I P ca sl) : pmZ E C pc lv (.int x :: st) S I P ca sl := by subst h; exact k
theorem z_I {I' : pmI} (h : I = I') (k : pmZ E C pc lv st S I' P ca sl) : pmZ E C pc lv st S I P ca sl := by subst h; exact k
end MORE
end
section
/-! ints by their values -/
theorem ti_lo (x : Int32) : -2147483648 ≤ x.toInt := by have := Int32.minValue_le_toInt x; simpa using this
theorem ti_hi (x : Int32) : x.toInt < 2147483648 := by have := Int32.toInt_lt x; omega
theorem ti_bm (z : Int) : z.bmod 4294967296 = (z + 2147483648) % 4294967296 - 2147483648 := by
  unfold Int.bmod
  dsimp only
  split <;> omega
theorem ti_add (x y : Int32) : (x + y).toInt = (x.toInt + y.toInt + 2147483648) % 4294967296 - 2147483648 := by
  rw [Int32.toInt_add]; exact ti_bm _
theorem ti_sub (x y : Int32) : (x - y).toInt = (x.toInt - y.toInt + 2147483648) % 4294967296 - 2147483648 := by
  rw [Int32.toInt_sub]; exact ti_bm _
theorem ti_mul (x y : Int32) : (x * y).toInt = (x.toInt * y.toInt + 2147483648) % 4294967296 - 2147483648 := by
  rw [Int32.toInt_mul]; exact ti_bm _
theorem ti_neg (x : Int32) : (-x).toInt = (-x.toInt + 2147483648) % 4294967296 - 2147483648 := by
  rw [Int32.toInt_neg]; exact ti_bm _
theorem ti_lt {x y : Int32} : x < y ↔ x.toInt < y.toInt := Int32.lt_iff_toInt_lt
theorem ti_le {x y : Int32} : x ≤ y ↔ x.toInt ≤ y.toInt := Int32.le_iff_toInt_le
theorem ti_eq {x y : Int32} : x = y ↔ x.toInt = y.toInt := Int32.toInt_inj.symm
/-- the number of an int that isn't below 0 -/
def tn (x : Int32) : Nat := x.toInt.toNat
theorem tn_of {x : Int32} (h : 0 ≤ x.toInt) : x.toInt = (tn x : Int) := by unfold tn; omega
def iN (n : Nat) : Int32 := Int32.ofNat n
theorem iN_ti {n : Nat} (h : n < 2147483648) : (iN n).toInt = n := by
  unfold iN
  rw [Int32.toInt_ofNat_of_lt (by simpa using h)]
theorem tn_iN {n : Nat} (h : n < 2147483648) : tn (iN n) = n := by unfold tn; rw [iN_ti h]; omega
theorem iN_tn {x : Int32} (h : 0 ≤ x.toInt) : iN (tn x) = x := by
  rw [ti_eq, iN_ti (by have := ti_hi x; unfold tn; omega)]
  unfold tn; omega
theorem iN_lit (n : Nat) : (OfNat.ofNat n : Int32) = iN n := rfl
theorem iN_add (a b : Nat) : iN a + iN b = iN (a + b) := (Int32.ofNat_add a b).symm
theorem iN_mul (a b : Nat) : iN a * iN b = iN (a * b) := (Int32.ofNat_mul a b).symm
theorem iN_sub {a b : Nat} (h : b ≤ a) : iN a - iN b = iN (a - b) := by
  have e : iN a = iN (a - b) + iN b := by rw [iN_add]; congr 1; omega
  rw [e, Int32.add_sub_cancel]
theorem iN_an (x : Int32) (b : Nat) : x + -iN b = x - iN b := (Int32.sub_eq_add_neg ..).symm
theorem iN_of {x : Int32} {n : Nat} (h : x.toInt = (n : Int)) : x = iN n := by
  have h1 := ti_hi x
  rw [ti_eq, iN_ti (by omega), h]
theorem iN_ti2 {n j : Nat} (h : n = j) (hl : j < 2147483648) : (iN n).toInt = (j : Int) := by rw [h]; exact iN_ti hl
theorem iN_le {a b : Nat} (ha : a < 2147483648) (hb : b < 2147483648) : iN a ≤ iN b ↔ a ≤ b := by rw [ti_le, iN_ti ha, iN_ti hb]; omega
theorem iN_lt {a b : Nat} (ha : a < 2147483648) (hb : b < 2147483648) : iN a < iN b ↔ a < b := by rw [ti_lt, iN_ti ha, iN_ti hb]; omega
theorem iN_eq {a b : Nat} (ha : a < 2147483648) (hb : b < 2147483648) : iN a = iN b ↔ a = b := by rw [ti_eq, iN_ti ha, iN_ti hb]; omega
end
section
/-! stores over stores -/
theorem va_up_up {α : Type} (I : Nat → α) (a : Nat) (f g : α) : va_up (va_up I a f) a g = va_up I a g := by
  funext i; simp only [va_up]; split <;> rfl
theorem va_up_id {α : Type} (I : Nat → α) (a : Nat) : va_up I a (I a) = I := by
  funext i; simp only [va_up]; split
  · next h => rw [h]
  · rfl
theorem cpy_0 {v w : Nat → Int32} {f g : Nat} : va_cpy w v f g 0 = v := by
  funext i; simp only [va_cpy]; rw [if_neg (by omega)]
theorem cpy_step {v w : Nat → Int32} {f g j : Nat} : va_up (va_cpy w v f g j) (g + j) (w (f + j)) = va_cpy w v f g (j + 1) := by
  funext i
  simp only [va_up, va_cpy]
  by_cases h : i = g + j
  · subst h
    rw [if_pos rfl, if_pos (by omega)]
    congr 1; omega
  · rw [if_neg h]
    by_cases h2 : g ≤ i ∧ i < g + j
    · rw [if_pos h2, if_pos (by omega)]
    · rw [if_neg h2, if_neg (by omega)]
theorem cpy_off {v w : Nat → Int32} {f g n i : Nat} (h : i < g ∨ g + n ≤ i) : va_cpy w v f g n i = v i := by
  simp only [va_cpy]; rw [if_neg (by omega)]
theorem cpy_in {v w : Nat → Int32} {f g n i : Nat} (h : g ≤ i ∧ i < g + n) : va_cpy w v f g n i = w (f + (i - g)) := by
  simp only [va_cpy]; rw [if_pos h]
/-! the reference's web: a row w of 124 numbers -/
/-- the tab now, what it shows of its trail, the page there -/
def Nw (w : Nat → Int32) (t s p : Nat) : Prop := (w 2).toInt = (t : Int) ∧ t < 5 ∧ (w (47 + 10 * t)).toInt = (s : Int) ∧ s < 6 ∧ (w (48 + 10 * t + s)).toInt = (p : Int) ∧ p < 8
def freshF (w : Nat → Int32) (k : Nat) (kind page : Int32) : Nat → Int32 := va_up (va_up (va_up (va_up (va_up w k kind) (k + 1) page) (k + 2) 1) (k + 3) 0) (k + 4) page
def visF (w : Nat → Int32) (p : Nat) : Nat → Int32 := va_up w (8 + 5 * p) (w (8 + 5 * p) + (if w (8 + 5 * p) < 999 then 1 else 0))
theorem freshF_off {w : Nat → Int32} {k i : Nat} {a b : Int32} (h : i < k ∨ k + 5 ≤ i) : freshF w k a b i = w i := by
  simp only [freshF, va_up]
  rw [if_neg (by omega), if_neg (by omega), if_neg (by omega), if_neg (by omega), if_neg (by omega)]
/-- a link is followed by a tab that isn't pinned -/
def comesF (w : Nat → Int32) (t s : Nat) (page : Int32) : Nat → Int32 :=
  if s + 2 > (if w (44 + 10 * t) = 2 ∨ w (44 + 10 * t) = 5 then 3 else 6) then
    if w (44 + 10 * t) = 5 then freshF w (44 + 10 * t) 5 (w (45 + 10 * t))
    else va_up (va_up (va_up (va_cpy w w (49 + 10 * t) (48 + 10 * t) s) (48 + 10 * t + s) page) (47 + 10 * t) (iN s)) (46 + 10 * t) (iN (s + 1))
  else va_up (va_up (va_up w (49 + 10 * t + s) page) (47 + 10 * t) (iN (s + 1))) (46 + 10 * t) (iN (s + 2))
/-- a new tab at place q of n tabs -/
def insF (w : Nat → Int32) (n q : Nat) (place page : Int32) : Nat → Int32 :=
  va_up (va_up (freshF (va_cpy w w (44 + 10 * q) (54 + 10 * q) (10 * (n - q))) (44 + 10 * q) 1 page) 1 (w 1 + 1)) 2 place
theorem ins_step {w : Nat → Int32} {n c : Nat} (hc : c + 1 ≤ n) : va_cpy (va_cpy w w (44 + 10 * (c + 1)) (54 + 10 * (c + 1)) (10 * (n - (c + 1)))) (va_cpy w w (44 + 10 * (c + 1)) (54 + 10 * (c + 1)) (10 * (n - (c + 1)))) (44 + 10 * c) (44 + 10 * (c + 1)) 10 = va_cpy w w (44 + 10 * c) (54 + 10 * c) (10 * (n - c)) := by
  funext i
  by_cases h1 : 44 + 10 * (c + 1) ≤ i ∧ i < 44 + 10 * (c + 1) + 10
  · rw [cpy_in h1, cpy_off (by omega), cpy_in (by omega)]
    congr 1; omega
  · rw [cpy_off (by omega)]
    by_cases h2 : 54 + 10 * (c + 1) ≤ i ∧ i < 54 + 10 * (c + 1) + 10 * (n - (c + 1))
    · rw [cpy_in h2, cpy_in (by omega)]
      congr 1; omega
    · rw [cpy_off (by omega), cpy_off (by omega)]
/-- the tab now is kept among the closed ones -/
def keepF (w : Nat → Int32) (t c : Nat) : Nat → Int32 :=
  if w (44 + 10 * t) < 4 then
    if c = 3 then va_up (va_cpy (va_up (va_cpy (va_cpy w w 104 94 10) (va_cpy w w 104 94 10) 114 104 10) 3 (iN 2)) (va_up (va_cpy (va_cpy w w 104 94 10) (va_cpy w w 104 94 10) 114 104 10) 3 (iN 2)) (44 + 10 * t) 114 10) 3 (iN 3)
    else va_up (va_cpy w w (44 + 10 * t) (94 + 10 * c) 10) 3 (iN (c + 1))
  else w
def closesF (w : Nat → Int32) (T t c : Nat) : Nat → Int32 :=
  va_up (va_cpy (va_up (keepF w t c) 1 (iN (T - 1))) (va_up (keepF w t c) 1 (iN (T - 1))) (54 + 10 * t) (44 + 10 * t) (10 * (T - 1 - t))) 2 (if t < T - 1 then iN t else iN (T - 2))
theorem cls_step {v : Nat → Int32} {t k : Nat} (hk : t ≤ k) : va_cpy (va_cpy v v (54 + 10 * t) (44 + 10 * t) (10 * (k - t))) (va_cpy v v (54 + 10 * t) (44 + 10 * t) (10 * (k - t))) (44 + 10 * (k + 1)) (44 + 10 * k) 10 = va_cpy v v (54 + 10 * t) (44 + 10 * t) (10 * (k + 1 - t)) := by
  funext i
  by_cases h1 : 44 + 10 * k ≤ i ∧ i < 44 + 10 * k + 10
  · rw [cpy_in h1, cpy_off (by omega), cpy_in (by omega)]
    congr 1; omega
  · rw [cpy_off (by omega)]
    by_cases h2 : 44 + 10 * t ≤ i ∧ i < 44 + 10 * t + 10 * (k - t)
    · rw [cpy_in h2, cpy_in (by omega)]
    · rw [cpy_off (by omega), cpy_off (by omega)]
/-- the visits of the first k pages -/
def sumV (w : Nat → Int32) : Nat → Int32
  | 0 => 0
  | k + 1 => sumV w k + w (8 + 5 * k)
end
section
set_option maxHeartbeats 1000000 in
set_option maxRecDepth 20000 in
theorem k_X10_shows {E : pmE} {d : Nat} {S : pmS} {I : pmI} {P : pmP} {R : Option Value → pmS → pmI → pmP → Prop} {a t s : Nat} {tab : Int32} (ho : AR S a 11 124) (ht : tab.toInt = (t : Int)) (h5 : t < 5) (hs : (I a (47 + 10 * t)).toInt = (s : Int)) (h6 : s < 6) (h : R (some (.int (I a (48 + 10 * t + s)))) S I P) : pmX E d 0 0 yX10_shows [rr E a, .int tab] S I P R := by
  refine pm_of (by decide) cd_X10_shows (by decide) (by decide) (Nat.le_of_ble_eq_true rfl) ?_
  intro C G hq
  refine z_bipush G (v := 44) dX10_shows_0 (by decide) ?_
  refine z_bipush G (v := 10) dX10_shows_2 (by decide) ?_
  refine z_iload_n G dX10_shows_4 rfl ?_
  refine z_imul G dX10_shows_5 ?_
  refine z_iadd G dX10_shows_6 ?_
  refine z_istore_n G dX10_shows_7 (Nat.le_of_ble_eq_true rfl) rfl ?_
  refine z_aload_n G dX10_shows_8 rfl ?_
  refine z_iload_n G dX10_shows_9 rfl ?_
  refine z_iconst G (v := 4) dX10_shows_10 (by decide) ?_
  refine z_iadd G dX10_shows_11 ?_
  refine z_aload_n G dX10_shows_12 rfl ?_
  refine z_iload_n G dX10_shows_13 rfl ?_
  refine z_iconst G (v := 3) dX10_shows_14 (by decide) ?_
  refine z_iadd G dX10_shows_15 ?_
  refine z_iald G (47 + 10 * t) dX10_shows_16 (by assumption) (by simp (disch := omega) only [iN_lit, iN_add, iN_sub, iN_mul, iN_an, iN_of ht]; exact iN_ti2 (by omega) (by omega)) (by omega) ?_
  refine z_iadd G dX10_shows_17 ?_
  refine z_iald G (48 + 10 * t + s) dX10_shows_18 (by assumption) (by simp (disch := omega) only [iN_lit, iN_add, iN_sub, iN_mul, iN_an, iN_of ht, iN_of hs]; exact iN_ti2 (by omega) (by omega)) (by omega) ?_
  exact z_iret G hq dX10_shows_19 (h)
set_option maxHeartbeats 1000000 in
set_option maxRecDepth 20000 in
theorem k_X10_in {E : pmE} {d : Nat} {S : pmS} {I : pmI} {P : pmP} {R : Option Value → pmS → pmI → pmP → Prop} {v lo hi : Int32} (h1 : lo ≤ v ∧ v ≤ hi → R (some (.int 1)) S I P) (h0 : ¬ (lo ≤ v ∧ v ≤ hi) → R (some (.int 0)) S I P) : pmX E d 0 0 yX10_in [.int v, .int lo, .int hi] S I P R := by
  refine pm_of (by decide) cd_X10_in (by decide) (by decide) (Nat.le_of_ble_eq_true rfl) ?_
  intro C G hq
  refine z_iload_n G dX10_in_0 rfl ?_
  refine z_iload_n G dX10_in_1 rfl ?_
  refine z_icmp_lt G 14 dX10_in_2 (by decide) (fun b2 => ?_) (fun b2 => ?_)
  · refine z_iconst G (v := 0) dX10_in_14 (by decide) ?_
    exact z_zret G hq dX10_in_15 rfl (h0 (fun q => by simp only [ti_lt, ti_le] at *; omega))
  · refine z_iload_n G dX10_in_5 rfl ?_
    refine z_iload_n G dX10_in_6 rfl ?_
    refine z_icmp_gt G 14 dX10_in_7 (by decide) (fun b7 => ?_) (fun b7 => ?_)
    · refine z_iconst G (v := 0) dX10_in_14 (by decide) ?_
      exact z_zret G hq dX10_in_15 rfl (h0 (fun q => by simp only [ti_lt, ti_le] at *; omega))
    · refine z_iconst G (v := 1) dX10_in_10 (by decide) ?_
      refine z_goto G 15 dX10_in_11 (by decide) ?_
      exact z_zret G hq dX10_in_15 rfl (h1 (by simp only [ti_lt, ti_le] at *; omega))
set_option maxHeartbeats 1000000 in
set_option maxRecDepth 20000 in
theorem k_X10_tabNow {E : pmE} {d : Nat} {S : pmS} {I : pmI} {P : pmP} {R : Option Value → pmS → pmI → pmP → Prop} {a t : Nat} (ho : AR S a 11 124) (ht : (I a 2).toInt = (t : Int)) (h5 : t < 5) (h : ∀ v : Int32, v.toInt = ((44 + 10 * t : Nat) : Int) → R (some (.int v)) S I P) : pmX E d 0 0 yX10_tabNow [rr E a] S I P R := by
  refine pm_of (by decide) cd_X10_tabNow (by decide) (by decide) (Nat.le_of_ble_eq_true rfl) ?_
  intro C G hq
  refine z_bipush G (v := 44) dX10_tabNow_0 (by decide) ?_
  refine z_bipush G (v := 10) dX10_tabNow_2 (by decide) ?_
  refine z_aload_n G dX10_tabNow_4 rfl ?_
  refine z_iconst G (v := 2) dX10_tabNow_5 (by decide) ?_
  refine z_iald G (2) dX10_tabNow_6 (by assumption) (rfl) (by omega) ?_
  refine z_imul G dX10_tabNow_7 ?_
  refine z_iadd G dX10_tabNow_8 ?_
  exact z_iret G hq dX10_tabNow_9 (h _ (by simp (disch := omega) only [iN_lit, iN_add, iN_sub, iN_mul, iN_an, iN_of ht]; exact iN_ti2 (by omega) (by omega)))
set_option maxHeartbeats 1000000 in
set_option maxRecDepth 20000 in
theorem k_X10_seen {E : pmE} {d : Nat} {S : pmS} {I : pmI} {P : pmP} {R : Option Value → pmS → pmI → pmP → Prop} {a t s p : Nat} (ho : AR S a 11 124) (hn : Nw (I a) t s p) (h : R (some (.int (I a (48 + 10 * t + s)))) S I P) : pmX E (d + 1) 0 0 yX10_seen [rr E a] S I P R := by
  refine pm_of (by decide) cd_X10_seen (by decide) (by decide) (Nat.le_of_ble_eq_true rfl) ?_
  intro C G hq
  refine z_aload_n G dX10_seen_0 rfl ?_
  refine z_aload_n G dX10_seen_1 rfl ?_
  refine z_iconst G (v := 2) dX10_seen_2 (by decide) ?_
  refine z_iald G (2) dX10_seen_3 (by assumption) (rfl) (by omega) ?_
  refine z_S G lk_X10_153 dX10_seen_4 [_, _] rfl rfl rfl (Nat.le_of_ble_eq_true rfl) ⟨Nat.le_refl _, Nat.le_refl _⟩ ?_
  refine k_X10_shows ho hn.1 hn.2.1 hn.2.2.1 hn.2.2.2.1 ?_
  exact z_iret G hq dX10_seen_7 (h)
set_option maxHeartbeats 1000000 in
set_option maxRecDepth 20000 in
theorem k_X10_fresh {E : pmE} {d : Nat} {S : pmS} {I : pmI} {P : pmP} {R : Option Value → pmS → pmI → pmP → Prop} {a k : Nat} {place kind page : Int32} (ho : AR S a 11 124) (hk : place.toInt = (k : Int)) (h5 : k + 5 ≤ 124) (h : R none S (va_up I a (freshF (I a) k kind page)) P) : pmX E d 0 0 yX10_fresh [rr E a, .int place, .int kind, .int page] S I P R := by
  refine pm_of (by decide) cd_X10_fresh (by decide) (by decide) (Nat.le_of_ble_eq_true rfl) ?_
  intro C G hq
  refine z_aload_n G dX10_fresh_0 rfl ?_
  refine z_iload_n G dX10_fresh_1 rfl ?_
  refine z_iload_n G dX10_fresh_2 rfl ?_
  refine z_iast G (k) dX10_fresh_3 (by assumption) (hk) (by omega) ?_
  refine z_aload_n G dX10_fresh_4 rfl ?_
  refine z_iload_n G dX10_fresh_5 rfl ?_
  refine z_iconst G (v := 1) dX10_fresh_6 (by decide) ?_
  refine z_iadd G dX10_fresh_7 ?_
  refine z_iload_n G dX10_fresh_8 rfl ?_
  refine z_iast G (k + 1) dX10_fresh_9 (by assumption) (by simp (disch := omega) only [iN_lit, iN_add, iN_sub, iN_mul, iN_an, iN_of hk]; exact iN_ti2 (by omega) (by omega)) (by omega) ?_
  refine z_aload_n G dX10_fresh_10 rfl ?_
  refine z_iload_n G dX10_fresh_11 rfl ?_
  refine z_iconst G (v := 2) dX10_fresh_12 (by decide) ?_
  refine z_iadd G dX10_fresh_13 ?_
  refine z_iconst G (v := 1) dX10_fresh_14 (by decide) ?_
  refine z_iast G (k + 2) dX10_fresh_15 (by assumption) (by simp (disch := omega) only [iN_lit, iN_add, iN_sub, iN_mul, iN_an, iN_of hk]; exact iN_ti2 (by omega) (by omega)) (by omega) ?_
  refine z_aload_n G dX10_fresh_16 rfl ?_
  refine z_iload_n G dX10_fresh_17 rfl ?_
  refine z_iconst G (v := 3) dX10_fresh_18 (by decide) ?_
  refine z_iadd G dX10_fresh_19 ?_
  refine z_iconst G (v := 0) dX10_fresh_20 (by decide) ?_
  refine z_iast G (k + 3) dX10_fresh_21 (by assumption) (by simp (disch := omega) only [iN_lit, iN_add, iN_sub, iN_mul, iN_an, iN_of hk]; exact iN_ti2 (by omega) (by omega)) (by omega) ?_
  refine z_aload_n G dX10_fresh_22 rfl ?_
  refine z_iload_n G dX10_fresh_23 rfl ?_
  refine z_iconst G (v := 4) dX10_fresh_24 (by decide) ?_
  refine z_iadd G dX10_fresh_25 ?_
  refine z_iload_n G dX10_fresh_26 rfl ?_
  refine z_iast G (k + 4) dX10_fresh_27 (by assumption) (by simp (disch := omega) only [iN_lit, iN_add, iN_sub, iN_mul, iN_an, iN_of hk]; exact iN_ti2 (by omega) (by omega)) (by omega) ?_
  exact z_vret G hq dX10_fresh_28 (by simpa only [va_up_self, va_up_up, freshF] using h)
set_option maxHeartbeats 1000000 in
set_option maxRecDepth 20000 in
theorem k_X10_moves {E : pmE} {d : Nat} {S : pmS} {I : pmI} {P : pmP} {R : Option Value → pmS → pmI → pmP → Prop} {a f g : Nat} {fr to : Int32} (ho : AR S a 11 124) (hf : fr.toInt = (f : Int)) (hg : to.toInt = (g : Int)) (h1 : f + 10 ≤ 124) (h2 : g + 10 ≤ 124) (hd : g + 10 ≤ f ∨ f + 10 ≤ g) (h : R none S (va_up I a (va_cpy (I a) (I a) f g 10)) P) : pmX E d 0 0 yX10_moves [rr E a, .int fr, .int to] S I P R := by
  refine pm_of (by decide) cd_X10_moves (by decide) (by decide) (Nat.le_of_ble_eq_true rfl) ?_
  intro C G hq
  have loop : ∀ (n j : Nat) (x : Int32), x.toInt = (j : Int) → j + n = 10 → pmZ E C 2 [some (rr E a), some (.int fr), some (.int to), some (.int x)] [] S (va_up I a (va_cpy (I a) (I a) f g j)) P 0 0 := by
    intro n
    induction n with
    | zero =>
      intro j x hx hn
      refine z_iload_n G dX10_moves_2 rfl ?_
      refine z_bipush G (v := 10) dX10_moves_3 (by decide) ?_
      refine z_icmp_ge G 24 dX10_moves_5 (by decide) (fun b5 => ?_) (fun b5 => ?_)
      · exact z_vret G hq dX10_moves_24 (by rw [show j = 10 by omega]; exact h)
      · exact absurd (by simp only [ti_le, hx, Int32.reduceToInt]; omega) b5
    | succ n ih =>
      intro j x hx hn
      refine z_iload_n G dX10_moves_2 rfl ?_
      refine z_bipush G (v := 10) dX10_moves_3 (by decide) ?_
      refine z_icmp_ge G 24 dX10_moves_5 (by decide) (fun b5 => ?_) (fun b5 => ?_)
      · exact absurd b5 (by simp only [ti_le, hx, Int32.reduceToInt]; omega)
      · refine z_aload_n G dX10_moves_8 rfl ?_
        refine z_iload_n G dX10_moves_9 rfl ?_
        refine z_iload_n G dX10_moves_10 rfl ?_
        refine z_iadd G dX10_moves_11 ?_
        refine z_aload_n G dX10_moves_12 rfl ?_
        refine z_iload_n G dX10_moves_13 rfl ?_
        refine z_iload_n G dX10_moves_14 rfl ?_
        refine z_iadd G dX10_moves_15 ?_
        refine z_iald G (f + j) dX10_moves_16 (by assumption) (by simp (disch := omega) only [iN_lit, iN_add, iN_sub, iN_mul, iN_an, iN_of hf, iN_of hx]; exact iN_ti2 (by omega) (by omega)) (by omega) ?_
        refine z_iast G (g + j) dX10_moves_17 (by assumption) (by simp (disch := omega) only [iN_lit, iN_add, iN_sub, iN_mul, iN_an, iN_of hg, iN_of hx]; exact iN_ti2 (by omega) (by omega)) (by omega) ?_
        refine z_iinc G (v := 1) dX10_moves_18 (by decide) rfl rfl ?_
        refine z_goto G 2 dX10_moves_21 (by decide) ?_
        refine z_eq rfl rfl rfl ?_ rfl (ih (j + 1) _ (by simp (disch := omega) only [iN_lit, iN_add, iN_sub, iN_mul, iN_an, iN_of hx]; exact iN_ti2 (by omega) (by omega)) (by omega))
        rw [va_up_self, va_up_up, cpy_off (by omega), cpy_step]
  refine z_iconst G (v := 0) dX10_moves_0 (by decide) ?_
  refine z_istore_n G dX10_moves_1 (Nat.le_of_ble_eq_true rfl) rfl ?_
  refine z_eq rfl rfl rfl ?_ rfl (loop 10 0 0 rfl rfl)
  rw [cpy_0, va_up_id]
set_option maxHeartbeats 1000000 in
set_option maxRecDepth 20000 in
theorem k_X10_copies {E : pmE} {d : Nat} {S : pmS} {I : pmI} {P : pmP} {R : Option Value → pmS → pmI → pmP → Prop} {a b f g n1 n2 : Nat} {fr to : Int32} (ho : AR S a 11 n1) (ho2 : AR S b 11 n2) (hab : a ≠ b) (hf : fr.toInt = (f : Int)) (hg : to.toInt = (g : Int)) (h1 : f + 124 ≤ n1) (h2 : g + 124 ≤ n2) (h3 : n1 < 100000 ∧ n2 < 100000) (h : R none S (va_up I b (va_cpy (I a) (I b) f g 124)) P) : pmX E d 0 0 yX10_copies [rr E a, .int fr, rr E b, .int to] S I P R := by
  refine pm_of (by decide) cd_X10_copies (by decide) (by decide) (Nat.le_of_ble_eq_true rfl) ?_
  intro C G hq
  have loop : ∀ (n j : Nat) (x : Int32), x.toInt = (j : Int) → j + n = 124 → pmZ E C 3 [some (rr E a), some (.int fr), some (rr E b), some (.int to), some (.int x)] [] S (va_up I b (va_cpy (I a) (I b) f g j)) P 0 0 := by
    intro n
    induction n with
    | zero =>
      intro j x hx hn
      refine z_iload G dX10_copies_3 rfl ?_
      refine z_bipush G (v := 124) dX10_copies_5 (by decide) ?_
      refine z_icmp_ge G 28 dX10_copies_7 (by decide) (fun b7 => ?_) (fun b7 => ?_)
      · exact z_vret G hq dX10_copies_28 (by rw [show j = 124 by omega]; exact h)
      · exact absurd (by simp only [ti_le, hx, Int32.reduceToInt]; omega) b7
    | succ n ih =>
      intro j x hx hn
      refine z_iload G dX10_copies_3 rfl ?_
      refine z_bipush G (v := 124) dX10_copies_5 (by decide) ?_
      refine z_icmp_ge G 28 dX10_copies_7 (by decide) (fun b7 => ?_) (fun b7 => ?_)
      · exact absurd b7 (by simp only [ti_le, hx, Int32.reduceToInt]; omega)
      · refine z_aload_n G dX10_copies_10 rfl ?_
        refine z_iload_n G dX10_copies_11 rfl ?_
        refine z_iload G dX10_copies_12 rfl ?_
        refine z_iadd G dX10_copies_14 ?_
        refine z_aload_n G dX10_copies_15 rfl ?_
        refine z_iload_n G dX10_copies_16 rfl ?_
        refine z_iload G dX10_copies_17 rfl ?_
        refine z_iadd G dX10_copies_19 ?_
        refine z_iald G (f + j) dX10_copies_20 (by assumption) (by simp (disch := omega) only [iN_lit, iN_add, iN_sub, iN_mul, iN_an, iN_of hf, iN_of hx]; exact iN_ti2 (by omega) (by omega)) (by omega) ?_
        refine z_iast G (g + j) dX10_copies_21 (by assumption) (by simp (disch := omega) only [iN_lit, iN_add, iN_sub, iN_mul, iN_an, iN_of hg, iN_of hx]; exact iN_ti2 (by omega) (by omega)) (by omega) ?_
        refine z_iinc G (v := 1) dX10_copies_22 (by decide) rfl rfl ?_
        refine z_goto G 3 dX10_copies_25 (by decide) ?_
        refine z_eq rfl rfl rfl ?_ rfl (ih (j + 1) _ (by simp (disch := omega) only [iN_lit, iN_add, iN_sub, iN_mul, iN_an, iN_of hx]; exact iN_ti2 (by omega) (by omega)) (by omega))
        rw [va_up_self, va_up_up, va_up_ne _ _ hab, cpy_step]
  refine z_iconst G (v := 0) dX10_copies_0 (by decide) ?_
  refine z_istore G dX10_copies_1 (Nat.le_of_ble_eq_true rfl) rfl ?_
  refine z_eq rfl rfl rfl ?_ rfl (loop 124 0 0 rfl rfl)
  rw [cpy_0, va_up_id]
set_option maxHeartbeats 1000000 in
set_option maxRecDepth 20000 in
theorem k_X10_visits {E : pmE} {d : Nat} {S : pmS} {I : pmI} {P : pmP} {R : Option Value → pmS → pmI → pmP → Prop} {a t s p : Nat} (ho : AR S a 11 124) (hn : Nw (I a) t s p) (h : R none S (va_up I a (visF (I a) p)) P) : pmX E (d + 2) 0 0 yX10_visits [rr E a] S I P R := by
  refine pm_of (by decide) cd_X10_visits (by decide) (by decide) (Nat.le_of_ble_eq_true rfl) ?_
  intro C G hq
  have hp8 := hn.2.2.2.2.2
  refine z_iconst G (v := 4) dX10_visits_0 (by decide) ?_
  refine z_iconst G (v := 5) dX10_visits_1 (by decide) ?_
  refine z_aload_n G dX10_visits_2 rfl ?_
  refine z_S G lk_X10_157 dX10_visits_3 [_] rfl rfl rfl (Nat.le_of_ble_eq_true rfl) ⟨Nat.le_refl _, Nat.le_refl _⟩ ?_
  refine k_X10_seen ho hn ?_
  refine z_imul G dX10_visits_6 ?_
  refine z_iadd G dX10_visits_7 ?_
  refine z_iconst G (v := 4) dX10_visits_8 (by decide) ?_
  refine z_iadd G dX10_visits_9 ?_
  refine z_istore_n G dX10_visits_10 (Nat.le_of_ble_eq_true rfl) rfl ?_
  refine z_aload_n G dX10_visits_11 rfl ?_
  refine z_iload_n G dX10_visits_12 rfl ?_
  refine z_dup2 G dX10_visits_13 rfl rfl ?_
  refine z_iald G (8 + 5 * p) dX10_visits_14 (by assumption) (by simp (disch := omega) only [iN_lit, iN_add, iN_sub, iN_mul, iN_an, iN_of (hn.2.2.2.2.1)]; exact iN_ti2 (by omega) (by omega)) (by have := hn.2.2.2.2.2; omega) ?_
  refine z_aload_n G dX10_visits_15 rfl ?_
  refine z_iload_n G dX10_visits_16 rfl ?_
  refine z_iald G (8 + 5 * p) dX10_visits_17 (by assumption) (by simp (disch := omega) only [iN_lit, iN_add, iN_sub, iN_mul, iN_an, iN_of (hn.2.2.2.2.1)]; exact iN_ti2 (by omega) (by omega)) (by have := hn.2.2.2.2.2; omega) ?_
  refine z_sipush G (v := 999) dX10_visits_18 (by decide) ?_
  refine z_icmp_ge G 28 dX10_visits_21 (by decide) (fun b21 => ?_) (fun b21 => ?_)
  · refine z_iconst G (v := 0) dX10_visits_28 (by decide) ?_
    refine z_iadd G dX10_visits_29 ?_
    refine z_iast G (8 + 5 * p) dX10_visits_30 (by assumption) (by simp (disch := omega) only [iN_lit, iN_add, iN_sub, iN_mul, iN_an, iN_of (hn.2.2.2.2.1)]; exact iN_ti2 (by omega) (by omega)) (by have := hn.2.2.2.2.2; omega) ?_
    exact z_vret G hq dX10_visits_31 (by simpa only [visF, if_neg (show ¬ I a (8 + 5 * p) < 999 by simp only [ti_lt, ti_le] at *; omega)] using h)
  · refine z_iconst G (v := 1) dX10_visits_24 (by decide) ?_
    refine z_goto G 29 dX10_visits_25 (by decide) ?_
    refine z_iadd G dX10_visits_29 ?_
    refine z_iast G (8 + 5 * p) dX10_visits_30 (by assumption) (by simp (disch := omega) only [iN_lit, iN_add, iN_sub, iN_mul, iN_an, iN_of (hn.2.2.2.2.1)]; exact iN_ti2 (by omega) (by omega)) (by have := hn.2.2.2.2.2; omega) ?_
    exact z_vret G hq dX10_visits_31 (by simpa only [visF, if_pos (show I a (8 + 5 * p) < 999 by simp only [ti_lt, ti_le] at *; omega)] using h)
set_option maxHeartbeats 1000000 in
set_option maxRecDepth 20000 in
theorem k_X10_mayFollow {E : pmE} {d : Nat} {S : pmS} {I : pmI} {P : pmP} {R : Option Value → pmS → pmI → pmP → Prop} {a t s p : Nat} {j : Int32} (ho : AR S a 11 124) (hn : Nw (I a) t s p) (h1 : j < I a (4 + 5 * p) ∧ (¬ I a (44 + 10 * t) = 3 ∨ I a 1 < 5) → R (some (.int 1)) S I P) (h0 : ¬ (j < I a (4 + 5 * p) ∧ (¬ I a (44 + 10 * t) = 3 ∨ I a 1 < 5)) → R (some (.int 0)) S I P) : pmX E (d + 2) 0 0 yX10_mayFollow [rr E a, .int j] S I P R := by
  refine pm_of (by decide) cd_X10_mayFollow (by decide) (by decide) (Nat.le_of_ble_eq_true rfl) ?_
  intro C G hq
  have hp8 := hn.2.2.2.2.2
  have ht5 := hn.2.1
  refine z_iload_n G dX10_mayFollow_0 rfl ?_
  refine z_aload_n G dX10_mayFollow_1 rfl ?_
  refine z_iconst G (v := 4) dX10_mayFollow_2 (by decide) ?_
  refine z_iconst G (v := 5) dX10_mayFollow_3 (by decide) ?_
  refine z_aload_n G dX10_mayFollow_4 rfl ?_
  refine z_S G lk_X10_157 dX10_mayFollow_5 [_] rfl rfl rfl (Nat.le_of_ble_eq_true rfl) ⟨Nat.le_refl _, Nat.le_refl _⟩ ?_
  refine k_X10_seen ho hn ?_
  refine z_imul G dX10_mayFollow_8 ?_
  refine z_iadd G dX10_mayFollow_9 ?_
  refine z_iald G (4 + 5 * p) dX10_mayFollow_10 (by assumption) (by simp (disch := omega) only [iN_lit, iN_add, iN_sub, iN_mul, iN_an, iN_of (hn.2.2.2.2.1)]; exact iN_ti2 (by omega) (by omega)) (by omega) ?_
  refine z_icmp_ge G 35 dX10_mayFollow_11 (by decide) (fun b11 => ?_) (fun b11 => ?_)
  · refine z_iconst G (v := 0) dX10_mayFollow_35 (by decide) ?_
    exact z_zret G hq dX10_mayFollow_36 rfl (h0 (fun q => by simp only [ti_lt, ti_le] at *; omega))
  · refine z_aload_n G dX10_mayFollow_14 rfl ?_
    refine z_aload_n G dX10_mayFollow_15 rfl ?_
    refine z_S G lk_X10_161 dX10_mayFollow_16 [_] rfl rfl rfl (Nat.le_of_ble_eq_true rfl) ⟨Nat.le_refl _, Nat.le_refl _⟩ ?_
    refine k_X10_tabNow ho hn.1 hn.2.1 (fun v hv => ?_)
    refine z_iald G (44 + 10 * t) dX10_mayFollow_19 (by assumption) (hv) (by omega) ?_
    refine z_iconst G (v := 3) dX10_mayFollow_20 (by decide) ?_
    refine z_icmp_ne G 31 dX10_mayFollow_21 (by decide) (fun b21 => ?_) (fun b21 => ?_)
    · refine z_iconst G (v := 1) dX10_mayFollow_31 (by decide) ?_
      refine z_goto G 36 dX10_mayFollow_32 (by decide) ?_
      exact z_zret G hq dX10_mayFollow_36 rfl (h1 ⟨by simp only [ti_lt, ti_le] at *; omega, Or.inl b21⟩)
    · refine z_aload_n G dX10_mayFollow_24 rfl ?_
      refine z_iconst G (v := 1) dX10_mayFollow_25 (by decide) ?_
      refine z_iald G (1) dX10_mayFollow_26 (by assumption) (rfl) (by omega) ?_
      refine z_iconst G (v := 5) dX10_mayFollow_27 (by decide) ?_
      refine z_icmp_ge G 35 dX10_mayFollow_28 (by decide) (fun b28 => ?_) (fun b28 => ?_)
      · refine z_iconst G (v := 0) dX10_mayFollow_35 (by decide) ?_
        exact z_zret G hq dX10_mayFollow_36 rfl (h0 (fun q => q.2.elim (fun z => z b21) (fun z => by simp only [ti_lt, ti_le] at *; omega)))
      · refine z_iconst G (v := 1) dX10_mayFollow_31 (by decide) ?_
        refine z_goto G 36 dX10_mayFollow_32 (by decide) ?_
        exact z_zret G hq dX10_mayFollow_36 rfl (h1 ⟨by simp only [ti_lt, ti_le] at *; omega, Or.inr (by simp only [ti_lt, ti_le] at *; omega)⟩)
set_option maxHeartbeats 1000000 in
set_option maxRecDepth 20000 in
theorem k_X10_mayGo {E : pmE} {d : Nat} {S : pmS} {I : pmI} {P : pmP} {R : Option Value → pmS → pmI → pmP → Prop} {a t : Nat} {way : Int32} (ho : AR S a 11 124) (ht : (I a 2).toInt = (t : Int)) (h5 : t < 5) (h1 : (¬ I a (44 + 10 * t) = 5 ∧ (if way = 0 then 0 < I a (47 + 10 * t) else I a (47 + 10 * t) + 1 < I a (46 + 10 * t))) → R (some (.int 1)) S I P) (h0 : ¬ (¬ I a (44 + 10 * t) = 5 ∧ (if way = 0 then 0 < I a (47 + 10 * t) else I a (47 + 10 * t) + 1 < I a (46 + 10 * t))) → R (some (.int 0)) S I P) : pmX E (d + 1) 0 0 yX10_mayGo [rr E a, .int way] S I P R := by
  refine pm_of (by decide) cd_X10_mayGo (by decide) (by decide) (Nat.le_of_ble_eq_true rfl) ?_
  intro C G hq
  refine z_aload_n G dX10_mayGo_0 rfl ?_
  refine z_S G lk_X10_161 dX10_mayGo_1 [_] rfl rfl rfl (Nat.le_of_ble_eq_true rfl) ⟨Nat.le_refl _, Nat.le_refl _⟩ ?_
  refine k_X10_tabNow ho ht h5 (fun v hv => ?_)
  refine z_istore_n G dX10_mayGo_4 (Nat.le_of_ble_eq_true rfl) rfl ?_
  refine z_aload_n G dX10_mayGo_5 rfl ?_
  refine z_iload_n G dX10_mayGo_6 rfl ?_
  refine z_iald G (44 + 10 * t) dX10_mayGo_7 (by assumption) (hv) (by omega) ?_
  refine z_iconst G (v := 5) dX10_mayGo_8 (by decide) ?_
  refine z_icmp_eq G 46 dX10_mayGo_9 (by decide) (fun b9 => ?_) (fun b9 => ?_)
  · refine z_iconst G (v := 0) dX10_mayGo_46 (by decide) ?_
    exact z_zret G hq dX10_mayGo_47 rfl (h0 (fun q => q.1 b9))
  · refine z_iload_n G dX10_mayGo_12 rfl ?_
    refine z_if_ne G 27 dX10_mayGo_13 (by decide) (fun b13 => ?_) (fun b13 => ?_)
    · refine z_aload_n G dX10_mayGo_27 rfl ?_
      refine z_iload_n G dX10_mayGo_28 rfl ?_
      refine z_iconst G (v := 3) dX10_mayGo_29 (by decide) ?_
      refine z_iadd G dX10_mayGo_30 ?_
      refine z_iald G (47 + 10 * t) dX10_mayGo_31 (by assumption) (by simp (disch := omega) only [iN_lit, iN_add, iN_sub, iN_mul, iN_an, iN_of hv]; exact iN_ti2 (by omega) (by omega)) (by omega) ?_
      refine z_iconst G (v := 1) dX10_mayGo_32 (by decide) ?_
      refine z_iadd G dX10_mayGo_33 ?_
      refine z_aload_n G dX10_mayGo_34 rfl ?_
      refine z_iload_n G dX10_mayGo_35 rfl ?_
      refine z_iconst G (v := 2) dX10_mayGo_36 (by decide) ?_
      refine z_iadd G dX10_mayGo_37 ?_
      refine z_iald G (46 + 10 * t) dX10_mayGo_38 (by assumption) (by simp (disch := omega) only [iN_lit, iN_add, iN_sub, iN_mul, iN_an, iN_of hv]; exact iN_ti2 (by omega) (by omega)) (by omega) ?_
      refine z_icmp_ge G 46 dX10_mayGo_39 (by decide) (fun b39 => ?_) (fun b39 => ?_)
      · refine z_iconst G (v := 0) dX10_mayGo_46 (by decide) ?_
        exact z_zret G hq dX10_mayGo_47 rfl (h0 (fun q => by rw [if_neg b13] at q; simp only [ti_lt, ti_le] at *; omega))
      · refine z_iconst G (v := 1) dX10_mayGo_42 (by decide) ?_
        refine z_goto G 47 dX10_mayGo_43 (by decide) ?_
        exact z_zret G hq dX10_mayGo_47 rfl (h1 ⟨b9, by rw [if_neg b13]; simp only [ti_lt, ti_le] at *; omega⟩)
    · refine z_aload_n G dX10_mayGo_16 rfl ?_
      refine z_iload_n G dX10_mayGo_17 rfl ?_
      refine z_iconst G (v := 3) dX10_mayGo_18 (by decide) ?_
      refine z_iadd G dX10_mayGo_19 ?_
      refine z_iald G (47 + 10 * t) dX10_mayGo_20 (by assumption) (by simp (disch := omega) only [iN_lit, iN_add, iN_sub, iN_mul, iN_an, iN_of hv]; exact iN_ti2 (by omega) (by omega)) (by omega) ?_
      refine z_if_le G 46 dX10_mayGo_21 (by decide) (fun b21 => ?_) (fun b21 => ?_)
      · refine z_iconst G (v := 0) dX10_mayGo_46 (by decide) ?_
        exact z_zret G hq dX10_mayGo_47 rfl (h0 (fun q => by rw [if_pos b13] at q; simp only [ti_lt, ti_le] at *; omega))
      · refine z_goto G 42 dX10_mayGo_24 (by decide) ?_
        refine z_iconst G (v := 1) dX10_mayGo_42 (by decide) ?_
        refine z_goto G 47 dX10_mayGo_43 (by decide) ?_
        exact z_zret G hq dX10_mayGo_47 rfl (h1 ⟨b9, by rw [if_pos b13]; simp only [ti_lt, ti_le] at *; omega⟩)
def goesF (w : Nat → Int32) (t : Nat) (way : Int32) : Nat → Int32 := va_up w (47 + 10 * t) (w (47 + 10 * t) + (if way = 0 then -1 else 1))
set_option maxHeartbeats 1000000 in
set_option maxRecDepth 20000 in
theorem k_X10_goes {E : pmE} {d : Nat} {S : pmS} {I : pmI} {P : pmP} {R : Option Value → pmS → pmI → pmP → Prop} {a t : Nat} {way : Int32} (ho : AR S a 11 124) (ht : (I a 2).toInt = (t : Int)) (h5 : t < 5) (h : R none S (va_up I a (goesF (I a) t way)) P) : pmX E (d + 1) 0 0 yX10_goes [rr E a, .int way] S I P R := by
  refine pm_of (by decide) cd_X10_goes (by decide) (by decide) (Nat.le_of_ble_eq_true rfl) ?_
  intro C G hq
  refine z_aload_n G dX10_goes_0 rfl ?_
  refine z_aload_n G dX10_goes_1 rfl ?_
  refine z_S G lk_X10_161 dX10_goes_2 [_] rfl rfl rfl (Nat.le_of_ble_eq_true rfl) ⟨Nat.le_refl _, Nat.le_refl _⟩ ?_
  refine k_X10_tabNow ho ht h5 (fun v hv => ?_)
  refine z_iconst G (v := 3) dX10_goes_5 (by decide) ?_
  refine z_iadd G dX10_goes_6 ?_
  refine z_dup2 G dX10_goes_7 rfl rfl ?_
  refine z_iald G (47 + 10 * t) dX10_goes_8 (by assumption) (by simp (disch := omega) only [iN_lit, iN_add, iN_sub, iN_mul, iN_an, iN_of hv]; exact iN_ti2 (by omega) (by omega)) (by omega) ?_
  refine z_iload_n G dX10_goes_9 rfl ?_
  refine z_if_ne G 17 dX10_goes_10 (by decide) (fun b10 => ?_) (fun b10 => ?_)
  · refine z_iconst G (v := 1) dX10_goes_17 (by decide) ?_
    refine z_iadd G dX10_goes_18 ?_
    refine z_iast G (47 + 10 * t) dX10_goes_19 (by assumption) (by simp (disch := omega) only [iN_lit, iN_add, iN_sub, iN_mul, iN_an, iN_of hv]; exact iN_ti2 (by omega) (by omega)) (by omega) ?_
    exact z_vret G hq dX10_goes_20 (by simpa only [goesF, if_neg b10] using h)
  · refine z_iconst G (v := -1) dX10_goes_13 (by decide) ?_
    refine z_goto G 18 dX10_goes_14 (by decide) ?_
    refine z_iadd G dX10_goes_18 ?_
    refine z_iast G (47 + 10 * t) dX10_goes_19 (by assumption) (by simp (disch := omega) only [iN_lit, iN_add, iN_sub, iN_mul, iN_an, iN_of hv]; exact iN_ti2 (by omega) (by omega)) (by omega) ?_
    exact z_vret G hq dX10_goes_20 (by simpa only [goesF, if_pos b10] using h)
set_option maxHeartbeats 1000000 in
set_option maxRecDepth 20000 in
theorem k_X10_comes {E : pmE} {d : Nat} {S : pmS} {I : pmI} {P : pmP} {R : Option Value → pmS → pmI → pmP → Prop} {a t s : Nat} {page : Int32} (ho : AR S a 11 124) (ht : (I a 2).toInt = (t : Int)) (h5 : t < 5) (hs : (I a (47 + 10 * t)).toInt = (s : Int)) (h6 : s < 6) (h : R none S (va_up I a (comesF (I a) t s page)) P) : pmX E (d + 1) 0 0 yX10_comes [rr E a, .int page] S I P R := by
  refine pm_of (by decide) cd_X10_comes (by decide) (by decide) (Nat.le_of_ble_eq_true rfl) ?_
  intro C G hq
  have three : ∀ (k most : Int32) (M : Nat), k.toInt = ((44 + 10 * t : Nat) : Int) → most.toInt = (M : Int) → M ≤ 6 → (if I a (44 + 10 * t) = 2 ∨ I a (44 + 10 * t) = 5 then 3 else 6) = M → pmZ E C 35 [some (rr E a), some (.int page), some (.int k), some (.int (iN (s + 2))), some (.int most), none] [] S I P 0 0 := by
    intro k most M hk hm hM6 hM
    have loop : ∀ (n j : Nat) (x : Int32), x.toInt = (j : Int) → j + n = s → s + 2 > M → ¬ I a (44 + 10 * t) = 5 → pmZ E C 71 [some (rr E a), some (.int page), some (.int k), some (.int (iN (s + 2))), some (.int most), some (.int x)] [] S (va_up I a (va_cpy (I a) (I a) (49 + 10 * t) (48 + 10 * t) j)) P 0 0 := by
      intro n
      induction n with
      | zero =>
        intro j x hx hn hgt hne
        refine z_iload G dX10_comes_71 rfl ?_
        refine z_iconst G (v := 1) dX10_comes_73 (by decide) ?_
        refine z_iadd G dX10_comes_74 ?_
        refine z_iload_n G dX10_comes_75 rfl ?_
        refine z_iconst G (v := 1) dX10_comes_76 (by decide) ?_
        refine z_isub G dX10_comes_77 ?_
        refine z_icmp_ge G 105 dX10_comes_78 (by decide) (fun b78 => ?_) (fun b78 => ?_)
        · refine z_iinc G (v := -1) dX10_comes_105 (by decide) rfl rfl ?_
          refine z_aload_n G dX10_comes_108 rfl ?_
          refine z_iload_n G dX10_comes_109 rfl ?_
          refine z_iconst G (v := 4) dX10_comes_110 (by decide) ?_
          refine z_iadd G dX10_comes_111 ?_
          refine z_iload_n G dX10_comes_112 rfl ?_
          refine z_iadd G dX10_comes_113 ?_
          refine z_iconst G (v := 1) dX10_comes_114 (by decide) ?_
          refine z_isub G dX10_comes_115 ?_
          refine z_iload_n G dX10_comes_116 rfl ?_
          refine z_iast G (48 + 10 * t + s) dX10_comes_117 (by assumption) (by simp (disch := omega) only [iN_lit, iN_add, iN_sub, iN_mul, iN_an, iN_of hk]; exact iN_ti2 (by omega) (by omega)) (by omega) ?_
          refine z_aload_n G dX10_comes_118 rfl ?_
          refine z_iload_n G dX10_comes_119 rfl ?_
          refine z_iconst G (v := 3) dX10_comes_120 (by decide) ?_
          refine z_iadd G dX10_comes_121 ?_
          refine z_iload_n G dX10_comes_122 rfl ?_
          refine z_iconst G (v := 1) dX10_comes_123 (by decide) ?_
          refine z_isub G dX10_comes_124 ?_
          refine z_top (y := iN s) (by simp (disch := omega) only [iN_lit, iN_add, iN_sub, iN_mul, iN_an] <;> exact congrArg iN (by omega)) ?_
          refine z_iast G (47 + 10 * t) dX10_comes_125 (by assumption) (by simp (disch := omega) only [iN_lit, iN_add, iN_sub, iN_mul, iN_an, iN_of hk]; exact iN_ti2 (by omega) (by omega)) (by omega) ?_
          refine z_aload_n G dX10_comes_126 rfl ?_
          refine z_iload_n G dX10_comes_127 rfl ?_
          refine z_iconst G (v := 2) dX10_comes_128 (by decide) ?_
          refine z_iadd G dX10_comes_129 ?_
          refine z_iload_n G dX10_comes_130 rfl ?_
          refine z_top (y := iN (s + 1)) (by simp (disch := omega) only [iN_lit, iN_add, iN_sub, iN_mul, iN_an] <;> exact congrArg iN (by omega)) ?_
          refine z_iast G (46 + 10 * t) dX10_comes_131 (by assumption) (by simp (disch := omega) only [iN_lit, iN_add, iN_sub, iN_mul, iN_an, iN_of hk]; exact iN_ti2 (by omega) (by omega)) (by omega) ?_
          exact z_vret G hq dX10_comes_132 (by rw [show j = s by omega]; simpa only [comesF, hM, if_pos hgt, if_neg hne, va_up_self, va_up_up] using h)
        · exact absurd (by simp (disch := omega) only [iN_lit, iN_add, iN_sub, iN_mul, iN_an, iN_le, iN_lt, iN_eq, iN_of hx]; omega) b78
      | succ n ih =>
        intro j x hx hn hgt hne
        refine z_iload G dX10_comes_71 rfl ?_
        refine z_iconst G (v := 1) dX10_comes_73 (by decide) ?_
        refine z_iadd G dX10_comes_74 ?_
        refine z_iload_n G dX10_comes_75 rfl ?_
        refine z_iconst G (v := 1) dX10_comes_76 (by decide) ?_
        refine z_isub G dX10_comes_77 ?_
        refine z_icmp_ge G 105 dX10_comes_78 (by decide) (fun b78 => ?_) (fun b78 => ?_)
        · exact absurd b78 (by simp (disch := omega) only [iN_lit, iN_add, iN_sub, iN_mul, iN_an, iN_le, iN_lt, iN_eq, iN_of hx]; omega)
        · refine z_aload_n G dX10_comes_81 rfl ?_
          refine z_iload_n G dX10_comes_82 rfl ?_
          refine z_iconst G (v := 4) dX10_comes_83 (by decide) ?_
          refine z_iadd G dX10_comes_84 ?_
          refine z_iload G dX10_comes_85 rfl ?_
          refine z_iadd G dX10_comes_87 ?_
          refine z_aload_n G dX10_comes_88 rfl ?_
          refine z_iload_n G dX10_comes_89 rfl ?_
          refine z_iconst G (v := 4) dX10_comes_90 (by decide) ?_
          refine z_iadd G dX10_comes_91 ?_
          refine z_iload G dX10_comes_92 rfl ?_
          refine z_iadd G dX10_comes_94 ?_
          refine z_iconst G (v := 1) dX10_comes_95 (by decide) ?_
          refine z_iadd G dX10_comes_96 ?_
          refine z_iald G (49 + 10 * t + j) dX10_comes_97 (by assumption) (by simp (disch := omega) only [iN_lit, iN_add, iN_sub, iN_mul, iN_an, iN_of hk, iN_of hx]; exact iN_ti2 (by omega) (by omega)) (by omega) ?_
          refine z_iast G (48 + 10 * t + j) dX10_comes_98 (by assumption) (by simp (disch := omega) only [iN_lit, iN_add, iN_sub, iN_mul, iN_an, iN_of hk, iN_of hx]; exact iN_ti2 (by omega) (by omega)) (by omega) ?_
          refine z_iinc G (v := 1) dX10_comes_99 (by decide) rfl rfl ?_
          refine z_goto G 71 dX10_comes_102 (by decide) ?_
          refine z_eq rfl rfl rfl ?_ rfl (ih (j + 1) _ (by simp (disch := omega) only [iN_lit, iN_add, iN_sub, iN_mul, iN_an, iN_of hx]; exact iN_ti2 (by omega) (by omega)) (by omega) hgt hne)
          rw [va_up_self, va_up_up, cpy_off (by omega), cpy_step]
    refine z_iload_n G dX10_comes_35 rfl ?_
    refine z_iload G dX10_comes_36 rfl ?_
    refine z_icmp_le G 62 dX10_comes_38 (by decide) (fun b38 => ?_) (fun b38 => ?_)
    · refine z_iload_n G dX10_comes_62 rfl ?_
      refine z_iload G dX10_comes_63 rfl ?_
      refine z_icmp_le G 108 dX10_comes_65 (by decide) (fun b65 => ?_) (fun b65 => ?_)
      · have hle : ¬ s + 2 > M := by simp (disch := omega) only [iN_lit, iN_add, iN_sub, iN_mul, iN_an, iN_le, iN_lt, iN_eq, iN_of hm] at b38; omega
        refine z_aload_n G dX10_comes_108 rfl ?_
        refine z_iload_n G dX10_comes_109 rfl ?_
        refine z_iconst G (v := 4) dX10_comes_110 (by decide) ?_
        refine z_iadd G dX10_comes_111 ?_
        refine z_iload_n G dX10_comes_112 rfl ?_
        refine z_iadd G dX10_comes_113 ?_
        refine z_iconst G (v := 1) dX10_comes_114 (by decide) ?_
        refine z_isub G dX10_comes_115 ?_
        refine z_iload_n G dX10_comes_116 rfl ?_
        refine z_iast G (49 + 10 * t + s) dX10_comes_117 (by assumption) (by simp (disch := omega) only [iN_lit, iN_add, iN_sub, iN_mul, iN_an, iN_of hk]; exact iN_ti2 (by omega) (by omega)) (by omega) ?_
        refine z_aload_n G dX10_comes_118 rfl ?_
        refine z_iload_n G dX10_comes_119 rfl ?_
        refine z_iconst G (v := 3) dX10_comes_120 (by decide) ?_
        refine z_iadd G dX10_comes_121 ?_
        refine z_iload_n G dX10_comes_122 rfl ?_
        refine z_iconst G (v := 1) dX10_comes_123 (by decide) ?_
        refine z_isub G dX10_comes_124 ?_
        refine z_top (y := iN (s + 1)) (by simp (disch := omega) only [iN_lit, iN_add, iN_sub, iN_mul, iN_an] <;> exact congrArg iN (by omega)) ?_
        refine z_iast G (47 + 10 * t) dX10_comes_125 (by assumption) (by simp (disch := omega) only [iN_lit, iN_add, iN_sub, iN_mul, iN_an, iN_of hk]; exact iN_ti2 (by omega) (by omega)) (by omega) ?_
        refine z_aload_n G dX10_comes_126 rfl ?_
        refine z_iload_n G dX10_comes_127 rfl ?_
        refine z_iconst G (v := 2) dX10_comes_128 (by decide) ?_
        refine z_iadd G dX10_comes_129 ?_
        refine z_iload_n G dX10_comes_130 rfl ?_
        refine z_iast G (46 + 10 * t) dX10_comes_131 (by assumption) (by simp (disch := omega) only [iN_lit, iN_add, iN_sub, iN_mul, iN_an, iN_of hk]; exact iN_ti2 (by omega) (by omega)) (by omega) ?_
        exact z_vret G hq dX10_comes_132 (by simpa only [comesF, hM, if_neg hle, va_up_self, va_up_up] using h)
      · exact absurd b38 b65
    · refine z_aload_n G dX10_comes_41 rfl ?_
      refine z_iload_n G dX10_comes_42 rfl ?_
      refine z_iald G (44 + 10 * t) dX10_comes_43 (by assumption) (hk) (by omega) ?_
      refine z_iconst G (v := 5) dX10_comes_44 (by decide) ?_
      refine z_icmp_ne G 62 dX10_comes_45 (by decide) (fun b45 => ?_) (fun b45 => ?_)
      · refine z_iload_n G dX10_comes_62 rfl ?_
        refine z_iload G dX10_comes_63 rfl ?_
        refine z_icmp_le G 108 dX10_comes_65 (by decide) (fun b65 => ?_) (fun b65 => ?_)
        · exact absurd b65 b38
        · refine z_iconst G (v := 0) dX10_comes_68 (by decide) ?_
          refine z_istore G dX10_comes_69 (Nat.le_of_ble_eq_true rfl) rfl ?_
          have hgt : s + 2 > M := by simp (disch := omega) only [iN_lit, iN_add, iN_sub, iN_mul, iN_an, iN_le, iN_lt, iN_eq, iN_of hm] at b38; omega
          refine z_eq rfl rfl rfl ?_ rfl (loop s 0 0 rfl (by omega) hgt b45)
          rw [cpy_0, va_up_id]
      · refine z_aload_n G dX10_comes_48 rfl ?_
        refine z_iload_n G dX10_comes_49 rfl ?_
        refine z_iconst G (v := 5) dX10_comes_50 (by decide) ?_
        refine z_aload_n G dX10_comes_51 rfl ?_
        refine z_iload_n G dX10_comes_52 rfl ?_
        refine z_iconst G (v := 1) dX10_comes_53 (by decide) ?_
        refine z_iadd G dX10_comes_54 ?_
        refine z_iald G (45 + 10 * t) dX10_comes_55 (by assumption) (by simp (disch := omega) only [iN_lit, iN_add, iN_sub, iN_mul, iN_an, iN_of hk]; exact iN_ti2 (by omega) (by omega)) (by omega) ?_
        refine z_S G lk_X10_130 dX10_comes_56 [_, _, _, _] rfl rfl rfl (Nat.le_of_ble_eq_true rfl) ⟨Nat.le_refl _, Nat.le_refl _⟩ ?_
        refine k_X10_fresh ho hk (by omega) ?_
        refine z_goto G 132 dX10_comes_59 (by decide) ?_
        exact z_vret G hq dX10_comes_132 (by have hgt : s + 2 > M := (by simp (disch := omega) only [iN_lit, iN_add, iN_sub, iN_mul, iN_an, iN_le, iN_lt, iN_eq, iN_of hm] at b38; omega); simpa only [comesF, hM, if_pos hgt, if_pos b45] using h)
  refine z_aload_n G dX10_comes_0 rfl ?_
  refine z_S G lk_X10_161 dX10_comes_1 [_] rfl rfl rfl (Nat.le_of_ble_eq_true rfl) ⟨Nat.le_refl _, Nat.le_refl _⟩ ?_
  refine k_X10_tabNow ho ht h5 (fun k hk => ?_)
  refine z_istore_n G dX10_comes_4 (Nat.le_of_ble_eq_true rfl) rfl ?_
  refine z_aload_n G dX10_comes_5 rfl ?_
  refine z_iload_n G dX10_comes_6 rfl ?_
  refine z_iconst G (v := 3) dX10_comes_7 (by decide) ?_
  refine z_iadd G dX10_comes_8 ?_
  refine z_iald G (47 + 10 * t) dX10_comes_9 (by assumption) (by simp (disch := omega) only [iN_lit, iN_add, iN_sub, iN_mul, iN_an, iN_of hk]; exact iN_ti2 (by omega) (by omega)) (by omega) ?_
  refine z_iconst G (v := 2) dX10_comes_10 (by decide) ?_
  refine z_iadd G dX10_comes_11 ?_
  refine z_top (y := iN (s + 2)) (by simp (disch := omega) only [iN_lit, iN_add, iN_sub, iN_mul, iN_an, iN_of hs] <;> exact congrArg iN (by omega)) ?_
  refine z_istore_n G dX10_comes_12 (Nat.le_of_ble_eq_true rfl) rfl ?_
  refine z_aload_n G dX10_comes_13 rfl ?_
  refine z_iload_n G dX10_comes_14 rfl ?_
  refine z_iald G (44 + 10 * t) dX10_comes_15 (by assumption) (hk) (by omega) ?_
  refine z_iconst G (v := 2) dX10_comes_16 (by decide) ?_
  refine z_icmp_eq G 27 dX10_comes_17 (by decide) (fun b17 => ?_) (fun b17 => ?_)
  · refine z_iconst G (v := 3) dX10_comes_27 (by decide) ?_
    refine z_goto G 33 dX10_comes_28 (by decide) ?_
    refine z_istore G dX10_comes_33 (Nat.le_of_ble_eq_true rfl) rfl ?_
    exact three k 3 3 hk rfl (by omega) (by simp [b17])
  · refine z_aload_n G dX10_comes_20 rfl ?_
    refine z_iload_n G dX10_comes_21 rfl ?_
    refine z_iald G (44 + 10 * t) dX10_comes_22 (by assumption) (hk) (by omega) ?_
    refine z_iconst G (v := 5) dX10_comes_23 (by decide) ?_
    refine z_icmp_ne G 31 dX10_comes_24 (by decide) (fun b24 => ?_) (fun b24 => ?_)
    · refine z_bipush G (v := 6) dX10_comes_31 (by decide) ?_
      refine z_istore G dX10_comes_33 (Nat.le_of_ble_eq_true rfl) rfl ?_
      exact three k 6 6 hk rfl (by omega) (by simp [b17, b24])
    · refine z_iconst G (v := 3) dX10_comes_27 (by decide) ?_
      refine z_goto G 33 dX10_comes_28 (by decide) ?_
      refine z_istore G dX10_comes_33 (Nat.le_of_ble_eq_true rfl) rfl ?_
      exact three k 3 3 hk rfl (by omega) (by simp [b24])
set_option maxHeartbeats 1000000 in
set_option maxRecDepth 20000 in
theorem k_X10_inserts {E : pmE} {d : Nat} {S : pmS} {I : pmI} {P : pmP} {R : Option Value → pmS → pmI → pmP → Prop} {a n q : Nat} {place page : Int32} (ho : AR S a 11 124) (hn : (I a 1).toInt = (n : Int)) (h5 : n < 5) (hq0 : place.toInt = (q : Int)) (hqn : q ≤ n) (h : R none S (va_up I a (insF (I a) n q place page)) P) : pmX E (d + 1) 0 0 yX10_inserts [rr E a, .int place, .int page] S I P R := by
  refine pm_of (by decide) cd_X10_inserts (by decide) (by decide) (Nat.le_of_ble_eq_true rfl) ?_
  intro C G hq
  have loop : ∀ (r c : Nat) (x : Int32), x.toInt = (c : Int) → q + r = c → c ≤ n → pmZ E C 4 [some (rr E a), some (.int place), some (.int page), some (.int x)] [] S (va_up I a (va_cpy (I a) (I a) (44 + 10 * c) (54 + 10 * c) (10 * (n - c)))) P 0 0 := by
    intro r
    induction r with
    | zero =>
      intro c x hx hr hc
      refine z_iload_n G dX10_inserts_4 rfl ?_
      refine z_iload_n G dX10_inserts_5 rfl ?_
      refine z_icmp_le G 35 dX10_inserts_6 (by decide) (fun b6 => ?_) (fun b6 => ?_)
      · refine z_aload_n G dX10_inserts_35 rfl ?_
        refine z_bipush G (v := 44) dX10_inserts_36 (by decide) ?_
        refine z_bipush G (v := 10) dX10_inserts_38 (by decide) ?_
        refine z_iload_n G dX10_inserts_40 rfl ?_
        refine z_imul G dX10_inserts_41 ?_
        refine z_iadd G dX10_inserts_42 ?_
        refine z_iconst G (v := 1) dX10_inserts_43 (by decide) ?_
        refine z_iload_n G dX10_inserts_44 rfl ?_
        refine z_S G lk_X10_130 dX10_inserts_45 [_, _, _, _] rfl rfl rfl (Nat.le_of_ble_eq_true rfl) ⟨Nat.le_refl _, Nat.le_refl _⟩ ?_
        refine k_X10_fresh ho (k := 44 + 10 * q) (by simp (disch := omega) only [iN_lit, iN_add, iN_sub, iN_mul, iN_an, iN_of hq0]; exact iN_ti2 (by omega) (by omega)) (by omega) ?_
        refine z_I (I' := va_up I a (freshF (va_cpy (I a) (I a) (44 + 10 * q) (54 + 10 * q) (10 * (n - q))) (44 + 10 * q) 1 page)) (by rw [va_up_up, va_up_self, show c = q by omega]) ?_
        refine z_aload_n G dX10_inserts_48 rfl ?_
        refine z_iconst G (v := 1) dX10_inserts_49 (by decide) ?_
        refine z_dup2 G dX10_inserts_50 rfl rfl ?_
        refine z_iald G (1) dX10_inserts_51 (by assumption) (rfl) (by omega) ?_
        refine z_iconst G (v := 1) dX10_inserts_52 (by decide) ?_
        refine z_iadd G dX10_inserts_53 ?_
        refine z_top (y := I a 1 + 1) (by rw [va_up_self, freshF_off (by omega), cpy_off (by omega)]) ?_
        refine z_iast G (1) dX10_inserts_54 (by assumption) (rfl) (by omega) ?_
        refine z_aload_n G dX10_inserts_55 rfl ?_
        refine z_iconst G (v := 2) dX10_inserts_56 (by decide) ?_
        refine z_iload_n G dX10_inserts_57 rfl ?_
        refine z_iast G (2) dX10_inserts_58 (by assumption) (rfl) (by omega) ?_
        exact z_vret G hq dX10_inserts_59 (by simpa only [insF, va_up_self, va_up_up] using h)
      · exact absurd (by simp only [ti_le, hx, hq0]; omega) b6
    | succ r ih =>
      intro c x hx hr hc
      obtain ⟨c, rfl⟩ : ∃ e, c = e + 1 := ⟨c - 1, by omega⟩
      refine z_iload_n G dX10_inserts_4 rfl ?_
      refine z_iload_n G dX10_inserts_5 rfl ?_
      refine z_icmp_le G 35 dX10_inserts_6 (by decide) (fun b6 => ?_) (fun b6 => ?_)
      · exact absurd b6 (by simp only [ti_le, hx, hq0]; omega)
      · refine z_aload_n G dX10_inserts_9 rfl ?_
        refine z_bipush G (v := 44) dX10_inserts_10 (by decide) ?_
        refine z_bipush G (v := 10) dX10_inserts_12 (by decide) ?_
        refine z_iload_n G dX10_inserts_14 rfl ?_
        refine z_iconst G (v := 1) dX10_inserts_15 (by decide) ?_
        refine z_isub G dX10_inserts_16 ?_
        refine z_imul G dX10_inserts_17 ?_
        refine z_iadd G dX10_inserts_18 ?_
        refine z_bipush G (v := 44) dX10_inserts_19 (by decide) ?_
        refine z_bipush G (v := 10) dX10_inserts_21 (by decide) ?_
        refine z_iload_n G dX10_inserts_23 rfl ?_
        refine z_imul G dX10_inserts_24 ?_
        refine z_iadd G dX10_inserts_25 ?_
        refine z_S G lk_X10_164 dX10_inserts_26 [_, _, _] rfl rfl rfl (Nat.le_of_ble_eq_true rfl) ⟨Nat.le_refl _, Nat.le_refl _⟩ ?_
        refine k_X10_moves ho (f := 44 + 10 * c) (g := 44 + 10 * (c + 1)) (by simp (disch := omega) only [iN_lit, iN_add, iN_sub, iN_mul, iN_an, iN_of hx]; exact iN_ti2 (by omega) (by omega)) (by simp (disch := omega) only [iN_lit, iN_add, iN_sub, iN_mul, iN_an, iN_of hx]; exact iN_ti2 (by omega) (by omega)) (by omega) (by omega) (by omega) ?_
        refine z_iinc G (v := -1) dX10_inserts_29 (by decide) rfl rfl ?_
        refine z_goto G 4 dX10_inserts_32 (by decide) ?_
        refine z_eq rfl rfl rfl ?_ rfl (ih c _ (by simp (disch := omega) only [iN_lit, iN_add, iN_sub, iN_mul, iN_an, iN_of hx]; exact iN_ti2 (by omega) (by omega)) (by omega) (by omega))
        rw [va_up_up, va_up_self, ins_step (by omega)]
  refine z_aload_n G dX10_inserts_0 rfl ?_
  refine z_iconst G (v := 1) dX10_inserts_1 (by decide) ?_
  refine z_iald G (1) dX10_inserts_2 (by assumption) (rfl) (by omega) ?_
  refine z_istore_n G dX10_inserts_3 (Nat.le_of_ble_eq_true rfl) rfl ?_
  refine z_eq rfl rfl rfl ?_ rfl (loop (n - q) n _ hn (by omega) (Nat.le_refl _))
  rw [Nat.sub_self, Nat.mul_zero, cpy_0, va_up_id]
end
section
set_option maxHeartbeats 1000000 in
set_option maxRecDepth 20000 in
theorem k_X10_closes {E : pmE} {d : Nat} {S : pmS} {I : pmI} {P : pmP} {R : Option Value → pmS → pmI → pmP → Prop} {a T t c : Nat} (ho : AR S a 11 124) (hT : (I a 1).toInt = (T : Int)) (hT5 : T ≤ 5) (hT2 : 2 ≤ T) (ht : (I a 2).toInt = (t : Int)) (htT : t < T) (hc : (I a 3).toInt = (c : Int)) (hc3 : c ≤ 3) (h : R none S (va_up I a (closesF (I a) T t c)) P) : pmX E (d + 1) 0 0 yX10_closes [rr E a] S I P R := by
  refine pm_of (by decide) cd_X10_closes (by decide) (by decide) (Nat.le_of_ble_eq_true rfl) ?_
  intro C G hq
  have tail : ∀ u : Nat → Int32, keepF (I a) t c = u → (u 1).toInt = (T : Int) → (u 2).toInt = (t : Int) → pmZ E C 64 [some (rr E a), none] [] S (va_up I a u) P 0 0 := by
    intro u hu hu1 hu2
    have loop : ∀ (r k : Nat) (x : Int32), x.toInt = (k : Int) → t ≤ k → k + r = T - 1 → pmZ E C 75 [some (rr E a), some (.int x)] [] S (va_up I a (va_cpy (va_up u 1 (iN (T - 1))) (va_up u 1 (iN (T - 1))) (54 + 10 * t) (44 + 10 * t) (10 * (k - t)))) P 0 0 := by
      intro r
      have e1 : ∀ n, va_cpy (va_up u 1 (iN (T - 1))) (va_up u 1 (iN (T - 1))) (54 + 10 * t) (44 + 10 * t) n 1 = iN (T - 1) := fun n => by rw [cpy_off (by omega), va_up_self]
      have e2 : ∀ n, va_cpy (va_up u 1 (iN (T - 1))) (va_up u 1 (iN (T - 1))) (54 + 10 * t) (44 + 10 * t) n 2 = iN t := fun n => by rw [cpy_off (by omega), va_up_ne _ _ (by omega), iN_of hu2]
      induction r with
      | zero =>
        intro k x hx hk hr
        refine z_iload_n G dX10_closes_75 rfl ?_
        refine z_aload_n G dX10_closes_76 rfl ?_
        refine z_iconst G (v := 1) dX10_closes_77 (by decide) ?_
        refine z_iald G (1) dX10_closes_78 (by assumption) (rfl) (by omega) ?_
        rw [va_up_self, e1]
        refine z_icmp_ge G 108 dX10_closes_79 (by decide) (fun b79 => ?_) (fun b79 => ?_)
        · refine z_aload_n G dX10_closes_108 rfl ?_
          refine z_iconst G (v := 2) dX10_closes_109 (by decide) ?_
          refine z_aload_n G dX10_closes_110 rfl ?_
          refine z_iconst G (v := 2) dX10_closes_111 (by decide) ?_
          refine z_iald G (2) dX10_closes_112 (by assumption) (rfl) (by omega) ?_
          rw [va_up_self, e2]
          refine z_aload_n G dX10_closes_113 rfl ?_
          refine z_iconst G (v := 1) dX10_closes_114 (by decide) ?_
          refine z_iald G (1) dX10_closes_115 (by assumption) (rfl) (by omega) ?_
          rw [va_up_self, e1]
          refine z_icmp_ge G 125 dX10_closes_116 (by decide) (fun b116 => ?_) (fun b116 => ?_)
          · refine z_aload_n G dX10_closes_125 rfl ?_
            refine z_iconst G (v := 1) dX10_closes_126 (by decide) ?_
            refine z_iald G (1) dX10_closes_127 (by assumption) (rfl) (by omega) ?_
            rw [va_up_self, e1]
            refine z_iconst G (v := 1) dX10_closes_128 (by decide) ?_
            refine z_isub G dX10_closes_129 ?_
            refine z_top (y := iN (T - 2)) (by simp (disch := omega) only [iN_lit, iN_add, iN_sub, iN_mul, iN_an] <;> exact congrArg iN (by omega)) ?_
            refine z_iast G (2) dX10_closes_130 (by assumption) (rfl) (by omega) ?_
            exact z_vret G hq dX10_closes_131 (by have hge : ¬ t < T - 1 := (by simp (disch := omega) only [iN_lit, iN_add, iN_sub, iN_mul, iN_an, iN_le, iN_lt, iN_eq] at b116; omega); rw [show k = T - 1 by omega]; simpa only [closesF, hu, if_neg hge, va_up_self, va_up_up] using h)
          · refine z_aload_n G dX10_closes_119 rfl ?_
            refine z_iconst G (v := 2) dX10_closes_120 (by decide) ?_
            refine z_iald G (2) dX10_closes_121 (by assumption) (rfl) (by omega) ?_
            rw [va_up_self, e2]
            refine z_goto G 130 dX10_closes_122 (by decide) ?_
            refine z_iast G (2) dX10_closes_130 (by assumption) (rfl) (by omega) ?_
            exact z_vret G hq dX10_closes_131 (by have hlt : t < T - 1 := (by simp (disch := omega) only [iN_lit, iN_add, iN_sub, iN_mul, iN_an, iN_le, iN_lt, iN_eq] at b116; omega); rw [show k = T - 1 by omega]; simpa only [closesF, hu, if_pos hlt, va_up_self, va_up_up] using h)
        · exact absurd (by simp (disch := omega) only [iN_lit, iN_add, iN_sub, iN_mul, iN_an, iN_le, iN_lt, iN_eq, iN_of hx]; omega) b79
      | succ r ih =>
        intro k x hx hk hr
        refine z_iload_n G dX10_closes_75 rfl ?_
        refine z_aload_n G dX10_closes_76 rfl ?_
        refine z_iconst G (v := 1) dX10_closes_77 (by decide) ?_
        refine z_iald G (1) dX10_closes_78 (by assumption) (rfl) (by omega) ?_
        rw [va_up_self, e1]
        refine z_icmp_ge G 108 dX10_closes_79 (by decide) (fun b79 => ?_) (fun b79 => ?_)
        · exact absurd b79 (by simp (disch := omega) only [iN_lit, iN_add, iN_sub, iN_mul, iN_an, iN_le, iN_lt, iN_eq, iN_of hx]; omega)
        · refine z_aload_n G dX10_closes_82 rfl ?_
          refine z_bipush G (v := 44) dX10_closes_83 (by decide) ?_
          refine z_bipush G (v := 10) dX10_closes_85 (by decide) ?_
          refine z_iload_n G dX10_closes_87 rfl ?_
          refine z_iconst G (v := 1) dX10_closes_88 (by decide) ?_
          refine z_iadd G dX10_closes_89 ?_
          refine z_imul G dX10_closes_90 ?_
          refine z_iadd G dX10_closes_91 ?_
          refine z_bipush G (v := 44) dX10_closes_92 (by decide) ?_
          refine z_bipush G (v := 10) dX10_closes_94 (by decide) ?_
          refine z_iload_n G dX10_closes_96 rfl ?_
          refine z_imul G dX10_closes_97 ?_
          refine z_iadd G dX10_closes_98 ?_
          refine z_S G lk_X10_164 dX10_closes_99 [_, _, _] rfl rfl rfl (Nat.le_of_ble_eq_true rfl) ⟨Nat.le_refl _, Nat.le_refl _⟩ ?_
          refine k_X10_moves ho (f := 44 + 10 * (k + 1)) (g := 44 + 10 * k) (by simp (disch := omega) only [iN_lit, iN_add, iN_sub, iN_mul, iN_an, iN_of hx]; exact iN_ti2 (by omega) (by omega)) (by simp (disch := omega) only [iN_lit, iN_add, iN_sub, iN_mul, iN_an, iN_of hx]; exact iN_ti2 (by omega) (by omega)) (by omega) (by omega) (by omega) ?_
          refine z_iinc G (v := 1) dX10_closes_102 (by decide) rfl rfl ?_
          refine z_goto G 75 dX10_closes_105 (by decide) ?_
          refine z_eq rfl rfl rfl ?_ rfl (ih (k + 1) _ (by simp (disch := omega) only [iN_lit, iN_add, iN_sub, iN_mul, iN_an, iN_of hx]; exact iN_ti2 (by omega) (by omega)) (by omega) (by omega))
          rw [va_up_up, va_up_self, cls_step hk]
    refine z_aload_n G dX10_closes_64 rfl ?_
    refine z_iconst G (v := 1) dX10_closes_65 (by decide) ?_
    refine z_dup2 G dX10_closes_66 rfl rfl ?_
    refine z_iald G (1) dX10_closes_67 (by assumption) (rfl) (by omega) ?_
    rw [va_up_self]
    refine z_iconst G (v := 1) dX10_closes_68 (by decide) ?_
    refine z_isub G dX10_closes_69 ?_
    refine z_top (y := iN (T - 1)) (by simp (disch := omega) only [iN_lit, iN_add, iN_sub, iN_mul, iN_an, iN_of hu1] <;> exact congrArg iN (by omega)) ?_
    refine z_iast G (1) dX10_closes_70 (by assumption) (rfl) (by omega) ?_
    simp only [va_up_self, va_up_up]
    refine z_aload_n G dX10_closes_71 rfl ?_
    refine z_iconst G (v := 2) dX10_closes_72 (by decide) ?_
    refine z_iald G (2) dX10_closes_73 (by assumption) (rfl) (by omega) ?_
    rw [va_up_self, va_up_ne _ _ (by omega)]
    refine z_istore_n G dX10_closes_74 (Nat.le_of_ble_eq_true rfl) rfl ?_
    refine z_eq rfl rfl rfl ?_ rfl (loop (T - 1 - t) t _ hu2 (Nat.le_refl _) (by omega))
    rw [Nat.sub_self, Nat.mul_zero, cpy_0]
  refine z_aload_n G dX10_closes_0 rfl ?_
  refine z_aload_n G dX10_closes_1 rfl ?_
  refine z_S G lk_X10_161 dX10_closes_2 [_] rfl rfl rfl (Nat.le_of_ble_eq_true rfl) ⟨Nat.le_refl _, Nat.le_refl _⟩ ?_
  refine k_X10_tabNow ho ht (by omega) (fun v hv => ?_)
  refine z_iald G (44 + 10 * t) dX10_closes_5 (by assumption) (hv) (by omega) ?_
  refine z_iconst G (v := 4) dX10_closes_6 (by decide) ?_
  refine z_icmp_ge G 64 dX10_closes_7 (by decide) (fun b7 => ?_) (fun b7 => ?_)
  · refine z_eq rfl rfl rfl ?_ rfl (tail (I a) (by rw [keepF, if_neg (by simp only [ti_lt, ti_le] at *; omega)]) hT ht)
    rw [va_up_id]
  · refine z_aload_n G dX10_closes_10 rfl ?_
    refine z_iconst G (v := 3) dX10_closes_11 (by decide) ?_
    refine z_iald G (3) dX10_closes_12 (by assumption) (rfl) (by omega) ?_
    refine z_iconst G (v := 3) dX10_closes_13 (by decide) ?_
    refine z_icmp_ne G 40 dX10_closes_14 (by decide) (fun b14 => ?_) (fun b14 => ?_)
    · have hc3e : ¬ c = 3 := fun q => b14 (by rw [iN_of hc, q]; rfl)
      refine z_aload_n G dX10_closes_40 rfl ?_
      refine z_aload_n G dX10_closes_41 rfl ?_
      refine z_S G lk_X10_161 dX10_closes_42 [_] rfl rfl rfl (Nat.le_of_ble_eq_true rfl) ⟨Nat.le_refl _, Nat.le_refl _⟩ ?_
      refine k_X10_tabNow ho ht (by omega) (fun w hw => ?_)
      refine z_bipush G (v := 94) dX10_closes_45 (by decide) ?_
      refine z_bipush G (v := 10) dX10_closes_47 (by decide) ?_
      refine z_aload_n G dX10_closes_49 rfl ?_
      refine z_iconst G (v := 3) dX10_closes_50 (by decide) ?_
      refine z_iald G (3) dX10_closes_51 (by assumption) (rfl) (by omega) ?_
      refine z_imul G dX10_closes_52 ?_
      refine z_iadd G dX10_closes_53 ?_
      refine z_S G lk_X10_164 dX10_closes_54 [_, _, _] rfl rfl rfl (Nat.le_of_ble_eq_true rfl) ⟨Nat.le_refl _, Nat.le_refl _⟩ ?_
      refine k_X10_moves ho (f := 44 + 10 * t) (g := 94 + 10 * c) hw (by simp (disch := omega) only [iN_lit, iN_add, iN_sub, iN_mul, iN_an, iN_of hc]; exact iN_ti2 (by omega) (by omega)) (by omega) (by omega) (by omega) ?_
      refine z_aload_n G dX10_closes_57 rfl ?_
      refine z_iconst G (v := 3) dX10_closes_58 (by decide) ?_
      refine z_dup2 G dX10_closes_59 rfl rfl ?_
      refine z_iald G (3) dX10_closes_60 (by assumption) (rfl) (by omega) ?_
      rw [va_up_self, cpy_off (by omega)]
      refine z_iconst G (v := 1) dX10_closes_61 (by decide) ?_
      refine z_iadd G dX10_closes_62 ?_
      refine z_top (y := iN (c + 1)) (by simp (disch := omega) only [iN_lit, iN_add, iN_sub, iN_mul, iN_an, iN_of hc] <;> exact congrArg iN (by omega)) ?_
      refine z_iast G (3) dX10_closes_63 (by assumption) (rfl) (by omega) ?_
      simp only [va_up_self, va_up_up]
      refine tail _ ?_ ?_ ?_
      · rw [keepF, if_pos (by simp only [ti_lt, ti_le] at *; omega), if_neg hc3e]
      · rw [va_up_ne _ _ (by omega), cpy_off (by omega)]; exact hT
      · rw [va_up_ne _ _ (by omega), cpy_off (by omega)]; exact ht
    · refine z_aload_n G dX10_closes_17 rfl ?_
      refine z_bipush G (v := 104) dX10_closes_18 (by decide) ?_
      refine z_bipush G (v := 94) dX10_closes_20 (by decide) ?_
      refine z_S G lk_X10_164 dX10_closes_22 [_, _, _] rfl rfl rfl (Nat.le_of_ble_eq_true rfl) ⟨Nat.le_refl _, Nat.le_refl _⟩ ?_
      refine k_X10_moves ho (f := 104) (g := 94) rfl rfl (by omega) (by omega) (by omega) ?_
      refine z_aload_n G dX10_closes_25 rfl ?_
      refine z_bipush G (v := 114) dX10_closes_26 (by decide) ?_
      refine z_bipush G (v := 104) dX10_closes_28 (by decide) ?_
      refine z_S G lk_X10_164 dX10_closes_30 [_, _, _] rfl rfl rfl (Nat.le_of_ble_eq_true rfl) ⟨Nat.le_refl _, Nat.le_refl _⟩ ?_
      refine k_X10_moves ho (f := 114) (g := 104) rfl rfl (by omega) (by omega) (by omega) ?_
      simp only [va_up_self, va_up_up]
      refine z_aload_n G dX10_closes_33 rfl ?_
      refine z_iconst G (v := 3) dX10_closes_34 (by decide) ?_
      refine z_dup2 G dX10_closes_35 rfl rfl ?_
      refine z_iald G (3) dX10_closes_36 (by assumption) (rfl) (by omega) ?_
      rw [va_up_self, cpy_off (by omega), cpy_off (by omega)]
      refine z_iconst G (v := 1) dX10_closes_37 (by decide) ?_
      refine z_isub G dX10_closes_38 ?_
      refine z_top (y := iN 2) (by rw [b14]; rfl) ?_
      refine z_iast G (3) dX10_closes_39 (by assumption) (rfl) (by omega) ?_
      simp only [va_up_self, va_up_up]
      have hc3e : c = 3 := by have := congrArg Int32.toInt b14; simp only [Int32.reduceToInt] at this; omega
      refine z_aload_n G dX10_closes_40 rfl ?_
      refine z_aload_n G dX10_closes_41 rfl ?_
      refine z_S G lk_X10_161 dX10_closes_42 [_] rfl rfl rfl (Nat.le_of_ble_eq_true rfl) ⟨Nat.le_refl _, Nat.le_refl _⟩ ?_
      refine k_X10_tabNow ho (t := t) (by rw [va_up_self, va_up_ne _ _ (by omega), cpy_off (by omega), cpy_off (by omega)]; exact ht) (by omega) (fun w hw => ?_)
      refine z_bipush G (v := 94) dX10_closes_45 (by decide) ?_
      refine z_bipush G (v := 10) dX10_closes_47 (by decide) ?_
      refine z_aload_n G dX10_closes_49 rfl ?_
      refine z_iconst G (v := 3) dX10_closes_50 (by decide) ?_
      refine z_iald G (3) dX10_closes_51 (by assumption) (rfl) (by omega) ?_
      rw [va_up_self, va_up_self]
      refine z_imul G dX10_closes_52 ?_
      refine z_iadd G dX10_closes_53 ?_
      refine z_S G lk_X10_164 dX10_closes_54 [_, _, _] rfl rfl rfl (Nat.le_of_ble_eq_true rfl) ⟨Nat.le_refl _, Nat.le_refl _⟩ ?_
      refine k_X10_moves ho (f := 44 + 10 * t) (g := 114) hw rfl (by omega) (by omega) (by omega) ?_
      simp only [va_up_self, va_up_up]
      refine z_aload_n G dX10_closes_57 rfl ?_
      refine z_iconst G (v := 3) dX10_closes_58 (by decide) ?_
      refine z_dup2 G dX10_closes_59 rfl rfl ?_
      refine z_iald G (3) dX10_closes_60 (by assumption) (rfl) (by omega) ?_
      rw [va_up_self, cpy_off (by omega), va_up_self]
      refine z_iconst G (v := 1) dX10_closes_61 (by decide) ?_
      refine z_iadd G dX10_closes_62 ?_
      refine z_top (y := iN 3) rfl ?_
      refine z_iast G (3) dX10_closes_63 (by assumption) (rfl) (by omega) ?_
      simp only [va_up_self, va_up_up]
      refine tail _ ?_ ?_ ?_
      · rw [keepF, if_pos (by simp only [ti_lt, ti_le] at *; omega), if_pos hc3e]
      · rw [va_up_ne _ _ (by omega), cpy_off (by omega), va_up_ne _ _ (by omega), cpy_off (by omega), cpy_off (by omega)]; exact hT
      · rw [va_up_ne _ _ (by omega), cpy_off (by omega), va_up_ne _ _ (by omega), cpy_off (by omega), cpy_off (by omega)]; exact ht
set_option maxHeartbeats 1000000 in
set_option maxRecDepth 20000 in
theorem k_X10_visitsOf {E : pmE} {d : Nat} {S : pmS} {I : pmI} {P : pmP} {R : Option Value → pmS → pmI → pmP → Prop} {a n : Nat} (ho : AR S a 11 124) (hn : (I a 0).toInt = (n : Int)) (hn8 : n ≤ 8) (h : R (some (.int (sumV (I a) n))) S I P) : pmX E d 0 0 yX10_visitsOf [rr E a] S I P R := by
  refine pm_of (by decide) cd_X10_visitsOf (by decide) (by decide) (Nat.le_of_ble_eq_true rfl) ?_
  intro C G hq
  have loop : ∀ (r k : Nat) (x : Int32), x.toInt = (k : Int) → k + r = n → pmZ E C 4 [some (rr E a), some (.int (sumV (I a) k)), some (.int x)] [] S I P 0 0 := by
    intro r
    induction r with
    | zero =>
      intro k x hx hr
      refine z_iload_n G dX10_visitsOf_4 rfl ?_
      refine z_aload_n G dX10_visitsOf_5 rfl ?_
      refine z_iconst G (v := 0) dX10_visitsOf_6 (by decide) ?_
      refine z_iald G (0) dX10_visitsOf_7 (by assumption) (rfl) (by omega) ?_
      refine z_icmp_ge G 29 dX10_visitsOf_8 (by decide) (fun b8 => ?_) (fun b8 => ?_)
      · refine z_iload_n G dX10_visitsOf_29 rfl ?_
        exact z_iret G hq dX10_visitsOf_30 (by rw [show k = n by omega]; exact h)
      · exact absurd (by simp (disch := omega) only [iN_lit, iN_add, iN_sub, iN_mul, iN_an, iN_le, iN_lt, iN_eq, iN_of hx, iN_of hn]; omega) b8
    | succ r ih =>
      intro k x hx hr
      refine z_iload_n G dX10_visitsOf_4 rfl ?_
      refine z_aload_n G dX10_visitsOf_5 rfl ?_
      refine z_iconst G (v := 0) dX10_visitsOf_6 (by decide) ?_
      refine z_iald G (0) dX10_visitsOf_7 (by assumption) (rfl) (by omega) ?_
      refine z_icmp_ge G 29 dX10_visitsOf_8 (by decide) (fun b8 => ?_) (fun b8 => ?_)
      · exact absurd b8 (by simp (disch := omega) only [iN_lit, iN_add, iN_sub, iN_mul, iN_an, iN_le, iN_lt, iN_eq, iN_of hx, iN_of hn]; omega)
      · refine z_iload_n G dX10_visitsOf_11 rfl ?_
        refine z_aload_n G dX10_visitsOf_12 rfl ?_
        refine z_iconst G (v := 4) dX10_visitsOf_13 (by decide) ?_
        refine z_iconst G (v := 5) dX10_visitsOf_14 (by decide) ?_
        refine z_iload_n G dX10_visitsOf_15 rfl ?_
        refine z_imul G dX10_visitsOf_16 ?_
        refine z_iadd G dX10_visitsOf_17 ?_
        refine z_iconst G (v := 4) dX10_visitsOf_18 (by decide) ?_
        refine z_iadd G dX10_visitsOf_19 ?_
        refine z_iald G (8 + 5 * k) dX10_visitsOf_20 (by assumption) (by simp (disch := omega) only [iN_lit, iN_add, iN_sub, iN_mul, iN_an, iN_of hx]; exact iN_ti2 (by omega) (by omega)) (by omega) ?_
        refine z_iadd G dX10_visitsOf_21 ?_
        refine z_istore_n G dX10_visitsOf_22 (Nat.le_of_ble_eq_true rfl) rfl ?_
        refine z_iinc G (v := 1) dX10_visitsOf_23 (by decide) rfl rfl ?_
        refine z_goto G 4 dX10_visitsOf_26 (by decide) ?_
        exact ih (k + 1) _ (by simp (disch := omega) only [iN_lit, iN_add, iN_sub, iN_mul, iN_an, iN_of hx]; exact iN_ti2 (by omega) (by omega)) (by omega)
  refine z_iconst G (v := 0) dX10_visitsOf_0 (by decide) ?_
  refine z_istore_n G dX10_visitsOf_1 (Nat.le_of_ble_eq_true rfl) rfl ?_
  refine z_iconst G (v := 0) dX10_visitsOf_2 (by decide) ?_
  refine z_istore_n G dX10_visitsOf_3 (Nat.le_of_ble_eq_true rfl) rfl ?_
  exact loop n 0 0 rfl (by omega)
end
