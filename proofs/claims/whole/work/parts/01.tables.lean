-- ===== PART A: goes FIRST, ahead of the names: the tables' words, and 'selects' of the private methods out of them =====
/-- a private method of a class that the tables say can be made, by its rows of tables_1 -/
def lw_okq (q : MethodName × Nat) : Prop := (q.1.cls ≠ "java/lang/invoke/MethodHandle" ∧ q.1.cls ≠ "java/lang/invoke/VarHandle") ∧ Cond.instantiable q.1.cls q.2 ∈ tables_1 ∧ Cond.privateMethod q.1 ∈ tables_1 ∧ Cond.instanceMethod q.1 ∈ tables_1
theorem lw_p0 : lw_okq (⟨"GridTracks$Teller", "clear", "()V"⟩, 8) := ⟨⟨by decide +kernel, by decide +kernel⟩, List.mem_of_getElem? (i := 93) (by decide +kernel), List.mem_of_getElem? (i := 340) (by decide +kernel), List.mem_of_getElem? (i := 341) (by decide +kernel)⟩
theorem lw_p1 : lw_okq (⟨"GridTracks$Teller", "takeLine", "()Z"⟩, 8) := ⟨⟨by decide +kernel, by decide +kernel⟩, List.mem_of_getElem? (i := 93) (by decide +kernel), List.mem_of_getElem? (i := 356) (by decide +kernel), List.mem_of_getElem? (i := 357) (by decide +kernel)⟩
theorem lw_p2 : lw_okq (⟨"GridTracks$Teller", "takeColumns", "()Z"⟩, 8) := ⟨⟨by decide +kernel, by decide +kernel⟩, List.mem_of_getElem? (i := 93) (by decide +kernel), List.mem_of_getElem? (i := 413) (by decide +kernel), List.mem_of_getElem? (i := 414) (by decide +kernel)⟩
theorem lw_p3 : lw_okq (⟨"GridTracks$Teller", "refuse", "(I)Z"⟩, 8) := ⟨⟨by decide +kernel, by decide +kernel⟩, List.mem_of_getElem? (i := 93) (by decide +kernel), List.mem_of_getElem? (i := 417) (by decide +kernel), List.mem_of_getElem? (i := 418) (by decide +kernel)⟩
theorem lw_p4 : lw_okq (⟨"GridTracks$Teller", "takeNumber", "(II)Z"⟩, 8) := ⟨⟨by decide +kernel, by decide +kernel⟩, List.mem_of_getElem? (i := 93) (by decide +kernel), List.mem_of_getElem? (i := 422) (by decide +kernel), List.mem_of_getElem? (i := 423) (by decide +kernel)⟩
theorem lw_p5 : lw_okq (⟨"GridTracks$Teller", "refuseToken", "()Z"⟩, 8) := ⟨⟨by decide +kernel, by decide +kernel⟩, List.mem_of_getElem? (i := 93) (by decide +kernel), List.mem_of_getElem? (i := 426) (by decide +kernel), List.mem_of_getElem? (i := 427) (by decide +kernel)⟩
theorem lw_p6 : lw_okq (⟨"GridTracks$Teller", "takeTrack", "(I)Z"⟩, 8) := ⟨⟨by decide +kernel, by decide +kernel⟩, List.mem_of_getElem? (i := 93) (by decide +kernel), List.mem_of_getElem? (i := 431) (by decide +kernel), List.mem_of_getElem? (i := 432) (by decide +kernel)⟩
theorem lw_p7 : lw_okq (⟨"GridTracks$Teller", "trackKind", "()I"⟩, 8) := ⟨⟨by decide +kernel, by decide +kernel⟩, List.mem_of_getElem? (i := 93) (by decide +kernel), List.mem_of_getElem? (i := 435) (by decide +kernel), List.mem_of_getElem? (i := 436) (by decide +kernel)⟩
theorem lw_p8 : lw_okq (⟨"GridTracks$Teller", "repeatTracks", "(II)Z"⟩, 8) := ⟨⟨by decide +kernel, by decide +kernel⟩, List.mem_of_getElem? (i := 93) (by decide +kernel), List.mem_of_getElem? (i := 442) (by decide +kernel), List.mem_of_getElem? (i := 443) (by decide +kernel)⟩
theorem lw_p9 : lw_okq (⟨"GridTracks$Teller", "takeGap", "()Z"⟩, 8) := ⟨⟨by decide +kernel, by decide +kernel⟩, List.mem_of_getElem? (i := 93) (by decide +kernel), List.mem_of_getElem? (i := 447) (by decide +kernel), List.mem_of_getElem? (i := 448) (by decide +kernel)⟩
theorem lw_p10 : lw_okq (⟨"GridTracks$Teller", "takeSemicolon", "()Z"⟩, 8) := ⟨⟨by decide +kernel, by decide +kernel⟩, List.mem_of_getElem? (i := 93) (by decide +kernel), List.mem_of_getElem? (i := 451) (by decide +kernel), List.mem_of_getElem? (i := 452) (by decide +kernel)⟩
theorem lw_p11 : lw_okq (⟨"GridTracks$Teller", "takeWidth", "()Z"⟩, 8) := ⟨⟨by decide +kernel, by decide +kernel⟩, List.mem_of_getElem? (i := 93) (by decide +kernel), List.mem_of_getElem? (i := 456) (by decide +kernel), List.mem_of_getElem? (i := 457) (by decide +kernel)⟩
theorem lw_p12 : lw_okq (⟨"GridTracks$Teller", "takeHigh", "()Z"⟩, 8) := ⟨⟨by decide +kernel, by decide +kernel⟩, List.mem_of_getElem? (i := 93) (by decide +kernel), List.mem_of_getElem? (i := 461) (by decide +kernel), List.mem_of_getElem? (i := 462) (by decide +kernel)⟩
theorem lw_p13 : lw_okq (⟨"GridTracks$Teller", "takeNamedLine", "()Z"⟩, 8) := ⟨⟨by decide +kernel, by decide +kernel⟩, List.mem_of_getElem? (i := 93) (by decide +kernel), List.mem_of_getElem? (i := 466) (by decide +kernel), List.mem_of_getElem? (i := 467) (by decide +kernel)⟩
theorem lw_p14 : lw_okq (⟨"GridTracks$Teller", "takeItemLine", "()Z"⟩, 8) := ⟨⟨by decide +kernel, by decide +kernel⟩, List.mem_of_getElem? (i := 93) (by decide +kernel), List.mem_of_getElem? (i := 475) (by decide +kernel), List.mem_of_getElem? (i := 476) (by decide +kernel)⟩
theorem lw_p15 : lw_okq (⟨"GridTracks$Teller", "takePin", "(I)Z"⟩, 8) := ⟨⟨by decide +kernel, by decide +kernel⟩, List.mem_of_getElem? (i := 93) (by decide +kernel), List.mem_of_getElem? (i := 487) (by decide +kernel), List.mem_of_getElem? (i := 488) (by decide +kernel)⟩
def lw_privs_1 : List (MethodName × Nat) := [(⟨"GridTracks$Teller", "clear", "()V"⟩, 8), (⟨"GridTracks$Teller", "takeLine", "()Z"⟩, 8), (⟨"GridTracks$Teller", "takeColumns", "()Z"⟩, 8), (⟨"GridTracks$Teller", "refuse", "(I)Z"⟩, 8), (⟨"GridTracks$Teller", "takeNumber", "(II)Z"⟩, 8), (⟨"GridTracks$Teller", "refuseToken", "()Z"⟩, 8), (⟨"GridTracks$Teller", "takeTrack", "(I)Z"⟩, 8), (⟨"GridTracks$Teller", "trackKind", "()I"⟩, 8), (⟨"GridTracks$Teller", "repeatTracks", "(II)Z"⟩, 8), (⟨"GridTracks$Teller", "takeGap", "()Z"⟩, 8), (⟨"GridTracks$Teller", "takeSemicolon", "()Z"⟩, 8), (⟨"GridTracks$Teller", "takeWidth", "()Z"⟩, 8), (⟨"GridTracks$Teller", "takeHigh", "()Z"⟩, 8), (⟨"GridTracks$Teller", "takeNamedLine", "()Z"⟩, 8), (⟨"GridTracks$Teller", "takeItemLine", "()Z"⟩, 8), (⟨"GridTracks$Teller", "takePin", "(I)Z"⟩, 8)]
theorem lw_r1 : ∀ q ∈ lw_privs_1, lw_okq q := List.forall_mem_cons.mpr ⟨lw_p0, List.forall_mem_cons.mpr ⟨lw_p1, List.forall_mem_cons.mpr ⟨lw_p2, List.forall_mem_cons.mpr ⟨lw_p3, List.forall_mem_cons.mpr ⟨lw_p4, List.forall_mem_cons.mpr ⟨lw_p5, List.forall_mem_cons.mpr ⟨lw_p6, List.forall_mem_cons.mpr ⟨lw_p7, List.forall_mem_cons.mpr ⟨lw_p8, List.forall_mem_cons.mpr ⟨lw_p9, List.forall_mem_cons.mpr ⟨lw_p10, List.forall_mem_cons.mpr ⟨lw_p11, List.forall_mem_cons.mpr ⟨lw_p12, List.forall_mem_cons.mpr ⟨lw_p13, List.forall_mem_cons.mpr ⟨lw_p14, List.forall_mem_cons.mpr ⟨lw_p15, fun _ h => absurd h List.not_mem_nil⟩⟩⟩⟩⟩⟩⟩⟩⟩⟩⟩⟩⟩⟩⟩⟩
theorem lw_p16 : lw_okq (⟨"GridTracks$Teller", "takePinLetter", "(I)Z"⟩, 8) := ⟨⟨by decide +kernel, by decide +kernel⟩, List.mem_of_getElem? (i := 93) (by decide +kernel), List.mem_of_getElem? (i := 494) (by decide +kernel), List.mem_of_getElem? (i := 495) (by decide +kernel)⟩
theorem lw_p17 : lw_okq (⟨"GridTracks$Teller", "isDraftWhole", "()Z"⟩, 8) := ⟨⟨by decide +kernel, by decide +kernel⟩, List.mem_of_getElem? (i := 93) (by decide +kernel), List.mem_of_getElem? (i := 498) (by decide +kernel), List.mem_of_getElem? (i := 499) (by decide +kernel)⟩
theorem lw_p18 : lw_okq (⟨"GridTracks", "forgetImages", "()V"⟩, 10) := ⟨⟨by decide +kernel, by decide +kernel⟩, List.mem_of_getElem? (i := 19) (by decide +kernel), List.mem_of_getElem? (i := 518) (by decide +kernel), List.mem_of_getElem? (i := 519) (by decide +kernel)⟩
theorem lw_p19 : lw_okq (⟨"GridTracks", "imageOf", "(I)LGridTracks$Image;"⟩, 10) := ⟨⟨by decide +kernel, by decide +kernel⟩, List.mem_of_getElem? (i := 19) (by decide +kernel), List.mem_of_getElem? (i := 522) (by decide +kernel), List.mem_of_getElem? (i := 523) (by decide +kernel)⟩
theorem lw_p20 : lw_okq (⟨"GridTracks", "arrange", "()V"⟩, 10) := ⟨⟨by decide +kernel, by decide +kernel⟩, List.mem_of_getElem? (i := 19) (by decide +kernel), List.mem_of_getElem? (i := 534) (by decide +kernel), List.mem_of_getElem? (i := 535) (by decide +kernel)⟩
theorem lw_p21 : lw_okq (⟨"GridTracks$Placement", "place", "(LGridTracks$Grid;I)V"⟩, 6) := ⟨⟨by decide +kernel, by decide +kernel⟩, List.mem_of_getElem? (i := 197) (by decide +kernel), List.mem_of_getElem? (i := 546) (by decide +kernel), List.mem_of_getElem? (i := 547) (by decide +kernel)⟩
theorem lw_p22 : lw_okq (⟨"GridTracks$Placement", "isFree", "(IIII)Z"⟩, 6) := ⟨⟨by decide +kernel, by decide +kernel⟩, List.mem_of_getElem? (i := 197) (by decide +kernel), List.mem_of_getElem? (i := 554) (by decide +kernel), List.mem_of_getElem? (i := 555) (by decide +kernel)⟩
theorem lw_p23 : lw_okq (⟨"GridTracks", "measureColumns", "()V"⟩, 10) := ⟨⟨by decide +kernel, by decide +kernel⟩, List.mem_of_getElem? (i := 19) (by decide +kernel), List.mem_of_getElem? (i := 564) (by decide +kernel), List.mem_of_getElem? (i := 565) (by decide +kernel)⟩
theorem lw_p24 : lw_okq (⟨"GridTracks$Axis", "deal", "(I)V"⟩, 10) := ⟨⟨by decide +kernel, by decide +kernel⟩, List.mem_of_getElem? (i := 227) (by decide +kernel), List.mem_of_getElem? (i := 593) (by decide +kernel), List.mem_of_getElem? (i := 594) (by decide +kernel)⟩
theorem lw_p25 : lw_okq (⟨"GridTracks$Axis", "autosOf", "(I)I"⟩, 10) := ⟨⟨by decide +kernel, by decide +kernel⟩, List.mem_of_getElem? (i := 227) (by decide +kernel), List.mem_of_getElem? (i := 597) (by decide +kernel), List.mem_of_getElem? (i := 598) (by decide +kernel)⟩
theorem lw_p26 : lw_okq (⟨"GridTracks$Shares", "findLeast", "(LGridTracks$Axis;)V"⟩, 2) := ⟨⟨by decide +kernel, by decide +kernel⟩, List.mem_of_getElem? (i := 273) (by decide +kernel), List.mem_of_getElem? (i := 622) (by decide +kernel), List.mem_of_getElem? (i := 623) (by decide +kernel)⟩
theorem lw_p27 : lw_okq (⟨"GridTracks$Shares", "freeze", "(LGridTracks$Axis;I)Z"⟩, 2) := ⟨⟨by decide +kernel, by decide +kernel⟩, List.mem_of_getElem? (i := 273) (by decide +kernel), List.mem_of_getElem? (i := 627) (by decide +kernel), List.mem_of_getElem? (i := 628) (by decide +kernel)⟩
theorem lw_p28 : lw_okq (⟨"GridTracks$Shares", "openShares", "(LGridTracks$Axis;)I"⟩, 2) := ⟨⟨by decide +kernel, by decide +kernel⟩, List.mem_of_getElem? (i := 273) (by decide +kernel), List.mem_of_getElem? (i := 631) (by decide +kernel), List.mem_of_getElem? (i := 632) (by decide +kernel)⟩
theorem lw_p29 : lw_okq (⟨"GridTracks$Shares", "isOpen", "(LGridTracks$Axis;I)Z"⟩, 2) := ⟨⟨by decide +kernel, by decide +kernel⟩, List.mem_of_getElem? (i := 273) (by decide +kernel), List.mem_of_getElem? (i := 635) (by decide +kernel), List.mem_of_getElem? (i := 636) (by decide +kernel)⟩
theorem lw_p30 : lw_okq (⟨"GridTracks$Shares", "isFrozen", "(I)Z"⟩, 2) := ⟨⟨by decide +kernel, by decide +kernel⟩, List.mem_of_getElem? (i := 273) (by decide +kernel), List.mem_of_getElem? (i := 639) (by decide +kernel), List.mem_of_getElem? (i := 640) (by decide +kernel)⟩
theorem lw_p31 : lw_okq (⟨"GridTracks$Shares", "openWidth", "(LGridTracks$Axis;I)I"⟩, 2) := ⟨⟨by decide +kernel, by decide +kernel⟩, List.mem_of_getElem? (i := 273) (by decide +kernel), List.mem_of_getElem? (i := 643) (by decide +kernel), List.mem_of_getElem? (i := 644) (by decide +kernel)⟩
def lw_privs_2 : List (MethodName × Nat) := [(⟨"GridTracks$Teller", "takePinLetter", "(I)Z"⟩, 8), (⟨"GridTracks$Teller", "isDraftWhole", "()Z"⟩, 8), (⟨"GridTracks", "forgetImages", "()V"⟩, 10), (⟨"GridTracks", "imageOf", "(I)LGridTracks$Image;"⟩, 10), (⟨"GridTracks", "arrange", "()V"⟩, 10), (⟨"GridTracks$Placement", "place", "(LGridTracks$Grid;I)V"⟩, 6), (⟨"GridTracks$Placement", "isFree", "(IIII)Z"⟩, 6), (⟨"GridTracks", "measureColumns", "()V"⟩, 10), (⟨"GridTracks$Axis", "deal", "(I)V"⟩, 10), (⟨"GridTracks$Axis", "autosOf", "(I)I"⟩, 10), (⟨"GridTracks$Shares", "findLeast", "(LGridTracks$Axis;)V"⟩, 2), (⟨"GridTracks$Shares", "freeze", "(LGridTracks$Axis;I)Z"⟩, 2), (⟨"GridTracks$Shares", "openShares", "(LGridTracks$Axis;)I"⟩, 2), (⟨"GridTracks$Shares", "isOpen", "(LGridTracks$Axis;I)Z"⟩, 2), (⟨"GridTracks$Shares", "isFrozen", "(I)Z"⟩, 2), (⟨"GridTracks$Shares", "openWidth", "(LGridTracks$Axis;I)I"⟩, 2)]
theorem lw_r2 : ∀ q ∈ lw_privs_2, lw_okq q := List.forall_mem_cons.mpr ⟨lw_p16, List.forall_mem_cons.mpr ⟨lw_p17, List.forall_mem_cons.mpr ⟨lw_p18, List.forall_mem_cons.mpr ⟨lw_p19, List.forall_mem_cons.mpr ⟨lw_p20, List.forall_mem_cons.mpr ⟨lw_p21, List.forall_mem_cons.mpr ⟨lw_p22, List.forall_mem_cons.mpr ⟨lw_p23, List.forall_mem_cons.mpr ⟨lw_p24, List.forall_mem_cons.mpr ⟨lw_p25, List.forall_mem_cons.mpr ⟨lw_p26, List.forall_mem_cons.mpr ⟨lw_p27, List.forall_mem_cons.mpr ⟨lw_p28, List.forall_mem_cons.mpr ⟨lw_p29, List.forall_mem_cons.mpr ⟨lw_p30, List.forall_mem_cons.mpr ⟨lw_p31, fun _ h => absurd h List.not_mem_nil⟩⟩⟩⟩⟩⟩⟩⟩⟩⟩⟩⟩⟩⟩⟩⟩
theorem lw_p32 : lw_okq (⟨"GridTracks$Shares", "dealParts", "(LGridTracks$Axis;I)V"⟩, 2) := ⟨⟨by decide +kernel, by decide +kernel⟩, List.mem_of_getElem? (i := 273) (by decide +kernel), List.mem_of_getElem? (i := 647) (by decide +kernel), List.mem_of_getElem? (i := 648) (by decide +kernel)⟩
theorem lw_p33 : lw_okq (⟨"GridTracks", "measureRows", "()V"⟩, 10) := ⟨⟨by decide +kernel, by decide +kernel⟩, List.mem_of_getElem? (i := 19) (by decide +kernel), List.mem_of_getElem? (i := 651) (by decide +kernel), List.mem_of_getElem? (i := 652) (by decide +kernel)⟩
theorem lw_p34 : lw_okq (⟨"GridTracks", "isItem", "(I)Z"⟩, 10) := ⟨⟨by decide +kernel, by decide +kernel⟩, List.mem_of_getElem? (i := 19) (by decide +kernel), List.mem_of_getElem? (i := 671) (by decide +kernel), List.mem_of_getElem? (i := 672) (by decide +kernel)⟩
theorem lw_p35 : lw_okq (⟨"GridTracks", "boxWidth", "(I)I"⟩, 10) := ⟨⟨by decide +kernel, by decide +kernel⟩, List.mem_of_getElem? (i := 19) (by decide +kernel), List.mem_of_getElem? (i := 693) (by decide +kernel), List.mem_of_getElem? (i := 694) (by decide +kernel)⟩
theorem lw_p36 : lw_okq (⟨"GridTracks", "boxHeight", "(I)I"⟩, 10) := ⟨⟨by decide +kernel, by decide +kernel⟩, List.mem_of_getElem? (i := 19) (by decide +kernel), List.mem_of_getElem? (i := 698) (by decide +kernel), List.mem_of_getElem? (i := 699) (by decide +kernel)⟩
theorem lw_p37 : lw_okq (⟨"GridTracks", "sheetOf", "(I)LGridTracks$Sheet;"⟩, 10) := ⟨⟨by decide +kernel, by decide +kernel⟩, List.mem_of_getElem? (i := 19) (by decide +kernel), List.mem_of_getElem? (i := 798) (by decide +kernel), List.mem_of_getElem? (i := 799) (by decide +kernel)⟩
theorem lw_p38 : lw_okq (⟨"GridTracks", "takeItem", "(LGridTracks$Sheet;I)Z"⟩, 10) := ⟨⟨by decide +kernel, by decide +kernel⟩, List.mem_of_getElem? (i := 19) (by decide +kernel), List.mem_of_getElem? (i := 832) (by decide +kernel), List.mem_of_getElem? (i := 833) (by decide +kernel)⟩
theorem lw_p39 : lw_okq (⟨"GridTracks", "heldImages", "()I"⟩, 10) := ⟨⟨by decide +kernel, by decide +kernel⟩, List.mem_of_getElem? (i := 19) (by decide +kernel), List.mem_of_getElem? (i := 845) (by decide +kernel), List.mem_of_getElem? (i := 846) (by decide +kernel)⟩
theorem lw_p40 : lw_okq (⟨"GridTracks", "cellsOf", "(I)I"⟩, 10) := ⟨⟨by decide +kernel, by decide +kernel⟩, List.mem_of_getElem? (i := 19) (by decide +kernel), List.mem_of_getElem? (i := 853) (by decide +kernel), List.mem_of_getElem? (i := 854) (by decide +kernel)⟩
theorem lw_p41 : lw_okq (⟨"GridTracksModel", "firstDraft", "()V"⟩, 26) := ⟨⟨by decide +kernel, by decide +kernel⟩, List.mem_of_getElem? (i := 865) (by decide +kernel), List.mem_of_getElem? (i := 871) (by decide +kernel), List.mem_of_getElem? (i := 872) (by decide +kernel)⟩
theorem lw_p42 : lw_okq (⟨"GridTracksModel", "keepDraft", "()V"⟩, 26) := ⟨⟨by decide +kernel, by decide +kernel⟩, List.mem_of_getElem? (i := 865) (by decide +kernel), List.mem_of_getElem? (i := 875) (by decide +kernel), List.mem_of_getElem? (i := 876) (by decide +kernel)⟩
theorem lw_p43 : lw_okq (⟨"GridTracksModel", "reads", "()V"⟩, 26) := ⟨⟨by decide +kernel, by decide +kernel⟩, List.mem_of_getElem? (i := 865) (by decide +kernel), List.mem_of_getElem? (i := 975) (by decide +kernel), List.mem_of_getElem? (i := 976) (by decide +kernel)⟩
theorem lw_p44 : lw_okq (⟨"GridTracksModel", "byteAt", "(I)I"⟩, 26) := ⟨⟨by decide +kernel, by decide +kernel⟩, List.mem_of_getElem? (i := 865) (by decide +kernel), List.mem_of_getElem? (i := 979) (by decide +kernel), List.mem_of_getElem? (i := 980) (by decide +kernel)⟩
theorem lw_p45 : lw_okq (⟨"GridTracksModel", "requires", "(ZI)V"⟩, 26) := ⟨⟨by decide +kernel, by decide +kernel⟩, List.mem_of_getElem? (i := 865) (by decide +kernel), List.mem_of_getElem? (i := 987) (by decide +kernel), List.mem_of_getElem? (i := 988) (by decide +kernel)⟩
theorem lw_p46 : lw_okq (⟨"GridTracksModel", "readLine", "()V"⟩, 26) := ⟨⟨by decide +kernel, by decide +kernel⟩, List.mem_of_getElem? (i := 865) (by decide +kernel), List.mem_of_getElem? (i := 991) (by decide +kernel), List.mem_of_getElem? (i := 992) (by decide +kernel)⟩
theorem lw_p47 : lw_okq (⟨"GridTracksModel", "lineName", "()I"⟩, 26) := ⟨⟨by decide +kernel, by decide +kernel⟩, List.mem_of_getElem? (i := 865) (by decide +kernel), List.mem_of_getElem? (i := 995) (by decide +kernel), List.mem_of_getElem? (i := 996) (by decide +kernel)⟩
def lw_privs_3 : List (MethodName × Nat) := [(⟨"GridTracks$Shares", "dealParts", "(LGridTracks$Axis;I)V"⟩, 2), (⟨"GridTracks", "measureRows", "()V"⟩, 10), (⟨"GridTracks", "isItem", "(I)Z"⟩, 10), (⟨"GridTracks", "boxWidth", "(I)I"⟩, 10), (⟨"GridTracks", "boxHeight", "(I)I"⟩, 10), (⟨"GridTracks", "sheetOf", "(I)LGridTracks$Sheet;"⟩, 10), (⟨"GridTracks", "takeItem", "(LGridTracks$Sheet;I)Z"⟩, 10), (⟨"GridTracks", "heldImages", "()I"⟩, 10), (⟨"GridTracks", "cellsOf", "(I)I"⟩, 10), (⟨"GridTracksModel", "firstDraft", "()V"⟩, 26), (⟨"GridTracksModel", "keepDraft", "()V"⟩, 26), (⟨"GridTracksModel", "reads", "()V"⟩, 26), (⟨"GridTracksModel", "byteAt", "(I)I"⟩, 26), (⟨"GridTracksModel", "requires", "(ZI)V"⟩, 26), (⟨"GridTracksModel", "readLine", "()V"⟩, 26), (⟨"GridTracksModel", "lineName", "()I"⟩, 26)]
theorem lw_r3 : ∀ q ∈ lw_privs_3, lw_okq q := List.forall_mem_cons.mpr ⟨lw_p32, List.forall_mem_cons.mpr ⟨lw_p33, List.forall_mem_cons.mpr ⟨lw_p34, List.forall_mem_cons.mpr ⟨lw_p35, List.forall_mem_cons.mpr ⟨lw_p36, List.forall_mem_cons.mpr ⟨lw_p37, List.forall_mem_cons.mpr ⟨lw_p38, List.forall_mem_cons.mpr ⟨lw_p39, List.forall_mem_cons.mpr ⟨lw_p40, List.forall_mem_cons.mpr ⟨lw_p41, List.forall_mem_cons.mpr ⟨lw_p42, List.forall_mem_cons.mpr ⟨lw_p43, List.forall_mem_cons.mpr ⟨lw_p44, List.forall_mem_cons.mpr ⟨lw_p45, List.forall_mem_cons.mpr ⟨lw_p46, List.forall_mem_cons.mpr ⟨lw_p47, fun _ h => absurd h List.not_mem_nil⟩⟩⟩⟩⟩⟩⟩⟩⟩⟩⟩⟩⟩⟩⟩⟩
theorem lw_p48 : lw_okq (⟨"GridTracksModel", "is", "(IIII)Z"⟩, 26) := ⟨⟨by decide +kernel, by decide +kernel⟩, List.mem_of_getElem? (i := 865) (by decide +kernel), List.mem_of_getElem? (i := 999) (by decide +kernel), List.mem_of_getElem? (i := 1000) (by decide +kernel)⟩
theorem lw_p49 : lw_okq (⟨"GridTracksModel", "then", "(III)Z"⟩, 26) := ⟨⟨by decide +kernel, by decide +kernel⟩, List.mem_of_getElem? (i := 865) (by decide +kernel), List.mem_of_getElem? (i := 1003) (by decide +kernel), List.mem_of_getElem? (i := 1004) (by decide +kernel)⟩
theorem lw_p50 : lw_okq (⟨"GridTracksModel", "readLineOf", "(I)V"⟩, 26) := ⟨⟨by decide +kernel, by decide +kernel⟩, List.mem_of_getElem? (i := 865) (by decide +kernel), List.mem_of_getElem? (i := 1007) (by decide +kernel), List.mem_of_getElem? (i := 1008) (by decide +kernel)⟩
theorem lw_p51 : lw_okq (⟨"GridTracksModel", "readTracks", "()V"⟩, 26) := ⟨⟨by decide +kernel, by decide +kernel⟩, List.mem_of_getElem? (i := 865) (by decide +kernel), List.mem_of_getElem? (i := 1011) (by decide +kernel), List.mem_of_getElem? (i := 1012) (by decide +kernel)⟩
theorem lw_p52 : lw_okq (⟨"GridTracksModel", "isRepeat", "()Z"⟩, 26) := ⟨⟨by decide +kernel, by decide +kernel⟩, List.mem_of_getElem? (i := 865) (by decide +kernel), List.mem_of_getElem? (i := 1015) (by decide +kernel), List.mem_of_getElem? (i := 1016) (by decide +kernel)⟩
theorem lw_p53 : lw_okq (⟨"GridTracksModel", "readNumber", "(II)I"⟩, 26) := ⟨⟨by decide +kernel, by decide +kernel⟩, List.mem_of_getElem? (i := 865) (by decide +kernel), List.mem_of_getElem? (i := 1019) (by decide +kernel), List.mem_of_getElem? (i := 1020) (by decide +kernel)⟩
theorem lw_p54 : lw_okq (⟨"GridTracksModel", "trackName", "()I"⟩, 26) := ⟨⟨by decide +kernel, by decide +kernel⟩, List.mem_of_getElem? (i := 865) (by decide +kernel), List.mem_of_getElem? (i := 1023) (by decide +kernel), List.mem_of_getElem? (i := 1024) (by decide +kernel)⟩
theorem lw_p55 : lw_okq (⟨"GridTracksModel", "readLineTold", "()V"⟩, 26) := ⟨⟨by decide +kernel, by decide +kernel⟩, List.mem_of_getElem? (i := 865) (by decide +kernel), List.mem_of_getElem? (i := 1027) (by decide +kernel), List.mem_of_getElem? (i := 1028) (by decide +kernel)⟩
theorem lw_p56 : lw_okq (⟨"GridTracksModel", "lineNow", "()I"⟩, 26) := ⟨⟨by decide +kernel, by decide +kernel⟩, List.mem_of_getElem? (i := 865) (by decide +kernel), List.mem_of_getElem? (i := 1031) (by decide +kernel), List.mem_of_getElem? (i := 1032) (by decide +kernel)⟩
theorem lw_p57 : lw_okq (⟨"GridTracksModel", "readItem", "()V"⟩, 26) := ⟨⟨by decide +kernel, by decide +kernel⟩, List.mem_of_getElem? (i := 865) (by decide +kernel), List.mem_of_getElem? (i := 1036) (by decide +kernel), List.mem_of_getElem? (i := 1037) (by decide +kernel)⟩
theorem lw_p58 : lw_okq (⟨"GridTracksModel", "pinName", "()I"⟩, 26) := ⟨⟨by decide +kernel, by decide +kernel⟩, List.mem_of_getElem? (i := 865) (by decide +kernel), List.mem_of_getElem? (i := 1040) (by decide +kernel), List.mem_of_getElem? (i := 1041) (by decide +kernel)⟩
theorem lw_p59 : lw_okq (⟨"GridTracksModel", "readPin", "(I)V"⟩, 26) := ⟨⟨by decide +kernel, by decide +kernel⟩, List.mem_of_getElem? (i := 865) (by decide +kernel), List.mem_of_getElem? (i := 1044) (by decide +kernel), List.mem_of_getElem? (i := 1045) (by decide +kernel)⟩
theorem lw_p60 : lw_okq (⟨"GridTracksModel", "isWhole", "()Z"⟩, 26) := ⟨⟨by decide +kernel, by decide +kernel⟩, List.mem_of_getElem? (i := 865) (by decide +kernel), List.mem_of_getElem? (i := 1048) (by decide +kernel), List.mem_of_getElem? (i := 1049) (by decide +kernel)⟩
theorem lw_p61 : lw_okq (⟨"GridTracksModel", "find", "()V"⟩, 26) := ⟨⟨by decide +kernel, by decide +kernel⟩, List.mem_of_getElem? (i := 865) (by decide +kernel), List.mem_of_getElem? (i := 1060) (by decide +kernel), List.mem_of_getElem? (i := 1061) (by decide +kernel)⟩
theorem lw_p62 : lw_okq (⟨"GridTracksModel", "place", "()V"⟩, 26) := ⟨⟨by decide +kernel, by decide +kernel⟩, List.mem_of_getElem? (i := 865) (by decide +kernel), List.mem_of_getElem? (i := 1064) (by decide +kernel), List.mem_of_getElem? (i := 1065) (by decide +kernel)⟩
theorem lw_p63 : lw_okq (⟨"GridTracksModel", "turnOf", "(I)I"⟩, 26) := ⟨⟨by decide +kernel, by decide +kernel⟩, List.mem_of_getElem? (i := 865) (by decide +kernel), List.mem_of_getElem? (i := 1068) (by decide +kernel), List.mem_of_getElem? (i := 1069) (by decide +kernel)⟩
def lw_privs_4 : List (MethodName × Nat) := [(⟨"GridTracksModel", "is", "(IIII)Z"⟩, 26), (⟨"GridTracksModel", "then", "(III)Z"⟩, 26), (⟨"GridTracksModel", "readLineOf", "(I)V"⟩, 26), (⟨"GridTracksModel", "readTracks", "()V"⟩, 26), (⟨"GridTracksModel", "isRepeat", "()Z"⟩, 26), (⟨"GridTracksModel", "readNumber", "(II)I"⟩, 26), (⟨"GridTracksModel", "trackName", "()I"⟩, 26), (⟨"GridTracksModel", "readLineTold", "()V"⟩, 26), (⟨"GridTracksModel", "lineNow", "()I"⟩, 26), (⟨"GridTracksModel", "readItem", "()V"⟩, 26), (⟨"GridTracksModel", "pinName", "()I"⟩, 26), (⟨"GridTracksModel", "readPin", "(I)V"⟩, 26), (⟨"GridTracksModel", "isWhole", "()Z"⟩, 26), (⟨"GridTracksModel", "find", "()V"⟩, 26), (⟨"GridTracksModel", "place", "()V"⟩, 26), (⟨"GridTracksModel", "turnOf", "(I)I"⟩, 26)]
theorem lw_r4 : ∀ q ∈ lw_privs_4, lw_okq q := List.forall_mem_cons.mpr ⟨lw_p48, List.forall_mem_cons.mpr ⟨lw_p49, List.forall_mem_cons.mpr ⟨lw_p50, List.forall_mem_cons.mpr ⟨lw_p51, List.forall_mem_cons.mpr ⟨lw_p52, List.forall_mem_cons.mpr ⟨lw_p53, List.forall_mem_cons.mpr ⟨lw_p54, List.forall_mem_cons.mpr ⟨lw_p55, List.forall_mem_cons.mpr ⟨lw_p56, List.forall_mem_cons.mpr ⟨lw_p57, List.forall_mem_cons.mpr ⟨lw_p58, List.forall_mem_cons.mpr ⟨lw_p59, List.forall_mem_cons.mpr ⟨lw_p60, List.forall_mem_cons.mpr ⟨lw_p61, List.forall_mem_cons.mpr ⟨lw_p62, List.forall_mem_cons.mpr ⟨lw_p63, fun _ h => absurd h List.not_mem_nil⟩⟩⟩⟩⟩⟩⟩⟩⟩⟩⟩⟩⟩⟩⟩⟩
theorem lw_p64 : lw_okq (⟨"GridTracksModel", "of", "(II)I"⟩, 26) := ⟨⟨by decide +kernel, by decide +kernel⟩, List.mem_of_getElem? (i := 865) (by decide +kernel), List.mem_of_getElem? (i := 1072) (by decide +kernel), List.mem_of_getElem? (i := 1073) (by decide +kernel)⟩
theorem lw_p65 : lw_okq (⟨"GridTracksModel", "seeks", "(I)V"⟩, 26) := ⟨⟨by decide +kernel, by decide +kernel⟩, List.mem_of_getElem? (i := 865) (by decide +kernel), List.mem_of_getElem? (i := 1076) (by decide +kernel), List.mem_of_getElem? (i := 1077) (by decide +kernel)⟩
theorem lw_p66 : lw_okq (⟨"GridTracksModel", "holeIn", "(IIIIII)I"⟩, 26) := ⟨⟨by decide +kernel, by decide +kernel⟩, List.mem_of_getElem? (i := 865) (by decide +kernel), List.mem_of_getElem? (i := 1080) (by decide +kernel), List.mem_of_getElem? (i := 1081) (by decide +kernel)⟩
theorem lw_p67 : lw_okq (⟨"GridTracksModel", "isFree", "(IIII)Z"⟩, 26) := ⟨⟨by decide +kernel, by decide +kernel⟩, List.mem_of_getElem? (i := 865) (by decide +kernel), List.mem_of_getElem? (i := 1084) (by decide +kernel), List.mem_of_getElem? (i := 1085) (by decide +kernel)⟩
theorem lw_p68 : lw_okq (⟨"GridTracksModel", "stands", "(IIIII)V"⟩, 26) := ⟨⟨by decide +kernel, by decide +kernel⟩, List.mem_of_getElem? (i := 865) (by decide +kernel), List.mem_of_getElem? (i := 1088) (by decide +kernel), List.mem_of_getElem? (i := 1089) (by decide +kernel)⟩
theorem lw_p69 : lw_okq (⟨"GridTracksModel", "findAutos", "()V"⟩, 26) := ⟨⟨by decide +kernel, by decide +kernel⟩, List.mem_of_getElem? (i := 865) (by decide +kernel), List.mem_of_getElem? (i := 1092) (by decide +kernel), List.mem_of_getElem? (i := 1093) (by decide +kernel)⟩
theorem lw_p70 : lw_okq (⟨"GridTracksModel", "noGrowth", "()V"⟩, 26) := ⟨⟨by decide +kernel, by decide +kernel⟩, List.mem_of_getElem? (i := 865) (by decide +kernel), List.mem_of_getElem? (i := 1096) (by decide +kernel), List.mem_of_getElem? (i := 1097) (by decide +kernel)⟩
theorem lw_p71 : lw_okq (⟨"GridTracksModel", "columnsOf", "(IIZ)I"⟩, 26) := ⟨⟨by decide +kernel, by decide +kernel⟩, List.mem_of_getElem? (i := 865) (by decide +kernel), List.mem_of_getElem? (i := 1100) (by decide +kernel), List.mem_of_getElem? (i := 1101) (by decide +kernel)⟩
theorem lw_p72 : lw_okq (⟨"GridTracksModel", "dealsX", "(I)V"⟩, 26) := ⟨⟨by decide +kernel, by decide +kernel⟩, List.mem_of_getElem? (i := 865) (by decide +kernel), List.mem_of_getElem? (i := 1104) (by decide +kernel), List.mem_of_getElem? (i := 1105) (by decide +kernel)⟩
theorem lw_p73 : lw_okq (⟨"GridTracksModel", "lacksX", "(I)I"⟩, 26) := ⟨⟨by decide +kernel, by decide +kernel⟩, List.mem_of_getElem? (i := 865) (by decide +kernel), List.mem_of_getElem? (i := 1108) (by decide +kernel), List.mem_of_getElem? (i := 1109) (by decide +kernel)⟩
theorem lw_p74 : lw_okq (⟨"GridTracksModel", "deals", "(IIII)V"⟩, 26) := ⟨⟨by decide +kernel, by decide +kernel⟩, List.mem_of_getElem? (i := 865) (by decide +kernel), List.mem_of_getElem? (i := 1115) (by decide +kernel), List.mem_of_getElem? (i := 1116) (by decide +kernel)⟩
theorem lw_p75 : lw_okq (⟨"GridTracksModel", "findFlexFree", "()V"⟩, 26) := ⟨⟨by decide +kernel, by decide +kernel⟩, List.mem_of_getElem? (i := 865) (by decide +kernel), List.mem_of_getElem? (i := 1122) (by decide +kernel), List.mem_of_getElem? (i := 1123) (by decide +kernel)⟩
theorem lw_p76 : lw_okq (⟨"GridTracksModel", "findFlexIn", "()V"⟩, 26) := ⟨⟨by decide +kernel, by decide +kernel⟩, List.mem_of_getElem? (i := 865) (by decide +kernel), List.mem_of_getElem? (i := 1126) (by decide +kernel), List.mem_of_getElem? (i := 1127) (by decide +kernel)⟩
theorem lw_p77 : lw_okq (⟨"GridTracksModel", "leftWidth", "()I"⟩, 26) := ⟨⟨by decide +kernel, by decide +kernel⟩, List.mem_of_getElem? (i := 865) (by decide +kernel), List.mem_of_getElem? (i := 1130) (by decide +kernel), List.mem_of_getElem? (i := 1131) (by decide +kernel)⟩
theorem lw_p78 : lw_okq (⟨"GridTracksModel", "findLeast", "()V"⟩, 26) := ⟨⟨by decide +kernel, by decide +kernel⟩, List.mem_of_getElem? (i := 865) (by decide +kernel), List.mem_of_getElem? (i := 1134) (by decide +kernel), List.mem_of_getElem? (i := 1135) (by decide +kernel)⟩
theorem lw_p79 : lw_okq (⟨"GridTracksModel", "freezes", "(I)Z"⟩, 26) := ⟨⟨by decide +kernel, by decide +kernel⟩, List.mem_of_getElem? (i := 865) (by decide +kernel), List.mem_of_getElem? (i := 1138) (by decide +kernel), List.mem_of_getElem? (i := 1139) (by decide +kernel)⟩
def lw_privs_5 : List (MethodName × Nat) := [(⟨"GridTracksModel", "of", "(II)I"⟩, 26), (⟨"GridTracksModel", "seeks", "(I)V"⟩, 26), (⟨"GridTracksModel", "holeIn", "(IIIIII)I"⟩, 26), (⟨"GridTracksModel", "isFree", "(IIII)Z"⟩, 26), (⟨"GridTracksModel", "stands", "(IIIII)V"⟩, 26), (⟨"GridTracksModel", "findAutos", "()V"⟩, 26), (⟨"GridTracksModel", "noGrowth", "()V"⟩, 26), (⟨"GridTracksModel", "columnsOf", "(IIZ)I"⟩, 26), (⟨"GridTracksModel", "dealsX", "(I)V"⟩, 26), (⟨"GridTracksModel", "lacksX", "(I)I"⟩, 26), (⟨"GridTracksModel", "deals", "(IIII)V"⟩, 26), (⟨"GridTracksModel", "findFlexFree", "()V"⟩, 26), (⟨"GridTracksModel", "findFlexIn", "()V"⟩, 26), (⟨"GridTracksModel", "leftWidth", "()I"⟩, 26), (⟨"GridTracksModel", "findLeast", "()V"⟩, 26), (⟨"GridTracksModel", "freezes", "(I)Z"⟩, 26)]
theorem lw_r5 : ∀ q ∈ lw_privs_5, lw_okq q := List.forall_mem_cons.mpr ⟨lw_p64, List.forall_mem_cons.mpr ⟨lw_p65, List.forall_mem_cons.mpr ⟨lw_p66, List.forall_mem_cons.mpr ⟨lw_p67, List.forall_mem_cons.mpr ⟨lw_p68, List.forall_mem_cons.mpr ⟨lw_p69, List.forall_mem_cons.mpr ⟨lw_p70, List.forall_mem_cons.mpr ⟨lw_p71, List.forall_mem_cons.mpr ⟨lw_p72, List.forall_mem_cons.mpr ⟨lw_p73, List.forall_mem_cons.mpr ⟨lw_p74, List.forall_mem_cons.mpr ⟨lw_p75, List.forall_mem_cons.mpr ⟨lw_p76, List.forall_mem_cons.mpr ⟨lw_p77, List.forall_mem_cons.mpr ⟨lw_p78, List.forall_mem_cons.mpr ⟨lw_p79, fun _ h => absurd h List.not_mem_nil⟩⟩⟩⟩⟩⟩⟩⟩⟩⟩⟩⟩⟩⟩⟩⟩
theorem lw_p80 : lw_okq (⟨"GridTracksModel", "leftBy", "(I)I"⟩, 26) := ⟨⟨by decide +kernel, by decide +kernel⟩, List.mem_of_getElem? (i := 865) (by decide +kernel), List.mem_of_getElem? (i := 1142) (by decide +kernel), List.mem_of_getElem? (i := 1143) (by decide +kernel)⟩
theorem lw_p81 : lw_okq (⟨"GridTracksModel", "openShares", "()I"⟩, 26) := ⟨⟨by decide +kernel, by decide +kernel⟩, List.mem_of_getElem? (i := 865) (by decide +kernel), List.mem_of_getElem? (i := 1146) (by decide +kernel), List.mem_of_getElem? (i := 1147) (by decide +kernel)⟩
theorem lw_p82 : lw_okq (⟨"GridTracksModel", "isOpen", "(I)Z"⟩, 26) := ⟨⟨by decide +kernel, by decide +kernel⟩, List.mem_of_getElem? (i := 865) (by decide +kernel), List.mem_of_getElem? (i := 1150) (by decide +kernel), List.mem_of_getElem? (i := 1151) (by decide +kernel)⟩
theorem lw_p83 : lw_okq (⟨"GridTracksModel", "findRows", "()V"⟩, 26) := ⟨⟨by decide +kernel, by decide +kernel⟩, List.mem_of_getElem? (i := 865) (by decide +kernel), List.mem_of_getElem? (i := 1154) (by decide +kernel), List.mem_of_getElem? (i := 1155) (by decide +kernel)⟩
theorem lw_p84 : lw_okq (⟨"GridTracksModel", "dealsY", "(I)V"⟩, 26) := ⟨⟨by decide +kernel, by decide +kernel⟩, List.mem_of_getElem? (i := 865) (by decide +kernel), List.mem_of_getElem? (i := 1158) (by decide +kernel), List.mem_of_getElem? (i := 1159) (by decide +kernel)⟩
theorem lw_p85 : lw_okq (⟨"GridTracksModel", "lacksY", "(I)I"⟩, 26) := ⟨⟨by decide +kernel, by decide +kernel⟩, List.mem_of_getElem? (i := 865) (by decide +kernel), List.mem_of_getElem? (i := 1162) (by decide +kernel), List.mem_of_getElem? (i := 1163) (by decide +kernel)⟩
theorem lw_p86 : lw_okq (⟨"GridTracksModel", "lost", "()I"⟩, 26) := ⟨⟨by decide +kernel, by decide +kernel⟩, List.mem_of_getElem? (i := 865) (by decide +kernel), List.mem_of_getElem? (i := 1166) (by decide +kernel), List.mem_of_getElem? (i := 1167) (by decide +kernel)⟩
theorem lw_p87 : lw_okq (⟨"GridTracksModel", "isColumn", "(I)Z"⟩, 26) := ⟨⟨by decide +kernel, by decide +kernel⟩, List.mem_of_getElem? (i := 865) (by decide +kernel), List.mem_of_getElem? (i := 1174) (by decide +kernel), List.mem_of_getElem? (i := 1175) (by decide +kernel)⟩
theorem lw_p88 : lw_okq (⟨"GridTracksModel", "startX", "(I)I"⟩, 26) := ⟨⟨by decide +kernel, by decide +kernel⟩, List.mem_of_getElem? (i := 865) (by decide +kernel), List.mem_of_getElem? (i := 1178) (by decide +kernel), List.mem_of_getElem? (i := 1179) (by decide +kernel)⟩
theorem lw_p89 : lw_okq (⟨"GridTracksModel", "startY", "(I)I"⟩, 26) := ⟨⟨by decide +kernel, by decide +kernel⟩, List.mem_of_getElem? (i := 865) (by decide +kernel), List.mem_of_getElem? (i := 1189) (by decide +kernel), List.mem_of_getElem? (i := 1190) (by decide +kernel)⟩
theorem lw_p90 : lw_okq (⟨"GridTracksModel", "isItem", "(I)Z"⟩, 26) := ⟨⟨by decide +kernel, by decide +kernel⟩, List.mem_of_getElem? (i := 865) (by decide +kernel), List.mem_of_getElem? (i := 1197) (by decide +kernel), List.mem_of_getElem? (i := 1198) (by decide +kernel)⟩
theorem lw_p91 : lw_okq (⟨"GridTracksModel", "boxOf", "(II)I"⟩, 26) := ⟨⟨by decide +kernel, by decide +kernel⟩, List.mem_of_getElem? (i := 865) (by decide +kernel), List.mem_of_getElem? (i := 1215) (by decide +kernel), List.mem_of_getElem? (i := 1216) (by decide +kernel)⟩
theorem lw_p92 : lw_okq (⟨"GridTracksModel", "spanX", "(II)I"⟩, 26) := ⟨⟨by decide +kernel, by decide +kernel⟩, List.mem_of_getElem? (i := 865) (by decide +kernel), List.mem_of_getElem? (i := 1219) (by decide +kernel), List.mem_of_getElem? (i := 1220) (by decide +kernel)⟩
theorem lw_p93 : lw_okq (⟨"GridTracksModel", "spanY", "(II)I"⟩, 26) := ⟨⟨by decide +kernel, by decide +kernel⟩, List.mem_of_getElem? (i := 865) (by decide +kernel), List.mem_of_getElem? (i := 1223) (by decide +kernel), List.mem_of_getElem? (i := 1224) (by decide +kernel)⟩
theorem lw_p94 : lw_okq (⟨"GridTracksModel", "isBox", "(II)Z"⟩, 26) := ⟨⟨by decide +kernel, by decide +kernel⟩, List.mem_of_getElem? (i := 865) (by decide +kernel), List.mem_of_getElem? (i := 1243) (by decide +kernel), List.mem_of_getElem? (i := 1244) (by decide +kernel)⟩
theorem lw_p95 : lw_okq (⟨"GridTracksModel", "comes", "(IIII)V"⟩, 26) := ⟨⟨by decide +kernel, by decide +kernel⟩, List.mem_of_getElem? (i := 865) (by decide +kernel), List.mem_of_getElem? (i := 1256) (by decide +kernel), List.mem_of_getElem? (i := 1257) (by decide +kernel)⟩
def lw_privs_6 : List (MethodName × Nat) := [(⟨"GridTracksModel", "leftBy", "(I)I"⟩, 26), (⟨"GridTracksModel", "openShares", "()I"⟩, 26), (⟨"GridTracksModel", "isOpen", "(I)Z"⟩, 26), (⟨"GridTracksModel", "findRows", "()V"⟩, 26), (⟨"GridTracksModel", "dealsY", "(I)V"⟩, 26), (⟨"GridTracksModel", "lacksY", "(I)I"⟩, 26), (⟨"GridTracksModel", "lost", "()I"⟩, 26), (⟨"GridTracksModel", "isColumn", "(I)Z"⟩, 26), (⟨"GridTracksModel", "startX", "(I)I"⟩, 26), (⟨"GridTracksModel", "startY", "(I)I"⟩, 26), (⟨"GridTracksModel", "isItem", "(I)Z"⟩, 26), (⟨"GridTracksModel", "boxOf", "(II)I"⟩, 26), (⟨"GridTracksModel", "spanX", "(II)I"⟩, 26), (⟨"GridTracksModel", "spanY", "(II)I"⟩, 26), (⟨"GridTracksModel", "isBox", "(II)Z"⟩, 26), (⟨"GridTracksModel", "comes", "(IIII)V"⟩, 26)]
theorem lw_r6 : ∀ q ∈ lw_privs_6, lw_okq q := List.forall_mem_cons.mpr ⟨lw_p80, List.forall_mem_cons.mpr ⟨lw_p81, List.forall_mem_cons.mpr ⟨lw_p82, List.forall_mem_cons.mpr ⟨lw_p83, List.forall_mem_cons.mpr ⟨lw_p84, List.forall_mem_cons.mpr ⟨lw_p85, List.forall_mem_cons.mpr ⟨lw_p86, List.forall_mem_cons.mpr ⟨lw_p87, List.forall_mem_cons.mpr ⟨lw_p88, List.forall_mem_cons.mpr ⟨lw_p89, List.forall_mem_cons.mpr ⟨lw_p90, List.forall_mem_cons.mpr ⟨lw_p91, List.forall_mem_cons.mpr ⟨lw_p92, List.forall_mem_cons.mpr ⟨lw_p93, List.forall_mem_cons.mpr ⟨lw_p94, List.forall_mem_cons.mpr ⟨lw_p95, fun _ h => absurd h List.not_mem_nil⟩⟩⟩⟩⟩⟩⟩⟩⟩⟩⟩⟩⟩⟩⟩⟩
theorem lw_p96 : lw_okq (⟨"GridTracksModel", "becomes", "(II)I"⟩, 26) := ⟨⟨by decide +kernel, by decide +kernel⟩, List.mem_of_getElem? (i := 865) (by decide +kernel), List.mem_of_getElem? (i := 1272) (by decide +kernel), List.mem_of_getElem? (i := 1273) (by decide +kernel)⟩
theorem lw_p97 : lw_okq (⟨"GridTracksModel", "pinned", "()I"⟩, 26) := ⟨⟨by decide +kernel, by decide +kernel⟩, List.mem_of_getElem? (i := 865) (by decide +kernel), List.mem_of_getElem? (i := 1338) (by decide +kernel), List.mem_of_getElem? (i := 1339) (by decide +kernel)⟩
theorem lw_p98 : lw_okq (⟨"GridTracksModel", "sharesOfAll", "()I"⟩, 26) := ⟨⟨by decide +kernel, by decide +kernel⟩, List.mem_of_getElem? (i := 865) (by decide +kernel), List.mem_of_getElem? (i := 1342) (by decide +kernel), List.mem_of_getElem? (i := 1343) (by decide +kernel)⟩
theorem lw_p99 : lw_okq (⟨"GridTracksModel", "needsOfAll", "()I"⟩, 26) := ⟨⟨by decide +kernel, by decide +kernel⟩, List.mem_of_getElem? (i := 865) (by decide +kernel), List.mem_of_getElem? (i := 1346) (by decide +kernel), List.mem_of_getElem? (i := 1347) (by decide +kernel)⟩
def lw_privs_7 : List (MethodName × Nat) := [(⟨"GridTracksModel", "becomes", "(II)I"⟩, 26), (⟨"GridTracksModel", "pinned", "()I"⟩, 26), (⟨"GridTracksModel", "sharesOfAll", "()I"⟩, 26), (⟨"GridTracksModel", "needsOfAll", "()I"⟩, 26)]
theorem lw_r7 : ∀ q ∈ lw_privs_7, lw_okq q := List.forall_mem_cons.mpr ⟨lw_p96, List.forall_mem_cons.mpr ⟨lw_p97, List.forall_mem_cons.mpr ⟨lw_p98, List.forall_mem_cons.mpr ⟨lw_p99, fun _ h => absurd h List.not_mem_nil⟩⟩⟩⟩
def lw_privs : List (MethodName × Nat) := lw_privs_1 ++ (lw_privs_2 ++ (lw_privs_3 ++ (lw_privs_4 ++ (lw_privs_5 ++ (lw_privs_6 ++ (lw_privs_7))))))
def lw_tbl : List Cond := k2_sels lw_privs ++ tables_1
theorem lw_privs_ok : ∀ q ∈ lw_privs, lw_okq q := by
  show ∀ q ∈ lw_privs_1 ++ (lw_privs_2 ++ (lw_privs_3 ++ (lw_privs_4 ++ (lw_privs_5 ++ (lw_privs_6 ++ (lw_privs_7)))))), lw_okq q
  exact List.forall_mem_append.mpr ⟨lw_r1, List.forall_mem_append.mpr ⟨lw_r2, List.forall_mem_append.mpr ⟨lw_r3, List.forall_mem_append.mpr ⟨lw_r4, List.forall_mem_append.mpr ⟨lw_r5, List.forall_mem_append.mpr ⟨lw_r6, lw_r7⟩⟩⟩⟩⟩⟩

def va_AOA (ty : FieldType) (U : State) : Prop := (Cond.arrayOver (.array ty)).before #[] U = true
theorem va_AOA.use {ty : FieldType} {A : Array Value} {U : State} (h : va_AOA ty U) : (Cond.arrayOver (.array ty)).before A U = true := h

/-! ===== BEGIN new T[n][m]: the outer array a place, the inner ones among the pooled ===== -/
/-- f, but v at every address of l -/
def vr_up {α : Type} (f : Nat → α) (l : List Nat) (v : α) : Nat → α := fun a => if a ∈ l then v else f a
theorem vr_up_in {α : Type} {f : Nat → α} {l : List Nat} {v : α} {a : Nat} (h : a ∈ l) : vr_up f l v a = v := if_pos h
theorem vr_up_ne {α : Type} {f : Nat → α} {l : List Nat} {v : α} {a : Nat} (h : a ∉ l) : vr_up f l v a = f a := if_neg h
theorem vr_rows {L l : List Nat} {f : Nat → va_E} {e : va_E} (h : ∀ a, a ∈ l → a ∉ L) : va_pl L f ++ l.map (fun a => (a, e)) = va_pl (L ++ l) (vr_up f l e) := by
  unfold va_pl
  rw [List.map_append]
  congr 1
  · apply List.map_congr_left
    intro a ha
    rw [vr_up_ne (fun q => h a q ha)]
  · apply List.map_congr_left
    intro a ha
    rw [vr_up_in ha]
theorem vr_lay {X rows : va_W} {x : Nat × va_E} {pl : va_W} {D : va_G} {cl : List vw_C} {H : Heap} (hP : va_P D cl (((X ++ pl) ++ [x]) ++ rows) H) : va_P D cl ((X ++ [x]) ++ (pl ++ rows)) H := by
  rw [List.append_assoc (X ++ pl)] at hP
  have h := va_P.swap hP
  rw [← List.append_assoc X] at h
  have h2 := va_P.swap h
  rw [List.append_assoc (X ++ [x])] at h2
  exact h2
theorem vr_layD {X rows : va_W} {x : Nat × va_E} {pl : va_W} {A : Nat → Prop} (hD : va_D A (((X ++ pl) ++ [x]) ++ rows)) : va_D A ((X ++ [x]) ++ (pl ++ rows)) := by
  rw [List.append_assoc (X ++ pl)] at hD
  have h := va_D.swap hD
  rw [← List.append_assoc X] at h
  have h2 := va_D.swap h
  rw [List.append_assoc (X ++ [x])] at h2
  exact h2
theorem vr_outer (c : ClassId) (N h0 : Nat) : ∀ i : Nat, Jvm.Free.Multi.outerC c N h0 i = arrV c N (fun j => va_rf (if j < i then some (h0 + 1 + j) else none))
  | 0 => by
    show ({ cls := c, slots := Array.replicate N .null, vm := .none } : Cell) = _
    rw [arrV_new]
    refine congrArg (arrV c N) (funext fun j => ?_)
    simp [va_rf]
  | i + 1 => by
    show (Jvm.Free.Multi.outerC c N h0 i).setSlot i (.ref (h0 + 1 + i)) = _
    rw [vr_outer c N h0 i, arrV_store]
    refine congrArg (arrV c N) (funext fun j => ?_)
    by_cases e : j = i
    · subst e
      simp [updV, va_rf]
    · by_cases h : j < i
      · simp [updV, e, h, Nat.lt_succ_of_lt h]
      · simp [updV, e, h, show ¬ j < i + 1 by omega]
section VGM
variable {p : Program} {l : Launch} {e : Env} {R : Room} {s : State} {m : MethodId} {args : Array Value} {below : List Frame} {meth : Method} {c : Code} {H : Heap} {locs : List Loc} {cells slots : Nat} {Q : State → Prop}
variable {cc : ByteArray} {pc : Nat} {ls : Array Slot} {rest : List Value} {D : va_G} {cl : List vw_C} {A : Nat → Prop} {a : Nat} {tys : List (ClassId × FieldType)} {ws : va_W} {H0 : Heap}
theorem va_mna {X : va_W} {L : List Nat} {f : Nat → va_E} {cc : ByteArray} (hexec : p.tables.exec = Jvm.exec) (hb : c.code = cc) {own : String} {index : Nat} {ty : FieldType} {cy : ClassId} (hown : s.vm.findClass own = some m.cls) (hclink : (Cond.classLink own index ("[" ++ (FieldType.array ty).toString)).before args s = true) (hover : va_AOA ty s) (harr : (Cond.arrayClass ty).before args s = true) (hcy : s.vm.findClass (FieldType.array ty).toString = some cy)
    (hK : va_K D cl tys s) (hP : va_P D cl (X ++ va_pl L f) H) (hD : va_D A (X ++ va_pl L f)) (hS : va_S A H0 H locs) (hA : ∀ q, H0.size ≤ q → A q) {n k : Int32} {N' K' : Nat} {z : vp_A} (hn : ¬ n < 0) (hk : ¬ k < 0) (hN : n.toNatClampNeg = N') (hM : k.toNatClampNeg = K')
    (hb1 : N' * 4 ≤ 536870912) (hb2 : K' * componentBytes ty ≤ 536870912) (hb3 : K' ≤ 536870912) (hdf : fits ty (defaultValue ty) = true) (hdd : (defaultValue ty).isDefault = true) (hcells : cells + (1 + N') ≤ R.cells) (hslots : slots + (N' + N' * K') ≤ R.slots) (hz : ∀ c : ClassId, Jvm.Free.Multi.innerC c K' (defaultValue ty) = vp_cell c z) (hdg : decode cc pc = .ok (.multianewarray index 2, 4))
    (kk : ∀ (q : Nat) (r : Nat → Nat) (cA : ClassId) (H1 : Heap), (∀ i j : Nat, i < N' → j < N' → r i = r j → i = j) → (∀ i : Nat, i < N' → r i ∉ L) → va_K D cl (tys ++ [(cA, .array ty)]) s →
      va_P D cl ((X ++ [(q, .inl (cA, N', .inr (.inr (.inr (.inr (fun i => if i < N' then some (r i) else none))))))]) ++ va_pl (L ++ (List.range N').map r) (vr_up f ((List.range N').map r) (.inl (cy, z)))) H1 → va_D A ((X ++ [(q, .inl (cA, N', .inr (.inr (.inr (.inr (fun i => if i < N' then some (r i) else none))))))]) ++ va_pl (L ++ (List.range N').map r) (vr_up f ((List.range N').map r) (.inl (cy, z)))) → va_S A H0 H1 locs →
      W p l e R s m args below meth c H1 locs (cells + 1 + N') (slots + N' + N' * K') Q (F0 m (pc + 4) ls (.ref q :: rest))) : W p l e R s m args below meth c H locs cells slots Q (F0 m pc ls (.int k :: .int n :: rest)) := by
  subst hN
  subst hM
  intro T hT Xs
  obtain ⟨vm₁, cA, comp, -, fA, fC, hO, -, X', step⟩ := Xs.multianewarray2F hexec hown hclink (va_AOA.use hover) harr (g := F0 m pc ls (.int k :: .int n :: rest)) rfl (by rw [hb]; exact hdg) rfl hn hk hb1 hb2 hb3 hdf hdd hcells hslots
  have ec : some cy = some comp := hcy.symm.trans fC
  cases ec
  generalize hF : Jvm.Free.Multi.fill (T.setVm vm₁) cA cy n.toNatClampNeg k.toNatClampNeg (defaultValue ty) n.toNatClampNeg = F at X' step
  have hTh : (T.setVm vm₁).heap = H := hT
  obtain ⟨f1, f2, -, -⟩ := Jvm.Free.Multi.fill_facts (T.setVm vm₁) cA cy n.toNatClampNeg k.toNatClampNeg (defaultValue ty) n.toNatClampNeg
  rw [hF, hTh] at f1 f2
  have hold : ∀ x : Nat, x < H.size → F.heap[x]? = H[x]? := fun x hx => by
    have := Jvm.Free.Multi.fill_old (T.setVm vm₁) cA cy n.toNatClampNeg k.toNatClampNeg (defaultValue ty) (a := x) (by rw [hTh]; exact hx) n.toNatClampNeg
    rw [hF, hTh] at this
    exact this
  have hrow : ∀ j : Nat, j < n.toNatClampNeg → F.heap[H.size + 1 + j]? = some (vp_cell cy z) := fun j hj => by
    have := Jvm.Free.Multi.fill_inner (T.setVm vm₁) cA cy n.toNatClampNeg k.toNatClampNeg (defaultValue ty) n.toNatClampNeg j hj
    rw [hF, hTh, hz] at this
    exact this
  have hout : Jvm.Free.Multi.outerC cA n.toNatClampNeg H.size n.toNatClampNeg = vp_cell cA (n.toNatClampNeg, .inr (.inr (.inr (.inr (fun i => if i < n.toNatClampNeg then some (H.size + 1 + i) else none))))) := by
    rw [vp_cell_q]
    exact vr_outer cA n.toNatClampNeg H.size n.toNatClampNeg
  rw [hout] at f2
  have hlt : ∀ a, a ∈ L → a < H.size := fun a ha => by
    obtain ⟨k9, hk9⟩ := va_pl_get (X := X) (f := f) ha
    exact (hP k9 _ hk9).lt
  have hnl : ∀ i : Nat, i < n.toNatClampNeg → H.size + 1 + i ∉ L := fun i _ h => by
    have := hlt _ h
    omega
  have hnm : ∀ a, a ∈ (List.range n.toNatClampNeg).map (fun i => H.size + 1 + i) → a ∉ L := fun a ha h => by
    obtain ⟨i, -, rfl⟩ := List.mem_map.mp ha
    have := hlt _ h
    omega
  have hP0 : va_P D cl (X ++ va_pl L f) F.heap := hP.kept (fun k9 x hx => hold x.1 ((hP k9 x hx).lt))
  have hP1 : va_P D cl ((X ++ va_pl L f) ++ [(H.size, .inl (cA, n.toNatClampNeg, .inr (.inr (.inr (.inr (fun i => if i < n.toNatClampNeg then some (H.size + 1 + i) else none))))))]) F.heap := hP0.app (fun k9 x hx => by
    have h0 : k9 < 1 := (List.getElem?_eq_some_iff.mp hx).1
    rw [show k9 = 0 by omega] at hx
    cases hx
    exact f2)
  have hP2 : va_P D cl (((X ++ va_pl L f) ++ [(H.size, .inl (cA, n.toNatClampNeg, .inr (.inr (.inr (.inr (fun i => if i < n.toNatClampNeg then some (H.size + 1 + i) else none))))))]) ++ ((List.range n.toNatClampNeg).map (fun i => H.size + 1 + i)).map (fun a => (a, .inl (cy, z)))) F.heap := hP1.app (fun k9 x hx => by
    obtain ⟨a, ha, rfl⟩ := List.mem_map.mp (List.mem_of_getElem? hx)
    obtain ⟨i, hi, rfl⟩ := List.mem_map.mp ha
    exact hrow i (List.mem_range.mp hi))
  have hD2 : va_D A (((X ++ va_pl L f) ++ [(H.size, .inl (cA, n.toNatClampNeg, .inr (.inr (.inr (.inr (fun i => if i < n.toNatClampNeg then some (H.size + 1 + i) else none))))))]) ++ ((List.range n.toNatClampNeg).map (fun i => H.size + 1 + i)).map (fun a => (a, .inl (cy, z)))) := by
    have hD1 := hD.push (e := .inl (cA, n.toNatClampNeg, .inr (.inr (.inr (.inr (fun i => if i < n.toNatClampNeg then some (H.size + 1 + i) else none)))))) hP rfl (hA _ hS.1)
    generalize hW1 : (X ++ va_pl L f) ++ [(H.size, .inl (cA, n.toNatClampNeg, .inr (.inr (.inr (.inr (fun i => if i < n.toNatClampNeg then some (H.size + 1 + i) else none))))))] = W1 at hD1 hP1 ⊢
    have hle : ∀ (k9 : Nat) (x : Nat × va_E), W1[k9]? = some x → x.1 ≤ H.size := fun k9 x hx => by
      rw [← hW1] at hx
      by_cases hl : k9 < (X ++ va_pl L f).length
      · rw [List.getElem?_append_left hl] at hx
        exact Nat.le_of_lt ((hP k9 x hx).lt)
      · rw [List.getElem?_append_right (by omega)] at hx
        have h0 : k9 - (X ++ va_pl L f).length < 1 := (List.getElem?_eq_some_iff.mp hx).1
        rw [show k9 - (X ++ va_pl L f).length = 0 by omega] at hx
        cases hx
        exact Nat.le_refl _
    have hr : ∀ (k9 : Nat) (x : Nat × va_E), (((List.range n.toNatClampNeg).map (fun i => H.size + 1 + i)).map (fun a => ((a, .inl (cy, z)) : Nat × va_E)))[k9]? = some x → x.1 = H.size + 1 + k9 := fun k9 x hx => by
      rw [List.getElem?_map, List.getElem?_map] at hx
      by_cases h9 : k9 < n.toNatClampNeg
      · rw [List.getElem?_range h9] at hx
        cases hx
        rfl
      · have hn0 : (List.range n.toNatClampNeg)[k9]? = none := List.getElem?_eq_none (by rw [List.length_range]; omega)
        rw [hn0] at hx
        cases hx
    refine ⟨fun i j x y hi hj hxy => ?_, fun k9 x hx => ?_⟩
    · by_cases h1 : i < W1.length <;> by_cases h2 : j < W1.length
      · rw [List.getElem?_append_left h1] at hi
        rw [List.getElem?_append_left h2] at hj
        exact hD1.1 i j x y hi hj hxy
      · rw [List.getElem?_append_left h1] at hi
        rw [List.getElem?_append_right (by omega)] at hj
        have := hle _ _ hi
        have := hr _ _ hj
        omega
      · rw [List.getElem?_append_right (by omega)] at hi
        rw [List.getElem?_append_left h2] at hj
        have := hle _ _ hj
        have := hr _ _ hi
        omega
      · rw [List.getElem?_append_right (by omega)] at hi hj
        have := hr _ _ hi
        have := hr _ _ hj
        omega
    · by_cases h1 : k9 < W1.length
      · rw [List.getElem?_append_left h1] at hx
        exact hD1.2 k9 x hx
      · rw [List.getElem?_append_right (by omega)] at hx
        have := hr _ _ hx
        exact hA _ (by have := hS.1; omega)
  have hAr : ArrOfT s cA (.array ty) := fun N9 z9 => by
    obtain ⟨-, k9, hk9, cm9, hkk9⟩ := (hO 0 0 0).1
    exact ⟨(fun q hq => by cases hq), k9, hk9, cm9, hkk9⟩
  have hK2 : va_K D cl (tys ++ [(cA, .array ty)]) s := ⟨hK.1, fun k9 x hx => by
    by_cases hl : k9 < tys.length
    · rw [List.getElem?_append_left hl] at hx
      exact hK.2 k9 x hx
    · rw [List.getElem?_append_right (by omega)] at hx
      have h0 : k9 - tys.length < 1 := (List.getElem?_eq_some_iff.mp hx).1
      rw [show k9 - tys.length = 0 by omega] at hx
      cases hx
      exact ⟨hAr, fA⟩⟩
  obtain ⟨t, a1, b1⟩ := kk H.size (fun i => H.size + 1 + i) cA F.heap (fun i j _ _ h => by have h9 : H.size + 1 + i = H.size + 1 + j := h; omega) hnl hK2 (by rw [← vr_rows hnm]; exact vr_lay hP2) (by rw [← vr_rows hnm]; exact vr_layD hD2) ⟨by rw [f1]; have := hS.1; omega, fun x h1 h2 => (hold x (Nat.lt_of_lt_of_le h1 hS.1)).trans (hS.2.1 x h1 h2), hS.2.2⟩ F rfl X'
  refine ⟨t, step t ?_, b1⟩
  have e : T.heap.size = H.size := by rw [hT]
  rw [e]
  exact a1
end VGM
/-! ===== END ===== -/


def RX0 : String := "GridTracks$Axis"
def TX0 : u_T := fun k => match k with
  | 0 => ("GridTracks$Axis", "tracks", "I", false)
  | 1 => ("GridTracks$Axis", "gap", "I", false)
  | 2 => ("GridTracks$Axis", "kinds", "[I", true)
  | 3 => ("GridTracks$Axis", "numbers", "[I", true)
  | 4 => ("GridTracks$Axis", "sizes", "[I", true)
  | 5 => ("GridTracks$Axis", "growth", "[I", true)
  | 6 => ("GridTracks$Axis", "guests", "I", false)
  | 7 => ("GridTracks$Axis", "firsts", "[I", true)
  | 8 => ("GridTracks$Axis", "spans", "[I", true)
  | _ => ("GridTracks$Axis", "needs", "[I", true)
def tyX0 : Nat → FieldType := fun k => match k with
  | 0 => .int
  | 1 => .int
  | 2 => .array .int
  | 3 => .array .int
  | 4 => .array .int
  | 5 => .array .int
  | 6 => .int
  | 7 => .array .int
  | 8 => .array .int
  | _ => .array .int
theorem nmX0 : ∀ a, a < 10 → ∀ b, b < 10 → a ≠ b → (TX0 a).2.1 ≠ (TX0 b).2.1 := by decide +kernel
theorem tyX0_ok : ∀ k, k < 10 → parseFieldDescriptor (TX0 k).2.2.1 = some (tyX0 k) := by decide +kernel
def RX1 : String := "GridTracks$Grid"
def TX1 : u_T := fun k => match k with
  | 0 => ("GridTracks$Grid", "columns", "I", false)
  | 1 => ("GridTracks$Grid", "kinds", "[I", true)
  | 2 => ("GridTracks$Grid", "numbers", "[I", true)
  | 3 => ("GridTracks$Grid", "gapAcross", "I", false)
  | 4 => ("GridTracks$Grid", "gapDown", "I", false)
  | 5 => ("GridTracks$Grid", "width", "I", false)
  | 6 => ("GridTracks$Grid", "high", "I", false)
  | 7 => ("GridTracks$Grid", "items", "I", false)
  | 8 => ("GridTracks$Grid", "facts", "[[I", true)
  | _ => ("GridTracks$Grid", "lines", "[I", true)
def tyX1 : Nat → FieldType := fun k => match k with
  | 0 => .int
  | 1 => .array .int
  | 2 => .array .int
  | 3 => .int
  | 4 => .int
  | 5 => .int
  | 6 => .int
  | 7 => .int
  | 8 => .array (.array .int)
  | _ => .array .int
theorem nmX1 : ∀ a, a < 10 → ∀ b, b < 10 → a ≠ b → (TX1 a).2.1 ≠ (TX1 b).2.1 := by decide +kernel
theorem tyX1_ok : ∀ k, k < 10 → parseFieldDescriptor (TX1 k).2.2.1 = some (tyX1 k) := by decide +kernel
def RX2 : String := "GridTracks$Image"
def TX2 : u_T := fun k => match k with
  | 0 => ("GridTracks$Image", "grid", "LGridTracks$Grid;", true)
  | _ => ("GridTracks$Image", "held", "Z", false)
def tyX2 : Nat → FieldType := fun k => match k with
  | 0 => .object "GridTracks$Grid"
  | _ => .boolean
theorem nmX2 : ∀ a, a < 2 → ∀ b, b < 2 → a ≠ b → (TX2 a).2.1 ≠ (TX2 b).2.1 := by decide +kernel
theorem tyX2_ok : ∀ k, k < 2 → parseFieldDescriptor (TX2 k).2.2.1 = some (tyX2 k) := by decide +kernel
def RX3 : String := "GridTracks$Placement"
def TX3 : u_T := fun k => match k with
  | 0 => ("GridTracks$Placement", "columns", "[I", true)
  | 1 => ("GridTracks$Placement", "firstRows", "[I", true)
  | 2 => ("GridTracks$Placement", "taken", "[I", true)
  | 3 => ("GridTracks$Placement", "rows", "I", false)
  | 4 => ("GridTracks$Placement", "lost", "I", false)
  | _ => ("GridTracks$Placement", "filled", "I", false)
def tyX3 : Nat → FieldType := fun k => match k with
  | 0 => .array .int
  | 1 => .array .int
  | 2 => .array .int
  | 3 => .int
  | 4 => .int
  | _ => .int
theorem nmX3 : ∀ a, a < 6 → ∀ b, b < 6 → a ≠ b → (TX3 a).2.1 ≠ (TX3 b).2.1 := by decide +kernel
theorem tyX3_ok : ∀ k, k < 6 → parseFieldDescriptor (TX3 k).2.2.1 = some (tyX3 k) := by decide +kernel
def RX4 : String := "GridTracks$Shares"
def TX4 : u_T := fun k => match k with
  | 0 => ("GridTracks$Shares", "least", "[I", true)
  | _ => ("GridTracks$Shares", "frozen", "I", false)
def tyX4 : Nat → FieldType := fun k => match k with
  | 0 => .array .int
  | _ => .int
theorem nmX4 : ∀ a, a < 2 → ∀ b, b < 2 → a ≠ b → (TX4 a).2.1 ≠ (TX4 b).2.1 := by decide +kernel
theorem tyX4_ok : ∀ k, k < 2 → parseFieldDescriptor (TX4 k).2.2.1 = some (tyX4 k) := by decide +kernel
def RX5 : String := "GridTracks$Sheet"
def TX5 : u_T := fun k => match k with
  | 0 => ("GridTracks$Sheet", "cells", "[I", true)
  | 1 => ("GridTracks$Sheet", "lane", "I", false)
  | _ => ("GridTracks$Sheet", "length", "I", false)
def tyX5 : Nat → FieldType := fun k => match k with
  | 0 => .array .int
  | 1 => .int
  | _ => .int
theorem nmX5 : ∀ a, a < 3 → ∀ b, b < 3 → a ≠ b → (TX5 a).2.1 ≠ (TX5 b).2.1 := by decide +kernel
theorem tyX5_ok : ∀ k, k < 3 → parseFieldDescriptor (TX5 k).2.2.1 = some (tyX5 k) := by decide +kernel
def RX6 : String := "GridTracks$Teller"
def TX6 : u_T := fun k => match k with
  | 0 => ("GridTracks$Teller", "tokens", "LGridTracks$Tokens;", true)
  | 1 => ("GridTracks$Teller", "draft", "LGridTracks$Grid;", true)
  | 2 => ("GridTracks$Teller", "fault", "I", false)
  | 3 => ("GridTracks$Teller", "place", "I", false)
  | 4 => ("GridTracks$Teller", "columnsTold", "Z", false)
  | 5 => ("GridTracks$Teller", "gapTold", "Z", false)
  | 6 => ("GridTracks$Teller", "widthTold", "Z", false)
  | _ => ("GridTracks$Teller", "highTold", "Z", false)
def tyX6 : Nat → FieldType := fun k => match k with
  | 0 => .object "GridTracks$Tokens"
  | 1 => .object "GridTracks$Grid"
  | 2 => .int
  | 3 => .int
  | 4 => .boolean
  | 5 => .boolean
  | 6 => .boolean
  | _ => .boolean
theorem nmX6 : ∀ a, a < 8 → ∀ b, b < 8 → a ≠ b → (TX6 a).2.1 ≠ (TX6 b).2.1 := by decide +kernel
theorem tyX6_ok : ∀ k, k < 8 → parseFieldDescriptor (TX6 k).2.2.1 = some (tyX6 k) := by decide +kernel
def RX7 : String := "GridTracks$Tokens"
def TX7 : u_T := fun k => match k with
  | 0 => ("GridTracks$Tokens", "tape", "[B", true)
  | 1 => ("GridTracks$Tokens", "length", "I", false)
  | 2 => ("GridTracks$Tokens", "kind", "I", false)
  | 3 => ("GridTracks$Tokens", "start", "I", false)
  | 4 => ("GridTracks$Tokens", "value", "I", false)
  | _ => ("GridTracks$Tokens", "behind", "I", false)
def tyX7 : Nat → FieldType := fun k => match k with
  | 0 => .array .byte
  | 1 => .int
  | 2 => .int
  | 3 => .int
  | 4 => .int
  | _ => .int
theorem nmX7 : ∀ a, a < 6 → ∀ b, b < 6 → a ≠ b → (TX7 a).2.1 ≠ (TX7 b).2.1 := by decide +kernel
theorem tyX7_ok : ∀ k, k < 6 → parseFieldDescriptor (TX7 k).2.2.1 = some (tyX7 k) := by decide +kernel
def RX8 : String := "GridTracks"
def TX8 : u_T := fun k => match k with
  | 0 => ("GridTracks", "grid", "LGridTracks$Grid;", true)
  | 1 => ("GridTracks", "teller", "LGridTracks$Teller;", true)
  | 2 => ("GridTracks", "images", "[LGridTracks$Image;", true)
  | 3 => ("GridTracks", "sheets", "[LGridTracks$Sheet;", true)
  | 4 => ("GridTracks", "placement", "LGridTracks$Placement;", true)
  | 5 => ("GridTracks", "across", "LGridTracks$Axis;", true)
  | 6 => ("GridTracks", "down", "LGridTracks$Axis;", true)
  | 7 => ("GridTracks", "shares", "LGridTracks$Shares;", true)
  | 8 => ("GridTracks", "stale", "Z", false)
  | _ => ("GridTracks", "tornFault", "I", false)
def tyX8 : Nat → FieldType := fun k => match k with
  | 0 => .object "GridTracks$Grid"
  | 1 => .object "GridTracks$Teller"
  | 2 => .array (.object "GridTracks$Image")
  | 3 => .array (.object "GridTracks$Sheet")
  | 4 => .object "GridTracks$Placement"
  | 5 => .object "GridTracks$Axis"
  | 6 => .object "GridTracks$Axis"
  | 7 => .object "GridTracks$Shares"
  | 8 => .boolean
  | _ => .int
theorem nmX8 : ∀ a, a < 10 → ∀ b, b < 10 → a ≠ b → (TX8 a).2.1 ≠ (TX8 b).2.1 := by decide +kernel
theorem tyX8_ok : ∀ k, k < 10 → parseFieldDescriptor (TX8 k).2.2.1 = some (tyX8 k) := by decide +kernel
def RX9 : String := "GridTracksModel"
def TX9 : u_T := fun k => match k with
  | 0 => ("GridTracksModel", "st", "[I", true)
  | 1 => ("GridTracksModel", "kept", "[I", true)
  | 2 => ("GridTracksModel", "isKept", "[Z", true)
  | 3 => ("GridTracksModel", "draft", "[I", true)
  | 4 => ("GridTracksModel", "isTold", "[Z", true)
  | 5 => ("GridTracksModel", "tape", "[I", true)
  | 6 => ("GridTracksModel", "taped", "I", false)
  | 7 => ("GridTracksModel", "pos", "I", false)
  | 8 => ("GridTracksModel", "begun", "I", false)
  | 9 => ("GridTracksModel", "sort", "I", false)
  | 10 => ("GridTracksModel", "value", "I", false)
  | 11 => ("GridTracksModel", "fault", "I", false)
  | 12 => ("GridTracksModel", "wrongAt", "I", false)
  | 13 => ("GridTracksModel", "places", "[I", true)
  | 14 => ("GridTracksModel", "itemC", "[I", true)
  | 15 => ("GridTracksModel", "itemR", "[I", true)
  | 16 => ("GridTracksModel", "rows", "I", false)
  | 17 => ("GridTracksModel", "sizeX", "[I", true)
  | 18 => ("GridTracksModel", "sizeY", "[I", true)
  | 19 => ("GridTracksModel", "grows", "[I", true)
  | 20 => ("GridTracksModel", "least", "[I", true)
  | 21 => ("GridTracksModel", "isFrozen", "[Z", true)
  | 22 => ("GridTracksModel", "lanes", "[I", true)
  | 23 => ("GridTracksModel", "sizes", "[I", true)
  | 24 => ("GridTracksModel", "cells", "[I", true)
  | _ => ("GridTracksModel", "torn", "I", false)
def tyX9 : Nat → FieldType := fun k => match k with
  | 0 => .array .int
  | 1 => .array .int
  | 2 => .array .boolean
  | 3 => .array .int
  | 4 => .array .boolean
  | 5 => .array .int
  | 6 => .int
  | 7 => .int
  | 8 => .int
  | 9 => .int
  | 10 => .int
  | 11 => .int
  | 12 => .int
  | 13 => .array .int
  | 14 => .array .int
  | 15 => .array .int
  | 16 => .int
  | 17 => .array .int
  | 18 => .array .int
  | 19 => .array .int
  | 20 => .array .int
  | 21 => .array .boolean
  | 22 => .array .int
  | 23 => .array .int
  | 24 => .array .int
  | _ => .int
theorem nmX9 : ∀ a, a < 26 → ∀ b, b < 26 → a ≠ b → (TX9 a).2.1 ≠ (TX9 b).2.1 := by decide +kernel
theorem tyX9_ok : ∀ k, k < 26 → parseFieldDescriptor (TX9 k).2.2.1 = some (tyX9 k) := by decide +kernel
def RL : String := "GridTracksLaw"
def RJ0 : String := "java/lang/String"
def RJ1 : String := "java/lang/StringLatin1"
def RJ2 : String := "java/lang/StringUTF16"
def RJ3 : String := "jdk/internal/util/Preconditions"
def RJ7 : String := "java/util/Arrays"
def kX0_init : Nat := 0
def kX0_begin : Nat := 1
def kX0_put : Nat := 2
def kX0_admit : Nat := 3
def kX0_startOf : Nat := 4
def kX0_extent : Nat := 5
def kX0_lack : Nat := 6
def kX0_flexShares : Nat := 7
def kX0_growBy : Nat := 8
def kX0_deal : Nat := 9
def kX0_autosOf : Nat := 10
def kX1_init : Nat := 11
def kX1_clear : Nat := 12
def kX1_become : Nat := 13
def kX1_isItemSize : Nat := 14
def kX1_isItem : Nat := 15
def kX1_isPin : Nat := 16
def kX1_isInside : Nat := 17
def kX1_append : Nat := 18
def kX1_remove : Nat := 19
def kX1_exchange : Nat := 20
def kX1_pinnedItems : Nat := 21
def kX1_allShares : Nat := 22
def kX1_allNeedsInWidth : Nat := 23
def kX2_init : Nat := 24
def kX3_init : Nat := 25
def kX3_placeAll : Nat := 26
def kX3_isLost : Nat := 27
def kX3_itemAt : Nat := 28
def kX3_firstHole : Nat := 29
def kX3_turnOf : Nat := 30
def kX3_place : Nat := 31
def kX3_isFree : Nat := 32
def kX3_bits : Nat := 33
def kX4_init : Nat := 34
def kX4_dealByNeed : Nat := 35
def kX4_dealByWidth : Nat := 36
def kX4_findLeast : Nat := 37
def kX4_isFrozen : Nat := 38
def kX4_isOpen : Nat := 39
def kX4_openShares : Nat := 40
def kX4_openWidth : Nat := 41
def kX4_freeze : Nat := 42
def kX4_dealParts : Nat := 43
def kX5_init : Nat := 44
def kX5_renew : Nat := 45
def kX5_faultAs : Nat := 46
def kX5_faultOf : Nat := 47
def kX5_write : Nat := 48
def kX6_init : Nat := 49
def kX6_tellAll : Nat := 50
def kX6_clear : Nat := 51
def kX6_isDraftWhole : Nat := 52
def kX6_takeLine : Nat := 53
def kX6_takeColumns : Nat := 54
def kX6_takeTrack : Nat := 55
def kX6_trackKind : Nat := 56
def kX6_repeatTracks : Nat := 57
def kX6_takeGap : Nat := 58
def kX6_takeWidth : Nat := 59
def kX6_takeHigh : Nat := 60
def kX6_takeNamedLine : Nat := 61
def kX6_takeItemLine : Nat := 62
def kX6_takePin : Nat := 63
def kX6_takePinLetter : Nat := 64
def kX6_takeNumber : Nat := 65
def kX6_takeSemicolon : Nat := 66
def kX6_refuse : Nat := 67
def kX6_refuseToken : Nat := 68
def kX7_init : Nat := 69
def kX7_append : Nat := 70
def kX7_rewind : Nat := 71
def kX7_advance : Nat := 72
def kX7_isName : Nat := 73
def kX7_letter : Nat := 74
def kX8_init : Nat := 75
def kX8_feed : Nat := 76
def kX8_end : Nat := 77
def kX8_text : Nat := 78
def kX8_fault : Nat := 79
def kX8_rule : Nat := 80
def kX8_column : Nat := 81
def kX8_row : Nat := 82
def kX8_item : Nat := 83
def kX8_line : Nat := 84
def kX8_at : Nat := 85
def kX8_box : Nat := 86
def kX8_over : Nat := 87
def kX8_total : Nat := 88
def kX8_empty : Nat := 89
def kX8_hole : Nat := 90
def kX8_add : Nat := 91
def kX8_drop : Nat := 92
def kX8_pin : Nat := 93
def kX8_set : Nat := 94
def kX8_swap : Nat := 95
def kX8_track : Nat := 96
def kX8_width : Nat := 97
def kX8_gap : Nat := 98
def kX8_high : Nat := 99
def kX8_scatter : Nat := 100
def kX8_keep : Nat := 101
def kX8_back : Nat := 102
def kX8_sheet : Nat := 103
def kX8_lay : Nat := 104
def kX8_read : Nat := 105
def kX8_torn : Nat := 106
def kX8_count : Nat := 107
def kX8_isBetween : Nat := 108
def kX8_isLane : Nat := 109
def kX8_isTrack : Nat := 110
def kX8_isItem : Nat := 111
def kX8_imageOf : Nat := 112
def kX8_sheetOf : Nat := 113
def kX8_heldImages : Nat := 114
def kX8_forgetImages : Nat := 115
def kX8_cellsOf : Nat := 116
def kX8_takeItem : Nat := 117
def kX8_boxWidth : Nat := 118
def kX8_boxHeight : Nat := 119
def kX8_arrange : Nat := 120
def kX8_measureColumns : Nat := 121
def kX8_measureRows : Nat := 122
def kX9_init : Nat := 123
def kX9_in : Nat := 124
def kX9_flag : Nat := 125
def kX9_firstDraft : Nat := 126
def kX9_keepDraft : Nat := 127
def kX9_feed : Nat := 128
def kX9_end : Nat := 129
def kX9_requires : Nat := 130
def kX9_byteAt : Nat := 131
def kX9_is : Nat := 132
def kX9_then : Nat := 133
def kX9_lineName : Nat := 134
def kX9_trackName : Nat := 135
def kX9_pinName : Nat := 136
def kX9_isRepeat : Nat := 137
def kX9_reads : Nat := 138
def kX9_readNumber : Nat := 139
def kX9_lineNow : Nat := 140
def kX9_readTracks : Nat := 141
def kX9_readLineTold : Nat := 142
def kX9_readPin : Nat := 143
def kX9_readItem : Nat := 144
def kX9_readLineOf : Nat := 145
def kX9_readLine : Nat := 146
def kX9_isWhole : Nat := 147
def kX9_text : Nat := 148
def kX9_fault : Nat := 149
def kX9_isColumn : Nat := 150
def kX9_isItem : Nat := 151
def kX9_of : Nat := 152
def kX9_isPart : Nat := 153
def kX9_isFree : Nat := 154
def kX9_stands : Nat := 155
def kX9_holeIn : Nat := 156
def kX9_seeks : Nat := 157
def kX9_turnOf : Nat := 158
def kX9_place : Nat := 159
def kX9_lost : Nat := 160
def kX9_gapsIn : Nat := 161
def kX9_columnsOf : Nat := 162
def kX9_lacksX : Nat := 163
def kX9_lacksY : Nat := 164
def kX9_noGrowth : Nat := 165
def kX9_deals : Nat := 166
def kX9_dealsX : Nat := 167
def kX9_dealsY : Nat := 168
def kX9_findAutos : Nat := 169
def kX9_findRows : Nat := 170
def kX9_findFlexFree : Nat := 171
def kX9_findLeast : Nat := 172
def kX9_isOpen : Nat := 173
def kX9_leftWidth : Nat := 174
def kX9_leftBy : Nat := 175
def kX9_openShares : Nat := 176
def kX9_freezes : Nat := 177
def kX9_findFlexIn : Nat := 178
def kX9_find : Nat := 179
def kX9_startX : Nat := 180
def kX9_startY : Nat := 181
def kX9_spanX : Nat := 182
def kX9_spanY : Nat := 183
def kX9_rule : Nat := 184
def kX9_column : Nat := 185
def kX9_row : Nat := 186
def kX9_item : Nat := 187
def kX9_line : Nat := 188
def kX9_at : Nat := 189
def kX9_boxOf : Nat := 190
def kX9_box : Nat := 191
def kX9_over : Nat := 192
def kX9_total : Nat := 193
def kX9_empty : Nat := 194
def kX9_isBox : Nat := 195
def kX9_hole : Nat := 196
def kX9_isNeed : Nat := 197
def kX9_comes : Nat := 198
def kX9_add : Nat := 199
def kX9_drop : Nat := 200
def kX9_pin : Nat := 201
def kX9_becomes : Nat := 202
def kX9_set : Nat := 203
def kX9_swap : Nat := 204
def kX9_track : Nat := 205
def kX9_width : Nat := 206
def kX9_gap : Nat := 207
def kX9_high : Nat := 208
def kX9_scatter : Nat := 209
def kX9_keep : Nat := 210
def kX9_back : Nat := 211
def kX9_isSheet : Nat := 212
def kX9_sheet : Nat := 213
def kX9_lay : Nat := 214
def kX9_read : Nat := 215
def kX9_torn : Nat := 216
def kX9_pinned : Nat := 217
def kX9_sharesOfAll : Nat := 218
def kX9_needsOfAll : Nat := 219
def kX9_count : Nat := 220
def kJ0_length_8abf5 : Nat := 221
def kJ0_charAt_5068e : Nat := 222
def kJ0_coder_7d493 : Nat := 223
def kJ0_isLatin1_aae02 : Nat := 224
def kJ0_checkIndex_df160 : Nat := 225
def kJ1_charAt_3b067 : Nat := 226
def kJ2_getChar_3b067 : Nat := 227
def kJ2_length_9d52b : Nat := 228
def kJ2_charAt_3b067 : Nat := 229
def kJ2_checkIndex_2214a : Nat := 230
def kJ7_fill_53178 : Nat := 231
def kJ3_checkIndex_8e157 : Nat := 232
def kL_law : Nat := 233
def am_RL : List String := ["GridTracks$Axis", "GridTracks$Grid", "GridTracks$Image", "GridTracks$Placement", "GridTracks$Shares", "GridTracks$Sheet", "GridTracks$Teller", "GridTracks$Tokens", "GridTracks", "GridTracksModel", "GridTracksLaw", "java/lang/String", "java/lang/StringLatin1", "java/lang/StringUTF16", "jdk/internal/util/Preconditions", "java/util/Arrays"]
def am_R (o : Nat) : String := am_RL.getD o ""
abbrev am_cl : List vw_C := [(RX0, TX0, 10), (RX1, TX1, 10), (RX2, TX2, 2), (RX3, TX3, 6), (RX4, TX4, 2), (RX5, TX5, 3), (RX6, TX6, 8), (RX7, TX7, 6), (RX8, TX8, 10), (RX9, TX9, 26)]
abbrev am_ME : Type := MethodName × ByteArray × Nat × Option FieldType × Nat × Nat × Nat × Nat × Nat
/-- the name of the Axis's method that takes a guest in, out of the Statement's own row: a hand-in's screen takes the word itself for the tactic -/
def am_yA : MethodName := match (tables_1_3[102]? : Option Jvm.Cond) with
  | some (Jvm.Cond.code y _ _ _) => y
  | _ => ⟨"", "", ""⟩
def am_mt0 : List am_ME := [
  (⟨"GridTracks$Axis", "<init>", "()V"⟩, prog_2_method_1_code, 1, none, 0, 1, 20, 0, 330),
  (⟨"GridTracks$Axis", "begin", "(II)V"⟩, prog_2_method_2_code, 3, none, 0, 0, 0, 2, 670),
  (⟨"GridTracks$Axis", "put", "(IIII)V"⟩, prog_2_method_3_code, 5, none, 0, 0, 0, 4, 674),
  (am_yA, prog_2_method_4_code, 4, none, 0, 0, 0, 3, 682),
  (⟨"GridTracks$Axis", "startOf", "(I)I"⟩, prog_2_method_5_code, 4, (some .int), 0, 0, 0, 1, 761),
  (⟨"GridTracks$Axis", "extent", "(II)I"⟩, prog_2_method_6_code, 5, (some .int), 0, 0, 0, 2, 707),
  (⟨"GridTracks$Axis", "lack", "(I)I"⟩, prog_2_method_7_code, 2, (some .int), 0, 1, 24, 1, 703),
  (⟨"GridTracks$Axis", "flexShares", "(I)I"⟩, prog_2_method_8_code, 4, (some .int), 0, 0, 0, 1, 691),
  (⟨"GridTracks$Axis", "growBy", "(I)V"⟩, prog_2_method_9_code, 3, none, 0, 3, 71, 1, 686),
  (⟨"GridTracks$Axis", "deal", "(I)V"⟩, prog_2_method_10_code, 7, none, 0, 2, 45, 1, 695),
  (⟨"GridTracks$Axis", "autosOf", "(I)I"⟩, prog_2_method_11_code, 4, (some .int), 0, 0, 0, 1, 699),
  (⟨"GridTracks$Grid", "<init>", "()V"⟩, prog_3_method_1_code, 1, none, 1, 1, 23, 0, 130),
  (⟨"GridTracks$Grid", "clear", "()V"⟩, prog_3_method_2_code, 1, none, 1, 1, 23, 0, 450),
  (⟨"GridTracks$Grid", "become", "(LGridTracks$Grid;)V"⟩, prog_3_method_3_code, 3, none, 1, 1, 26, 1, 613),
  (⟨"GridTracks$Grid", "isItemSize", "(II)Z"⟩, prog_3_method_4_code, 3, (some .boolean), 1, 1, 22, 2, 821),
  (⟨"GridTracks$Grid", "isItem", "(IIII)Z"⟩, prog_3_method_5_code, 5, (some .boolean), 1, 2, 44, 4, 830),
  (⟨"GridTracks$Grid", "isPin", "(III)Z"⟩, prog_3_method_6_code, 4, (some .boolean), 1, 1, 22, 3, 608),
  (⟨"GridTracks$Grid", "isInside", "(I)Z"⟩, prog_3_method_7_code, 2, (some .boolean), 1, 2, 45, 1, 604),
  (⟨"GridTracks$Grid", "append", "(IIII)Z"⟩, prog_3_method_8_code, 5, (some .boolean), 1, 0, 0, 4, 581),
  (⟨"GridTracks$Grid", "remove", "(I)V"⟩, prog_3_method_9_code, 4, none, 1, 0, 0, 1, 840),
  (⟨"GridTracks$Grid", "exchange", "(II)V"⟩, prog_3_method_10_code, 5, none, 1, 0, 0, 2, 860),
  (⟨"GridTracks$Grid", "pinnedItems", "()I"⟩, prog_3_method_11_code, 3, (some .int), 1, 0, 0, 0, 951),
  (⟨"GridTracks$Grid", "allShares", "()I"⟩, prog_3_method_12_code, 3, (some .int), 1, 0, 0, 0, 959),
  (⟨"GridTracks$Grid", "allNeedsInWidth", "()I"⟩, prog_3_method_13_code, 3, (some .int), 1, 0, 0, 0, 963),
  (⟨"GridTracks$Image", "<init>", "()V"⟩, prog_4_method_1_code, 1, none, 2, 2, 43, 0, 265),
  (⟨"GridTracks$Placement", "<init>", "()V"⟩, prog_5_method_1_code, 1, none, 3, 1, 20, 0, 300),
  (⟨"GridTracks$Placement", "placeAll", "(LGridTracks$Grid;)V"⟩, prog_5_method_2_code, 4, none, 3, 4, 103, 1, 640),
  (⟨"GridTracks$Placement", "isLost", "(I)Z"⟩, prog_5_method_3_code, 2, (some .boolean), 3, 0, 0, 1, 678),
  (⟨"GridTracks$Placement", "itemAt", "(LGridTracks$Grid;II)I"⟩, prog_5_method_4_code, 5, (some .int), 3, 1, 22, 3, 785),
  (⟨"GridTracks$Placement", "firstHole", "(IIIII)I"⟩, prog_5_method_5_code, 12, (some .int), 3, 2, 46, 5, 652),
  (⟨"GridTracks$Placement", "turnOf", "(LGridTracks$Grid;I)I"⟩, prog_5_method_6_code, 2, (some .int), 3, 0, 0, 2, 644),
  (⟨"GridTracks$Placement", "place", "(LGridTracks$Grid;I)V"⟩, prog_5_method_7_code, 7, none, 3, 3, 77, 2, 648),
  (⟨"GridTracks$Placement", "isFree", "(IIII)Z"⟩, prog_5_method_8_code, 6, (some .boolean), 3, 1, 21, 4, 656),
  (⟨"GridTracks$Placement", "bits", "(II)I"⟩, prog_5_method_9_code, 2, (some .int), 3, 0, 0, 2, 659),
  (⟨"GridTracks$Shares", "<init>", "()V"⟩, prog_6_method_1_code, 1, none, 4, 1, 20, 0, 376),
  (⟨"GridTracks$Shares", "dealByNeed", "(LGridTracks$Axis;)V"⟩, prog_6_method_2_code, 6, none, 4, 2, 45, 1, 712),
  (⟨"GridTracks$Shares", "dealByWidth", "(LGridTracks$Axis;I)V"⟩, prog_6_method_3_code, 6, none, 4, 4, 92, 2, 719),
  (⟨"GridTracks$Shares", "findLeast", "(LGridTracks$Axis;)V"⟩, prog_6_method_4_code, 4, none, 4, 1, 23, 1, 724),
  (⟨"GridTracks$Shares", "isFrozen", "(I)Z"⟩, prog_6_method_5_code, 2, (some .boolean), 4, 0, 0, 1, 741),
  (⟨"GridTracks$Shares", "isOpen", "(LGridTracks$Axis;I)Z"⟩, prog_6_method_6_code, 3, (some .boolean), 4, 1, 21, 2, 737)]
def am_mt1 : List am_ME := [
  (⟨"GridTracks$Shares", "openShares", "(LGridTracks$Axis;)I"⟩, prog_6_method_7_code, 4, (some .int), 4, 2, 43, 1, 733),
  (⟨"GridTracks$Shares", "openWidth", "(LGridTracks$Axis;I)I"⟩, prog_6_method_8_code, 5, (some .int), 4, 1, 21, 2, 745),
  (⟨"GridTracks$Shares", "freeze", "(LGridTracks$Axis;I)Z"⟩, prog_6_method_9_code, 7, (some .boolean), 4, 3, 66, 2, 729),
  (⟨"GridTracks$Shares", "dealParts", "(LGridTracks$Axis;I)V"⟩, prog_6_method_10_code, 7, none, 4, 3, 66, 2, 749),
  (⟨"GridTracks$Sheet", "<init>", "()V"⟩, prog_7_method_1_code, 1, none, 5, 1, 20, 0, 282),
  (⟨"GridTracks$Sheet", "renew", "(II)V"⟩, prog_7_method_2_code, 3, none, 5, 1, 23, 2, 907),
  (⟨"GridTracks$Sheet", "faultAs", "(IJI)I"⟩, prog_7_method_3_code, 5, (some .int), 5, 1, 23, 3, 929),
  (⟨"GridTracks$Sheet", "faultOf", "(JI)I"⟩, prog_7_method_4_code, 4, (some .int), 5, 0, 0, 2, 916),
  (⟨"GridTracks$Sheet", "write", "(II)V"⟩, prog_7_method_5_code, 3, none, 5, 0, 0, 2, 920),
  (⟨"GridTracks$Teller", "<init>", "()V"⟩, prog_8_method_1_code, 1, none, 6, 2, 43, 0, 196),
  (⟨"GridTracks$Teller", "tellAll", "()I"⟩, prog_8_method_2_code, 2, (some .int), 6, 10, 212, 0, 438),
  (⟨"GridTracks$Teller", "clear", "()V"⟩, prog_8_method_3_code, 1, none, 6, 2, 43, 0, 442),
  (⟨"GridTracks$Teller", "isDraftWhole", "()Z"⟩, prog_8_method_4_code, 2, (some .boolean), 6, 3, 66, 0, 600),
  (⟨"GridTracks$Teller", "takeLine", "()Z"⟩, prog_8_method_5_code, 1, (some .boolean), 6, 9, 192, 0, 458),
  (⟨"GridTracks$Teller", "takeColumns", "()Z"⟩, prog_8_method_6_code, 3, (some .boolean), 6, 8, 170, 0, 515),
  (⟨"GridTracks$Teller", "takeTrack", "(I)Z"⟩, prog_8_method_7_code, 3, (some .boolean), 6, 7, 148, 1, 533),
  (⟨"GridTracks$Teller", "trackKind", "()I"⟩, prog_8_method_8_code, 1, (some .int), 6, 6, 128, 0, 537),
  (⟨"GridTracks$Teller", "repeatTracks", "(II)Z"⟩, prog_8_method_9_code, 4, (some .boolean), 6, 1, 21, 2, 544),
  (⟨"GridTracks$Teller", "takeGap", "()Z"⟩, prog_8_method_10_code, 1, (some .boolean), 6, 2, 44, 0, 549),
  (⟨"GridTracks$Teller", "takeWidth", "()Z"⟩, prog_8_method_11_code, 1, (some .boolean), 6, 2, 44, 0, 558),
  (⟨"GridTracks$Teller", "takeHigh", "()Z"⟩, prog_8_method_12_code, 1, (some .boolean), 6, 2, 44, 0, 563),
  (⟨"GridTracks$Teller", "takeNamedLine", "()Z"⟩, prog_8_method_13_code, 2, (some .boolean), 6, 2, 44, 0, 568),
  (⟨"GridTracks$Teller", "takeItemLine", "()Z"⟩, prog_8_method_14_code, 3, (some .boolean), 6, 7, 152, 0, 577),
  (⟨"GridTracks$Teller", "takePin", "(I)Z"⟩, prog_8_method_15_code, 5, (some .boolean), 6, 6, 128, 1, 589),
  (⟨"GridTracks$Teller", "takePinLetter", "(I)Z"⟩, prog_8_method_16_code, 3, (some .boolean), 6, 1, 21, 1, 596),
  (⟨"GridTracks$Teller", "takeNumber", "(II)Z"⟩, prog_8_method_17_code, 3, (some .boolean), 6, 1, 22, 2, 524),
  (⟨"GridTracks$Teller", "takeSemicolon", "()Z"⟩, prog_8_method_18_code, 1, (some .boolean), 6, 1, 20, 0, 553),
  (⟨"GridTracks$Teller", "refuse", "(I)Z"⟩, prog_8_method_19_code, 2, (some .boolean), 6, 0, 0, 1, 519),
  (⟨"GridTracks$Teller", "refuseToken", "()Z"⟩, prog_8_method_20_code, 1, (some .boolean), 6, 0, 0, 0, 528),
  (⟨"GridTracks$Tokens", "<init>", "()V"⟩, prog_9_method_1_code, 1, none, 7, 1, 20, 0, 202),
  (⟨"GridTracks$Tokens", "append", "(I)Z"⟩, prog_9_method_2_code, 2, (some .boolean), 7, 0, 0, 1, 426),
  (⟨"GridTracks$Tokens", "rewind", "()V"⟩, prog_9_method_3_code, 1, none, 7, 0, 0, 0, 446),
  (⟨"GridTracks$Tokens", "advance", "()V"⟩, prog_9_method_4_code, 1, none, 7, 0, 0, 0, 454),
  (⟨"GridTracks$Tokens", "isName", "(Ljava/lang/String;)Z"⟩, prog_9_method_5_code, 3, (some .boolean), 7, 5, 106, 1, 463),
  (⟨"GridTracks$Tokens", "letter", "()I"⟩, prog_9_method_6_code, 1, (some .int), 7, 0, 0, 0, 572),
  (⟨"GridTracks", "<init>", "()V"⟩, prog_1_method_1_code, 2, none, 8, 3, 63, 0, 122),
  (⟨"GridTracks", "feed", "(I)I"⟩, prog_1_method_2_code, 2, (some .int), 8, 1, 22, 1, 419),
  (⟨"GridTracks", "end", "(I)I"⟩, prog_1_method_3_code, 3, (some .int), 8, 1, 22, 1, 430),
  (⟨"GridTracks", "text", "()I"⟩, prog_1_method_4_code, 2, (some .int), 8, 11, 233, 0, 434),
  (⟨"GridTracks", "fault", "()I"⟩, prog_1_method_5_code, 1, (some .int), 8, 0, 0, 0, 628)]
def am_mt2 : List am_ME := [
  (⟨"GridTracks", "rule", "(I)I"⟩, prog_1_method_6_code, 2, (some .int), 8, 7, 158, 1, 632),
  (⟨"GridTracks", "column", "(II)I"⟩, prog_1_method_7_code, 3, (some .int), 8, 7, 158, 2, 757),
  (⟨"GridTracks", "row", "(II)I"⟩, prog_1_method_8_code, 3, (some .int), 8, 7, 158, 2, 765),
  (⟨"GridTracks", "item", "(II)I"⟩, prog_1_method_9_code, 3, (some .int), 8, 7, 158, 2, 769),
  (⟨"GridTracks", "line", "(I)I"⟩, prog_1_method_10_code, 2, (some .int), 8, 1, 22, 1, 777),
  (⟨"GridTracks", "at", "(II)I"⟩, prog_1_method_11_code, 3, (some .int), 8, 7, 158, 2, 781),
  (⟨"GridTracks", "box", "(II)I"⟩, prog_1_method_12_code, 3, (some .int), 8, 7, 158, 2, 791),
  (⟨"GridTracks", "over", "(II)I"⟩, prog_1_method_13_code, 4, (some .int), 8, 7, 158, 2, 804),
  (⟨"GridTracks", "total", "(I)I"⟩, prog_1_method_14_code, 2, (some .int), 8, 7, 158, 1, 809),
  (⟨"GridTracks", "empty", "()I"⟩, prog_1_method_15_code, 1, (some .int), 8, 7, 158, 0, 813),
  (⟨"GridTracks", "hole", "(II)I"⟩, prog_1_method_16_code, 3, (some .int), 8, 7, 158, 2, 817),
  (⟨"GridTracks", "add", "(IIII)I"⟩, prog_1_method_17_code, 5, (some .int), 8, 3, 68, 4, 826),
  (⟨"GridTracks", "drop", "(I)I"⟩, prog_1_method_18_code, 2, (some .int), 8, 2, 43, 1, 836),
  (⟨"GridTracks", "pin", "(III)I"⟩, prog_1_method_19_code, 4, (some .int), 8, 2, 45, 3, 844),
  (⟨"GridTracks", "set", "(III)I"⟩, prog_1_method_20_code, 5, (some .int), 8, 3, 66, 3, 849),
  (⟨"GridTracks", "swap", "(II)I"⟩, prog_1_method_21_code, 3, (some .int), 8, 2, 43, 2, 856),
  (⟨"GridTracks", "track", "(III)I"⟩, prog_1_method_22_code, 5, (some .int), 8, 2, 43, 3, 864),
  (⟨"GridTracks", "width", "(I)I"⟩, prog_1_method_23_code, 3, (some .int), 8, 1, 22, 1, 871),
  (⟨"GridTracks", "gap", "(II)I"⟩, prog_1_method_24_code, 4, (some .int), 8, 1, 22, 2, 875),
  (⟨"GridTracks", "high", "(I)I"⟩, prog_1_method_25_code, 3, (some .int), 8, 1, 22, 1, 879),
  (⟨"GridTracks", "scatter", "(II)I"⟩, prog_1_method_26_code, 8, (some .int), 8, 1, 24, 2, 883),
  (⟨"GridTracks", "keep", "(I)I"⟩, prog_1_method_27_code, 4, (some .int), 8, 2, 48, 1, 888),
  (⟨"GridTracks", "back", "(I)I"⟩, prog_1_method_28_code, 3, (some .int), 8, 2, 48, 1, 892),
  (⟨"GridTracks", "sheet", "(III)I"⟩, prog_1_method_29_code, 5, (some .int), 8, 2, 45, 3, 896),
  (⟨"GridTracks", "lay", "(III)I"⟩, prog_1_method_30_code, 6, (some .int), 8, 2, 43, 3, 912),
  (⟨"GridTracks", "read", "(IIII)I"⟩, prog_1_method_31_code, 12, (some .int), 8, 5, 114, 4, 924),
  (⟨"GridTracks", "torn", "()I"⟩, prog_1_method_32_code, 1, (some .int), 8, 0, 0, 0, 939),
  (⟨"GridTracks", "count", "(I)I"⟩, prog_1_method_33_code, 2, (some .int), 8, 3, 66, 1, 943),
  (⟨"GridTracks", "isBetween", "(III)Z"⟩, prog_1_method_34_code, 3, (some .boolean), 8, 0, 0, 3, 422),
  (⟨"GridTracks", "isLane", "(I)Z"⟩, prog_1_method_35_code, 1, (some .boolean), 8, 1, 22, 1, 903),
  (⟨"GridTracks", "isTrack", "(II)Z"⟩, prog_1_method_36_code, 2, (some .boolean), 8, 1, 22, 2, 867),
  (⟨"GridTracks", "isItem", "(I)Z"⟩, prog_1_method_37_code, 2, (some .boolean), 8, 1, 22, 1, 773),
  (⟨"GridTracks", "imageOf", "(I)LGridTracks$Image;"⟩, prog_1_method_38_code, 2, (some (.object "GridTracks$Image")), 8, 1, 22, 1, 624),
  (⟨"GridTracks", "sheetOf", "(I)LGridTracks$Sheet;"⟩, prog_1_method_39_code, 2, (some (.object "GridTracks$Sheet")), 8, 1, 22, 1, 900),
  (⟨"GridTracks", "heldImages", "()I"⟩, prog_1_method_40_code, 4, (some .int), 8, 2, 43, 0, 947),
  (⟨"GridTracks", "forgetImages", "()V"⟩, prog_1_method_41_code, 3, none, 8, 2, 43, 0, 620),
  (⟨"GridTracks", "cellsOf", "(I)I"⟩, prog_1_method_42_code, 3, (some .int), 8, 2, 43, 1, 955),
  (⟨"GridTracks", "takeItem", "(LGridTracks$Sheet;I)Z"⟩, prog_1_method_43_code, 3, (some .boolean), 8, 4, 92, 2, 934),
  (⟨"GridTracks", "boxWidth", "(I)I"⟩, prog_1_method_44_code, 2, (some .int), 8, 1, 24, 1, 795),
  (⟨"GridTracks", "boxHeight", "(I)I"⟩, prog_1_method_45_code, 2, (some .int), 8, 1, 24, 1, 800)]
def am_mt3 : List am_ME := [
  (⟨"GridTracks", "arrange", "()V"⟩, prog_1_method_46_code, 1, none, 8, 6, 138, 0, 636),
  (⟨"GridTracks", "measureColumns", "()V"⟩, prog_1_method_47_code, 2, none, 8, 5, 117, 0, 666),
  (⟨"GridTracks", "measureRows", "()V"⟩, prog_1_method_48_code, 2, none, 8, 4, 93, 0, 753),
  (⟨"GridTracksModel", "<init>", "()V"⟩, prog_11_method_1_code, 2, none, 9, 1, 21, 0, 968),
  (⟨"GridTracksModel", "in", "(JJJ)Z"⟩, prog_11_method_3_code, 6, (some .boolean), 9, 0, 0, 3, 1065),
  (⟨"GridTracksModel", "flag", "(Z)I"⟩, prog_11_method_4_code, 1, (some .int), 9, 0, 0, 1, 1220),
  (⟨"GridTracksModel", "firstDraft", "()V"⟩, prog_11_method_5_code, 2, none, 9, 0, 0, 0, 973),
  (⟨"GridTracksModel", "keepDraft", "()V"⟩, prog_11_method_6_code, 2, none, 9, 0, 0, 0, 977),
  (⟨"GridTracksModel", "feed", "(I)I"⟩, prog_11_method_7_code, 2, (some .int), 9, 1, 25, 1, 1061),
  (⟨"GridTracksModel", "end", "(I)I"⟩, prog_11_method_8_code, 3, (some .int), 9, 1, 25, 1, 1069),
  (⟨"GridTracksModel", "requires", "(ZI)V"⟩, prog_11_method_9_code, 3, none, 9, 0, 0, 2, 1089),
  (⟨"GridTracksModel", "byteAt", "(I)I"⟩, prog_11_method_10_code, 2, (some .int), 9, 0, 0, 1, 1081),
  (⟨"GridTracksModel", "is", "(IIII)Z"⟩, prog_11_method_11_code, 5, (some .boolean), 9, 1, 21, 4, 1101),
  (⟨"GridTracksModel", "then", "(III)Z"⟩, prog_11_method_12_code, 4, (some .boolean), 9, 1, 21, 3, 1105),
  (⟨"GridTracksModel", "lineName", "()I"⟩, prog_11_method_13_code, 1, (some .int), 9, 2, 45, 0, 1097),
  (⟨"GridTracksModel", "trackName", "()I"⟩, prog_11_method_14_code, 1, (some .int), 9, 2, 45, 0, 1125),
  (⟨"GridTracksModel", "pinName", "()I"⟩, prog_11_method_15_code, 1, (some .int), 9, 2, 45, 0, 1142),
  (⟨"GridTracksModel", "isRepeat", "()Z"⟩, prog_11_method_16_code, 1, (some .boolean), 9, 2, 45, 0, 1117),
  (⟨"GridTracksModel", "reads", "()V"⟩, prog_11_method_17_code, 2, none, 9, 1, 25, 0, 1077),
  (⟨"GridTracksModel", "readNumber", "(II)I"⟩, prog_11_method_18_code, 4, (some .int), 9, 2, 46, 2, 1121),
  (⟨"GridTracksModel", "lineNow", "()I"⟩, prog_11_method_19_code, 2, (some .int), 9, 1, 25, 0, 1133),
  (⟨"GridTracksModel", "readTracks", "()V"⟩, prog_11_method_20_code, 5, none, 9, 3, 69, 0, 1113),
  (⟨"GridTracksModel", "readLineTold", "()V"⟩, prog_11_method_21_code, 3, none, 9, 3, 69, 0, 1129),
  (⟨"GridTracksModel", "readPin", "(I)V"⟩, prog_11_method_22_code, 5, none, 9, 3, 69, 1, 1146),
  (⟨"GridTracksModel", "readItem", "()V"⟩, prog_11_method_23_code, 2, none, 9, 4, 93, 0, 1138),
  (⟨"GridTracksModel", "readLineOf", "(I)V"⟩, prog_11_method_24_code, 2, none, 9, 5, 114, 1, 1109),
  (⟨"GridTracksModel", "readLine", "()V"⟩, prog_11_method_25_code, 2, none, 9, 6, 135, 0, 1093),
  (⟨"GridTracksModel", "isWhole", "()Z"⟩, prog_11_method_26_code, 6, (some .boolean), 9, 0, 0, 0, 1150),
  (⟨"GridTracksModel", "text", "()I"⟩, prog_11_method_27_code, 2, (some .int), 9, 7, 156, 0, 1073),
  (⟨"GridTracksModel", "fault", "()I"⟩, prog_11_method_28_code, 1, (some .int), 9, 0, 0, 0, 1154),
  (⟨"GridTracksModel", "isColumn", "(I)Z"⟩, prog_11_method_29_code, 2, (some .boolean), 9, 1, 25, 1, 1276),
  (⟨"GridTracksModel", "isItem", "(I)Z"⟩, prog_11_method_30_code, 2, (some .boolean), 9, 1, 25, 1, 1299),
  (⟨"GridTracksModel", "of", "(II)I"⟩, prog_11_method_31_code, 3, (some .int), 9, 0, 0, 2, 1174),
  (⟨"GridTracksModel", "isPart", "(I)Z"⟩, prog_11_method_32_code, 1, (some .boolean), 9, 1, 25, 1, 1287),
  (⟨"GridTracksModel", "isFree", "(IIII)Z"⟩, prog_11_method_33_code, 8, (some .boolean), 9, 0, 0, 4, 1186),
  (⟨"GridTracksModel", "stands", "(IIIII)V"⟩, prog_11_method_34_code, 8, none, 9, 0, 0, 5, 1190),
  (⟨"GridTracksModel", "holeIn", "(IIIIII)I"⟩, prog_11_method_35_code, 9, (some .int), 9, 1, 27, 6, 1182),
  (⟨"GridTracksModel", "seeks", "(I)V"⟩, prog_11_method_36_code, 5, none, 9, 2, 55, 1, 1178),
  (⟨"GridTracksModel", "turnOf", "(I)I"⟩, prog_11_method_37_code, 2, (some .int), 9, 1, 22, 1, 1170),
  (⟨"GridTracksModel", "place", "()V"⟩, prog_11_method_38_code, 3, none, 9, 3, 79, 0, 1166)]
def am_mt4 : List am_ME := [
  (⟨"GridTracksModel", "lost", "()I"⟩, prog_11_method_39_code, 3, (some .int), 9, 1, 20, 0, 1268),
  (⟨"GridTracksModel", "gapsIn", "(II)I"⟩, prog_11_method_40_code, 2, (some .int), 9, 0, 0, 2, 1213),
  (⟨"GridTracksModel", "columnsOf", "(IIZ)I"⟩, prog_11_method_41_code, 6, (some .int), 9, 1, 22, 3, 1202),
  (⟨"GridTracksModel", "lacksX", "(I)I"⟩, prog_11_method_42_code, 4, (some .int), 9, 1, 22, 1, 1210),
  (⟨"GridTracksModel", "lacksY", "(I)I"⟩, prog_11_method_43_code, 4, (some .int), 9, 1, 22, 1, 1264),
  (⟨"GridTracksModel", "noGrowth", "()V"⟩, prog_11_method_44_code, 2, none, 9, 0, 0, 0, 1198),
  (⟨"GridTracksModel", "deals", "(IIII)V"⟩, prog_11_method_45_code, 6, none, 9, 1, 20, 4, 1217),
  (⟨"GridTracksModel", "dealsX", "(I)V"⟩, prog_11_method_46_code, 6, none, 9, 2, 47, 1, 1206),
  (⟨"GridTracksModel", "dealsY", "(I)V"⟩, prog_11_method_47_code, 4, none, 9, 2, 45, 1, 1260),
  (⟨"GridTracksModel", "findAutos", "()V"⟩, prog_11_method_48_code, 3, none, 9, 3, 72, 0, 1194),
  (⟨"GridTracksModel", "findRows", "()V"⟩, prog_11_method_49_code, 3, none, 9, 3, 68, 0, 1256),
  (⟨"GridTracksModel", "findFlexFree", "()V"⟩, prog_11_method_50_code, 6, none, 9, 2, 47, 0, 1224),
  (⟨"GridTracksModel", "findLeast", "()V"⟩, prog_11_method_51_code, 2, none, 9, 1, 22, 0, 1236),
  (⟨"GridTracksModel", "isOpen", "(I)Z"⟩, prog_11_method_52_code, 2, (some .boolean), 9, 0, 0, 1, 1252),
  (⟨"GridTracksModel", "leftWidth", "()I"⟩, prog_11_method_53_code, 3, (some .int), 9, 1, 21, 0, 1232),
  (⟨"GridTracksModel", "leftBy", "(I)I"⟩, prog_11_method_54_code, 4, (some .int), 9, 0, 0, 1, 1244),
  (⟨"GridTracksModel", "openShares", "()I"⟩, prog_11_method_55_code, 3, (some .int), 9, 1, 21, 0, 1248),
  (⟨"GridTracksModel", "freezes", "(I)Z"⟩, prog_11_method_56_code, 6, (some .boolean), 9, 2, 43, 1, 1240),
  (⟨"GridTracksModel", "findFlexIn", "()V"⟩, prog_11_method_57_code, 7, none, 9, 3, 68, 0, 1228),
  (⟨"GridTracksModel", "find", "()V"⟩, prog_11_method_58_code, 1, none, 9, 4, 101, 0, 1162),
  (⟨"GridTracksModel", "startX", "(I)I"⟩, prog_11_method_59_code, 4, (some .int), 9, 0, 0, 1, 1280),
  (⟨"GridTracksModel", "startY", "(I)I"⟩, prog_11_method_60_code, 4, (some .int), 9, 0, 0, 1, 1291),
  (⟨"GridTracksModel", "spanX", "(II)I"⟩, prog_11_method_61_code, 3, (some .int), 9, 1, 23, 2, 1321),
  (⟨"GridTracksModel", "spanY", "(II)I"⟩, prog_11_method_62_code, 3, (some .int), 9, 1, 23, 2, 1325),
  (⟨"GridTracksModel", "rule", "(I)I"⟩, prog_11_method_63_code, 2, (some .int), 9, 5, 121, 1, 1158),
  (⟨"GridTracksModel", "column", "(II)I"⟩, prog_11_method_64_code, 3, (some .int), 9, 5, 121, 2, 1272),
  (⟨"GridTracksModel", "row", "(II)I"⟩, prog_11_method_65_code, 3, (some .int), 9, 5, 121, 2, 1284),
  (⟨"GridTracksModel", "item", "(II)I"⟩, prog_11_method_66_code, 3, (some .int), 9, 5, 121, 2, 1295),
  (⟨"GridTracksModel", "line", "(I)I"⟩, prog_11_method_67_code, 2, (some .int), 9, 1, 25, 1, 1304),
  (⟨"GridTracksModel", "at", "(II)I"⟩, prog_11_method_68_code, 3, (some .int), 9, 5, 121, 2, 1308),
  (⟨"GridTracksModel", "boxOf", "(II)I"⟩, prog_11_method_69_code, 3, (some .int), 9, 2, 45, 2, 1317),
  (⟨"GridTracksModel", "box", "(II)I"⟩, prog_11_method_70_code, 3, (some .int), 9, 5, 121, 2, 1312),
  (⟨"GridTracksModel", "over", "(II)I"⟩, prog_11_method_71_code, 4, (some .int), 9, 5, 121, 2, 1329),
  (⟨"GridTracksModel", "total", "(I)I"⟩, prog_11_method_72_code, 2, (some .int), 9, 5, 121, 1, 1333),
  (⟨"GridTracksModel", "empty", "()I"⟩, prog_11_method_73_code, 4, (some .int), 9, 5, 121, 0, 1337),
  (⟨"GridTracksModel", "isBox", "(II)Z"⟩, prog_11_method_74_code, 3, (some .boolean), 9, 1, 25, 2, 1345),
  (⟨"GridTracksModel", "hole", "(II)I"⟩, prog_11_method_75_code, 3, (some .int), 9, 4, 101, 2, 1341),
  (⟨"GridTracksModel", "isNeed", "(I)Z"⟩, prog_11_method_76_code, 1, (some .boolean), 9, 1, 25, 1, 1353),
  (⟨"GridTracksModel", "comes", "(IIII)V"⟩, prog_11_method_77_code, 6, none, 9, 0, 0, 4, 1358),
  (⟨"GridTracksModel", "add", "(IIII)I"⟩, prog_11_method_78_code, 5, (some .int), 9, 2, 47, 4, 1350)]
def am_mt5 : List am_ME := [
  (⟨"GridTracksModel", "drop", "(I)I"⟩, prog_11_method_79_code, 3, (some .int), 9, 2, 46, 1, 1362),
  (⟨"GridTracksModel", "pin", "(III)I"⟩, prog_11_method_80_code, 4, (some .int), 9, 2, 46, 3, 1366),
  (⟨"GridTracksModel", "becomes", "(II)I"⟩, prog_11_method_81_code, 4, (some .int), 9, 0, 0, 2, 1374),
  (⟨"GridTracksModel", "set", "(III)I"⟩, prog_11_method_82_code, 7, (some .int), 9, 2, 46, 3, 1370),
  (⟨"GridTracksModel", "swap", "(II)I"⟩, prog_11_method_83_code, 5, (some .int), 9, 2, 46, 2, 1378),
  (⟨"GridTracksModel", "track", "(III)I"⟩, prog_11_method_84_code, 5, (some .int), 9, 2, 46, 3, 1382),
  (⟨"GridTracksModel", "width", "(I)I"⟩, prog_11_method_85_code, 2, (some .int), 9, 1, 25, 1, 1387),
  (⟨"GridTracksModel", "gap", "(II)I"⟩, prog_11_method_86_code, 3, (some .int), 9, 1, 25, 2, 1392),
  (⟨"GridTracksModel", "high", "(I)I"⟩, prog_11_method_87_code, 2, (some .int), 9, 2, 45, 1, 1397),
  (⟨"GridTracksModel", "scatter", "(II)I"⟩, prog_11_method_88_code, 6, (some .int), 9, 1, 25, 2, 1401),
  (⟨"GridTracksModel", "keep", "(I)I"⟩, prog_11_method_89_code, 4, (some .int), 9, 1, 25, 1, 1407),
  (⟨"GridTracksModel", "back", "(I)I"⟩, prog_11_method_90_code, 3, (some .int), 9, 1, 25, 1, 1411),
  (⟨"GridTracksModel", "isSheet", "(II)Z"⟩, prog_11_method_91_code, 2, (some .boolean), 9, 1, 25, 2, 1418),
  (⟨"GridTracksModel", "sheet", "(III)I"⟩, prog_11_method_92_code, 5, (some .int), 9, 2, 46, 3, 1415),
  (⟨"GridTracksModel", "lay", "(III)I"⟩, prog_11_method_93_code, 4, (some .int), 9, 2, 46, 3, 1423),
  (⟨"GridTracksModel", "read", "(IIII)I"⟩, prog_11_method_94_code, 12, (some .int), 9, 3, 71, 4, 1427),
  (⟨"GridTracksModel", "torn", "()I"⟩, prog_11_method_95_code, 1, (some .int), 9, 0, 0, 0, 1432),
  (⟨"GridTracksModel", "pinned", "()I"⟩, prog_11_method_96_code, 3, (some .int), 9, 1, 22, 0, 1440),
  (⟨"GridTracksModel", "sharesOfAll", "()I"⟩, prog_11_method_97_code, 3, (some .int), 9, 0, 0, 0, 1444),
  (⟨"GridTracksModel", "needsOfAll", "()I"⟩, prog_11_method_98_code, 3, (some .int), 9, 1, 22, 0, 1448),
  (⟨"GridTracksModel", "count", "(I)I"⟩, prog_11_method_99_code, 2, (some .int), 9, 2, 44, 1, 1436),
  (⟨"java/lang/String", "length", "()I"⟩, prog_13_method_54_code, 1, (some .int), 11, 1, 20, 0, 467),
  (⟨"java/lang/String", "charAt", "(I)C"⟩, prog_13_method_56_code, 2, (some .char), 11, 4, 85, 1, 477),
  (⟨"java/lang/String", "coder", "()B"⟩, prog_13_method_152_code, 1, (some .byte), 11, 0, 0, 0, 471),
  (⟨"java/lang/String", "isLatin1", "()Z"⟩, prog_13_method_154_code, 1, (some .boolean), 11, 0, 0, 0, 481),
  (⟨"java/lang/String", "checkIndex", "(II)V"⟩, prog_13_method_155_code, 2, none, 11, 1, 22, 2, 487),
  (⟨"java/lang/StringLatin1", "charAt", "([BI)C"⟩, prog_14_method_2_code, 2, (some .char), 12, 2, 43, 2, 484),
  (⟨"java/lang/StringUTF16", "getChar", "([BI)C"⟩, prog_15_method_5_code, 2, (some .char), 13, 1, 20, 2, 505),
  (⟨"java/lang/StringUTF16", "length", "([B)I"⟩, prog_15_method_6_code, 1, (some .int), 13, 0, 0, 1, 501),
  (⟨"java/lang/StringUTF16", "charAt", "([BI)C"⟩, prog_15_method_83_code, 2, (some .char), 13, 3, 64, 2, 495),
  (⟨"java/lang/StringUTF16", "checkIndex", "(I[B)V"⟩, prog_15_method_91_code, 2, none, 13, 2, 43, 2, 498),
  (⟨"java/util/Arrays", "fill", "([II)V"⟩, prog_17_method_103_code, 4, none, 15, 0, 0, 2, 136),
  (⟨"jdk/internal/util/Preconditions", "checkIndex", "(IILjava/util/function/BiFunction;)I"⟩, prog_18_method_11_code, 3, (some .int), 14, 0, 0, 3, 492),
  (⟨"GridTracksLaw", "law", "([I)Z"⟩, code, 4, (some .boolean), 10, 14, 508, 1, 0)]
def am_mt : Nat → Option am_ME := fun k => if k < 234 then (match k / 40 with
  | 0 => am_mt0[k % 40]?
  | 1 => am_mt1[k % 40]?
  | 2 => am_mt2[k % 40]?
  | 3 => am_mt3[k % 40]?
  | 4 => am_mt4[k % 40]?
  | 5 => am_mt5[k % 40]?
  | _ => none) else none
def am_fl : List ((Nat × Nat) × (Nat × Nat × Nat)) := [((0, 9), (0, 2, 335)), ((0, 15), (0, 3, 337)), ((0, 18), (0, 4, 339)), ((0, 21), (0, 5, 342)), ((0, 24), (0, 7, 345)), ((0, 27), (0, 8, 347)), ((0, 30), (0, 9, 349)), ((0, 33), (0, 0, 332)), ((0, 37), (0, 1, 334)), ((0, 40), (0, 6, 344)), ((1, 9), (1, 1, 141)), ((1, 15), (1, 2, 144)), ((1, 20), (1, 8, 163)), ((1, 23), (1, 9, 167)), ((1, 26), (1, 5, 153)), ((1, 36), (1, 0, 137)), ((1, 39), (1, 3, 147)), ((1, 42), (1, 4, 150)), ((1, 45), (1, 6, 156)), ((1, 48), (1, 7, 159)), ((2, 10), (2, 0, 269)), ((3, 9), (3, 0, 302)), ((3, 15), (3, 1, 304)), ((3, 18), (3, 2, 306)), ((3, 27), (3, 3, 307)), ((3, 31), (3, 4, 309)), ((3, 34), (3, 5, 311)), ((3, 37), (1, 7, 160)), ((3, 54), (1, 8, 164)), ((3, 66), (1, 0, 140)), ((4, 9), (4, 0, 378)), ((4, 15), (0, 6, 343)), ((4, 34), (0, 0, 333)), ((4, 37), (0, 2, 336)), ((4, 40), (0, 4, 340)), ((4, 43), (0, 3, 338)), ((4, 53), (4, 1, 379)), ((4, 70), (0, 8, 348)), ((4, 73), (0, 7, 346)), ((4, 76), (0, 9, 350)), ((5, 9), (5, 0, 284)), ((5, 15), (5, 2, 287)), ((5, 19), (5, 1, 286)), ((6, 12), (6, 0, 231)), ((6, 21), (6, 1, 233)), ((6, 31), (7, 2, 208)), ((6, 42), (6, 2, 235)), ((6, 45), (7, 1, 207)), ((6, 48), (6, 3, 237)), ((6, 55), (6, 4, 239)), ((6, 59), (6, 5, 240)), ((6, 62), (6, 6, 241)), ((6, 65), (6, 7, 242)), ((6, 68), (1, 7, 161)), ((6, 75), (1, 9, 168)), ((6, 79), (1, 0, 138)), ((6, 128), (7, 4, 213)), ((6, 141), (1, 1, 142)), ((6, 144), (1, 2, 145)), ((6, 153), (1, 3, 149)), ((6, 156), (1, 4, 152)), ((6, 162), (1, 5, 155)), ((6, 164), (1, 6, 158)), ((6, 179), (1, 8, 166)), ((6, 199), (7, 3, 211)), ((7, 9), (7, 0, 204)), ((7, 15), (7, 1, 205)), ((7, 19), (7, 5, 214)), ((7, 22), (7, 3, 210)), ((7, 25), (7, 4, 212)), ((7, 28), (7, 2, 209)), ((8, 10), (8, 0, 385)), ((8, 19), (8, 1, 386)), ((8, 25), (8, 2, 387)), ((8, 32), (8, 3, 388)), ((8, 40), (8, 4, 389)), ((8, 47), (8, 5, 390)), ((8, 51), (8, 6, 391)), ((8, 57), (8, 7, 392)), ((8, 61), (8, 8, 393)), ((8, 69), (6, 0, 232)), ((8, 79), (7, 1, 206)), ((8, 87), (6, 2, 236)), ((8, 90), (6, 3, 238)), ((8, 93), (6, 1, 234)), ((8, 106), (1, 0, 139)), ((8, 109), (3, 3, 308)), ((8, 112), (1, 7, 162)), ((8, 115), (3, 4, 310)), ((8, 118), (1, 5, 154)), ((8, 121), (1, 3, 148)), ((8, 124), (1, 4, 151)), ((8, 127), (1, 6, 157)), ((8, 130), (1, 1, 143)), ((8, 134), (1, 2, 146)), ((8, 137), (0, 4, 341)), ((8, 147), (1, 8, 165)), ((8, 151), (3, 0, 303)), ((8, 153), (3, 1, 305)), ((8, 156), (1, 9, 169)), ((8, 181), (3, 5, 312)), ((8, 225), (2, 1, 271)), ((8, 228), (2, 0, 270)), ((8, 256), (8, 9, 394)), ((8, 274), (5, 2, 288)), ((8, 275), (5, 0, 285)), ((9, 7), (9, 0, 978)), ((9, 13), (9, 1, 979)), ((9, 16), (9, 2, 980)), ((9, 20), (9, 3, 981)), ((9, 23), (9, 4, 982)), ((9, 26), (9, 5, 983)), ((9, 29), (9, 13, 991)), ((9, 32), (9, 14, 992)), ((9, 35), (9, 15, 993)), ((9, 38), (9, 17, 995)), ((9, 41), (9, 18, 996)), ((9, 44), (9, 19, 997)), ((9, 47), (9, 20, 998)), ((9, 50), (9, 21, 999)), ((9, 53), (9, 22, 1000)), ((9, 56), (9, 23, 1001)), ((9, 59), (9, 24, 1002)), ((9, 74), (9, 6, 984)), ((9, 78), (9, 11, 989)), ((9, 81), (9, 8, 986)), ((9, 84), (9, 12, 990)), ((9, 87), (9, 9, 987)), ((9, 90), (9, 7, 985)), ((9, 113), (9, 10, 988)), ((9, 168), (9, 16, 994)), ((9, 324), (9, 25, 1003))]
def am_ct : List ((Nat × Nat) × (Nat × Nat × Nat × Nat × Nat × Nat × Nat)) := [
  ((0, 43), (0, kX0_extent, 2, 704, 705, 706, 109)),
  ((0, 47), (1, kJ7_fill_53178, 2, 687, 135, 0, 103)),
  ((0, 53), (0, kX0_flexShares, 1, 688, 689, 690, 109)),
  ((0, 57), (0, kX0_deal, 1, 692, 694, 24, 109)),
  ((0, 61), (0, kX0_autosOf, 1, 696, 698, 25, 109)),
  ((0, 64), (0, kX0_lack, 1, 700, 701, 702, 109)),
  ((1, 30), (1, kJ7_fill_53178, 2, 134, 135, 0, 103)),
  ((1, 57), (4, kX8_isBetween, 3, 609, 421, 0, 101)),
  ((1, 61), (0, kX1_isItemSize, 2, 831, 819, 820, 102)),
  ((1, 65), (0, kX1_isPin, 3, 605, 606, 607, 102)),
  ((2, 9), (2, kX1_init, 0, 268, 129, 0, 102)),
  ((3, 21), (1, kJ7_fill_53178, 2, 641, 135, 0, 103)),
  ((3, 42), (1, kX3_turnOf, 2, 642, 643, 0, 108)),
  ((3, 46), (0, kX3_place, 2, 645, 647, 21, 108)),
  ((3, 50), (0, kX3_isLost, 1, 786, 676, 677, 108)),
  ((3, 58), (4, kX8_isBetween, 3, 787, 421, 0, 101)),
  ((3, 62), (0, kX3_isFree, 4, 653, 655, 22, 108)),
  ((3, 68), (0, kX3_firstHole, 5, 649, 650, 651, 108)),
  ((3, 72), (1, kX3_bits, 2, 657, 658, 0, 108)),
  ((4, 21), (0, kX0_flexShares, 1, 713, 689, 690, 109)),
  ((4, 25), (0, kX0_lack, 1, 714, 701, 702, 109)),
  ((4, 46), (0, kX0_extent, 2, 720, 705, 706, 109)),
  ((4, 49), (0, kX4_findLeast, 1, 721, 723, 26, 110)),
  ((4, 56), (0, kX4_freeze, 2, 726, 728, 27, 110)),
  ((4, 60), (0, kX4_dealParts, 2, 746, 748, 32, 110)),
  ((4, 64), (1, kJ7_fill_53178, 2, 725, 135, 0, 103)),
  ((4, 79), (0, kX4_isFrozen, 1, 738, 740, 30, 110)),
  ((4, 83), (0, kX4_isOpen, 2, 734, 736, 29, 110)),
  ((4, 86), (0, kX4_openShares, 1, 730, 732, 28, 110)),
  ((4, 90), (0, kX4_openWidth, 2, 742, 744, 31, 110)),
  ((5, 22), (1, kJ7_fill_53178, 2, 908, 135, 0, 103)),
  ((5, 28), (0, kX5_faultOf, 2, 930, 914, 915, 107)),
  ((6, 11), (3, kX7_init, 0, 200, 201, 0, 105)),
  ((6, 20), (2, kX1_init, 0, 230, 129, 0, 102)),
  ((6, 25), (0, kX6_clear, 0, 439, 441, 0, 104)),
  ((6, 28), (0, kX7_advance, 0, 451, 452, 453, 105)),
  ((6, 35), (0, kX6_takeLine, 0, 455, 457, 1, 104)),
  ((6, 39), (0, kX6_isDraftWhole, 0, 597, 599, 17, 104)),
  ((6, 51), (0, kX7_rewind, 0, 443, 444, 445, 105)),
  ((6, 54), (0, kX1_clear, 0, 447, 448, 449, 102)),
  ((6, 71), (0, kX1_isInside, 1, 601, 602, 603, 102)),
  ((6, 84), (0, kX7_isName, 1, 460, 461, 462, 105)),
  ((6, 88), (0, kX6_takeColumns, 0, 512, 514, 2, 104)),
  ((6, 93), (0, kX6_takeGap, 0, 546, 548, 9, 104)),
  ((6, 98), (0, kX6_takeWidth, 0, 555, 557, 11, 104)),
  ((6, 103), (0, kX6_takeHigh, 0, 560, 562, 12, 104)),
  ((6, 108), (0, kX6_takeNamedLine, 0, 565, 567, 13, 104)),
  ((6, 113), (0, kX6_takeItemLine, 0, 574, 576, 14, 104)),
  ((6, 116), (0, kX6_refuseToken, 0, 525, 527, 5, 104)),
  ((6, 119), (0, kX6_refuse, 1, 516, 518, 3, 104)),
  ((6, 124), (0, kX6_takeNumber, 2, 521, 523, 4, 104)),
  ((6, 131), (0, kX6_takeTrack, 1, 530, 532, 6, 104)),
  ((6, 134), (0, kX6_repeatTracks, 2, 541, 543, 8, 104)),
  ((6, 137), (0, kX6_trackKind, 0, 534, 536, 7, 104)),
  ((6, 159), (0, kX6_takeSemicolon, 0, 550, 552, 10, 104)),
  ((6, 166), (0, kX7_letter, 0, 569, 570, 571, 105)),
  ((6, 169), (0, kX1_append, 4, 578, 579, 580, 102)),
  ((6, 183), (0, kX6_takePin, 1, 586, 588, 15, 104)),
  ((6, 192), (0, kX6_takePinLetter, 1, 593, 595, 16, 104)),
  ((6, 195), (4, kX8_isBetween, 3, 529, 421, 0, 101)),
  ((7, 31), (0, kJ0_length_8abf5, 0, 464, 465, 466, 112)),
  ((7, 36), (0, kJ0_charAt_5068e, 1, 474, 475, 476, 112)),
  ((8, 9), (2, kX1_init, 0, 128, 129, 0, 102)),
  ((8, 18), (3, kX6_init, 0, 194, 195, 0, 104)),
  ((8, 29), (3, kX2_init, 0, 263, 264, 0, 106)),
  ((8, 36), (2, kX5_init, 0, 280, 281, 0, 107)),
  ((8, 39), (3, kX3_init, 0, 298, 299, 0, 108)),
  ((8, 46), (3, kX0_init, 0, 328, 329, 0, 109)),
  ((8, 56), (3, kX4_init, 0, 374, 375, 0, 110)),
  ((8, 65), (1, kX8_isBetween, 3, 420, 421, 0, 101)),
  ((8, 73), (0, kX7_append, 1, 423, 424, 425, 105)),
  ((8, 83), (0, kX6_tellAll, 0, 435, 436, 437, 104)),
  ((8, 96), (0, kX1_become, 1, 610, 611, 612, 102)),
  ((8, 100), (0, kX8_forgetImages, 0, 617, 619, 18, 101)),
  ((8, 103), (0, kX8_arrange, 0, 633, 635, 20, 101)),
  ((8, 140), (0, kX0_startOf, 1, 758, 759, 760, 109)),
  ((8, 144), (0, kX8_isItem, 1, 770, 772, 34, 101)),
  ((8, 159), (0, kX3_itemAt, 3, 782, 783, 784, 108)),
  ((8, 163), (0, kX3_isLost, 1, 675, 676, 677, 108)),
  ((8, 166), (0, kX8_boxWidth, 1, 792, 794, 35, 101)),
  ((8, 169), (0, kX8_boxHeight, 1, 797, 799, 36, 101)),
  ((8, 178), (0, kX0_extent, 2, 796, 705, 706, 109)),
  ((8, 184), (0, kX1_isItemSize, 2, 818, 819, 820, 102)),
  ((8, 188), (0, kX3_firstHole, 5, 822, 650, 651, 108)),
  ((8, 192), (0, kX1_isItem, 4, 827, 828, 829, 102)),
  ((8, 195), (0, kX1_append, 4, 832, 579, 580, 102)),
  ((8, 197), (0, kX1_remove, 1, 837, 838, 839, 102)),
  ((8, 201), (0, kX1_isPin, 3, 845, 606, 607, 102)),
  ((8, 210), (0, kX1_isInside, 1, 852, 602, 603, 102)),
  ((8, 213), (0, kX1_exchange, 2, 857, 858, 859, 102)),
  ((8, 217), (1, kX8_isTrack, 2, 865, 866, 0, 101)),
  ((8, 221), (0, kX8_imageOf, 1, 621, 623, 19, 101)),
  ((8, 229), (0, kX8_sheetOf, 1, 897, 899, 37, 101)),
  ((8, 233), (1, kX8_isLane, 1, 901, 902, 0, 101)),
  ((8, 236), (0, kX5_renew, 2, 904, 905, 906, 107)),
  ((8, 239), (0, kX5_faultOf, 2, 913, 914, 915, 107)),
  ((8, 243), (0, kX5_write, 2, 917, 918, 919, 107)),
  ((8, 248), (0, kX5_faultAs, 3, 926, 927, 928, 107)),
  ((8, 252), (0, kX8_takeItem, 2, 931, 933, 38, 101)),
  ((8, 259), (0, kX8_heldImages, 0, 944, 946, 39, 101)),
  ((8, 262), (0, kX1_pinnedItems, 0, 948, 949, 950, 102)),
  ((8, 265), (0, kX8_cellsOf, 1, 952, 954, 40, 101)),
  ((8, 268), (0, kX1_allShares, 0, 956, 957, 958, 102)),
  ((8, 271), (0, kX1_allNeedsInWidth, 0, 960, 961, 962, 102)),
  ((8, 278), (0, kX8_add, 4, 935, 824, 825, 101)),
  ((8, 282), (0, kX3_placeAll, 1, 637, 638, 639, 108)),
  ((8, 285), (0, kX8_measureColumns, 0, 663, 665, 23, 101)),
  ((8, 288), (0, kX8_measureRows, 0, 750, 752, 33, 101)),
  ((8, 291), (0, kX0_begin, 2, 667, 668, 669, 109)),
  ((8, 294), (0, kX0_put, 4, 671, 672, 673, 109)),
  ((8, 298), (0, kX0_admit, 3, 679, 680, 681, 109)),
  ((8, 302), (0, kX0_growBy, 1, 683, 684, 685, 109)),
  ((8, 305), (0, kX4_dealByNeed, 1, 709, 710, 711, 110)),
  ((8, 309), (0, kX4_dealByWidth, 2, 716, 717, 718, 110)),
  ((9, 62), (0, kX9_firstDraft, 0, 970, 972, 41, 111)),
  ((9, 65), (0, kX9_keepDraft, 0, 974, 976, 42, 111)),
  ((9, 70), (1, kX9_in, 3, 1063, 1064, 0, 111)),
  ((9, 93), (0, kX9_byteAt, 1, 1078, 1080, 44, 111)),
  ((9, 97), (0, kX9_is, 4, 1098, 1100, 48, 111)),
  ((9, 101), (0, kX9_then, 3, 1102, 1104, 49, 111)),
  ((9, 116), (0, kX9_requires, 2, 1086, 1088, 45, 111)),
  ((9, 120), (0, kX9_reads, 0, 1074, 1076, 43, 111)),
  ((9, 125), (0, kX9_isRepeat, 0, 1114, 1116, 52, 111)),
  ((9, 129), (0, kX9_readNumber, 2, 1118, 1120, 53, 111)),
  ((9, 133), (0, kX9_trackName, 0, 1122, 1124, 54, 111)),
  ((9, 137), (0, kX9_lineNow, 0, 1130, 1132, 56, 111)),
  ((9, 140), (0, kX9_pinName, 0, 1139, 1141, 58, 111)),
  ((9, 143), (0, kX9_readPin, 1, 1143, 1145, 59, 111)),
  ((9, 147), (0, kX9_readTracks, 0, 1110, 1112, 51, 111)),
  ((9, 150), (0, kX9_readLineTold, 0, 1126, 1128, 55, 111)),
  ((9, 153), (0, kX9_readItem, 0, 1135, 1137, 57, 111)),
  ((9, 156), (0, kX9_lineName, 0, 1094, 1096, 47, 111)),
  ((9, 159), (0, kX9_readLineOf, 1, 1106, 1108, 50, 111)),
  ((9, 162), (0, kX9_readLine, 0, 1090, 1092, 46, 111)),
  ((9, 165), (0, kX9_isWhole, 0, 1147, 1149, 60, 111)),
  ((9, 171), (0, kX9_isFree, 4, 1183, 1185, 67, 111)),
  ((9, 174), (0, kX9_of, 2, 1171, 1173, 64, 111)),
  ((9, 177), (0, kX9_holeIn, 6, 1179, 1181, 66, 111)),
  ((9, 181), (0, kX9_stands, 5, 1187, 1189, 68, 111)),
  ((9, 185), (0, kX9_turnOf, 1, 1167, 1169, 63, 111)),
  ((9, 188), (0, kX9_seeks, 1, 1175, 1177, 65, 111)),
  ((9, 191), (1, kX9_flag, 1, 1218, 1219, 0, 111)),
  ((9, 195), (1, kX9_gapsIn, 2, 1211, 1212, 0, 111)),
  ((9, 198), (0, kX9_columnsOf, 3, 1199, 1201, 71, 111)),
  ((9, 202), (0, kX9_lacksX, 1, 1207, 1209, 73, 111)),
  ((9, 205), (0, kX9_deals, 4, 1214, 1216, 74, 111)),
  ((9, 209), (0, kX9_lacksY, 1, 1261, 1263, 85, 111)),
  ((9, 212), (0, kX9_noGrowth, 0, 1195, 1197, 70, 111)),
  ((9, 215), (0, kX9_dealsX, 1, 1203, 1205, 72, 111)),
  ((9, 218), (0, kX9_dealsY, 1, 1257, 1259, 84, 111)),
  ((9, 221), (0, kX9_isOpen, 1, 1249, 1251, 82, 111)),
  ((9, 225), (0, kX9_leftBy, 1, 1241, 1243, 80, 111)),
  ((9, 228), (0, kX9_openShares, 0, 1245, 1247, 81, 111)),
  ((9, 231), (0, kX9_leftWidth, 0, 1229, 1231, 77, 111)),
  ((9, 234), (0, kX9_findLeast, 0, 1233, 1235, 78, 111)),
  ((9, 237), (0, kX9_freezes, 1, 1237, 1239, 79, 111)),
  ((9, 240), (0, kX9_place, 0, 1163, 1165, 62, 111)),
  ((9, 243), (0, kX9_findAutos, 0, 1191, 1193, 69, 111)),
  ((9, 246), (0, kX9_findFlexFree, 0, 1221, 1223, 75, 111)),
  ((9, 249), (0, kX9_findFlexIn, 0, 1225, 1227, 76, 111)),
  ((9, 252), (0, kX9_findRows, 0, 1253, 1255, 83, 111)),
  ((9, 255), (0, kX9_startX, 1, 1277, 1279, 88, 111)),
  ((9, 258), (0, kX9_startY, 1, 1288, 1290, 89, 111)),
  ((9, 261), (0, kX9_find, 0, 1159, 1161, 61, 111)),
  ((9, 264), (0, kX9_lost, 0, 1265, 1267, 86, 111)),
  ((9, 267), (0, kX9_isColumn, 1, 1273, 1275, 87, 111)),
  ((9, 270), (1, kX9_isPart, 1, 1285, 1286, 0, 111)),
  ((9, 273), (0, kX9_isItem, 1, 1296, 1298, 90, 111)),
  ((9, 278), (0, kX9_spanX, 2, 1318, 1320, 92, 111)),
  ((9, 281), (0, kX9_spanY, 2, 1322, 1324, 93, 111)),
  ((9, 286), (0, kX9_boxOf, 2, 1314, 1316, 91, 111)),
  ((9, 291), (0, kX9_isBox, 2, 1342, 1344, 94, 111)),
  ((9, 297), (1, kX9_isNeed, 1, 1351, 1352, 0, 111)),
  ((9, 300), (0, kX9_comes, 4, 1355, 1357, 95, 111)),
  ((9, 303), (0, kX9_becomes, 2, 1371, 1373, 96, 111)),
  ((9, 317), (1, kX9_isSheet, 2, 1416, 1417, 0, 111)),
  ((9, 320), (0, kX9_add, 4, 1428, 1348, 1349, 111)),
  ((9, 327), (0, kX9_pinned, 0, 1437, 1439, 97, 111)),
  ((9, 330), (0, kX9_sharesOfAll, 0, 1441, 1443, 98, 111)),
  ((9, 333), (0, kX9_needsOfAll, 0, 1445, 1447, 99, 111)),
  ((10, 9), (2, kX8_init, 0, 120, 121, 0, 101)),
  ((10, 12), (2, kX9_init, 0, 966, 967, 0, 111)),
  ((10, 13), (0, kX8_feed, 1, 416, 417, 418, 101)),
  ((10, 17), (0, kX9_feed, 1, 1058, 1059, 1060, 111)),
  ((10, 18), (0, kX8_end, 1, 427, 428, 429, 101)),
  ((10, 21), (0, kX9_end, 1, 1066, 1067, 1068, 111)),
  ((10, 22), (0, kX8_text, 0, 431, 432, 433, 101)),
  ((10, 26), (0, kX9_text, 0, 1070, 1071, 1072, 111)),
  ((10, 27), (0, kX8_fault, 0, 625, 626, 627, 101)),
  ((10, 30), (0, kX9_fault, 0, 1151, 1152, 1153, 111)),
  ((10, 31), (0, kX8_rule, 1, 629, 630, 631, 101)),
  ((10, 34), (0, kX9_rule, 1, 1155, 1156, 1157, 111)),
  ((10, 35), (0, kX8_column, 2, 754, 755, 756, 101)),
  ((10, 39), (0, kX9_column, 2, 1269, 1270, 1271, 111)),
  ((10, 40), (0, kX8_row, 2, 762, 763, 764, 101)),
  ((10, 43), (0, kX9_row, 2, 1281, 1282, 1283, 111)),
  ((10, 44), (0, kX8_item, 2, 766, 767, 768, 101)),
  ((10, 47), (0, kX9_item, 2, 1292, 1293, 1294, 111)),
  ((10, 48), (0, kX8_line, 1, 774, 775, 776, 101)),
  ((10, 51), (0, kX9_line, 1, 1301, 1302, 1303, 111)),
  ((10, 52), (0, kX8_at, 2, 778, 779, 780, 101)),
  ((10, 55), (0, kX9_at, 2, 1305, 1306, 1307, 111)),
  ((10, 56), (0, kX8_box, 2, 788, 789, 790, 101)),
  ((10, 59), (0, kX9_box, 2, 1309, 1310, 1311, 111)),
  ((10, 60), (0, kX8_over, 2, 801, 802, 803, 101)),
  ((10, 63), (0, kX9_over, 2, 1326, 1327, 1328, 111)),
  ((10, 64), (0, kX8_total, 1, 806, 807, 808, 101)),
  ((10, 67), (0, kX9_total, 1, 1330, 1331, 1332, 111)),
  ((10, 68), (0, kX8_empty, 0, 810, 811, 812, 101)),
  ((10, 71), (0, kX9_empty, 0, 1334, 1335, 1336, 111)),
  ((10, 72), (0, kX8_hole, 2, 814, 815, 816, 101)),
  ((10, 75), (0, kX9_hole, 2, 1338, 1339, 1340, 111)),
  ((10, 76), (0, kX8_add, 4, 823, 824, 825, 101)),
  ((10, 80), (0, kX9_add, 4, 1347, 1348, 1349, 111)),
  ((10, 81), (0, kX8_drop, 1, 833, 834, 835, 101)),
  ((10, 84), (0, kX9_drop, 1, 1359, 1360, 1361, 111)),
  ((10, 85), (0, kX8_pin, 3, 841, 842, 843, 101)),
  ((10, 89), (0, kX9_pin, 3, 1363, 1364, 1365, 111)),
  ((10, 90), (0, kX8_set, 3, 846, 847, 848, 101)),
  ((10, 93), (0, kX9_set, 3, 1367, 1368, 1369, 111)),
  ((10, 94), (0, kX8_swap, 2, 853, 854, 855, 101)),
  ((10, 97), (0, kX9_swap, 2, 1375, 1376, 1377, 111)),
  ((10, 98), (0, kX8_track, 3, 861, 862, 863, 101)),
  ((10, 101), (0, kX9_track, 3, 1379, 1380, 1381, 111)),
  ((10, 102), (0, kX8_width, 1, 868, 869, 870, 101)),
  ((10, 105), (0, kX9_width, 1, 1384, 1385, 1386, 111)),
  ((10, 106), (0, kX8_gap, 2, 872, 873, 874, 101)),
  ((10, 109), (0, kX9_gap, 2, 1389, 1390, 1391, 111)),
  ((10, 110), (0, kX8_high, 1, 876, 877, 878, 101)),
  ((10, 113), (0, kX9_high, 1, 1394, 1395, 1396, 111)),
  ((10, 114), (0, kX8_scatter, 2, 880, 881, 882, 101)),
  ((10, 117), (0, kX9_scatter, 2, 1398, 1399, 1400, 111)),
  ((10, 118), (0, kX8_keep, 1, 885, 886, 887, 101)),
  ((10, 121), (0, kX9_keep, 1, 1404, 1405, 1406, 111)),
  ((10, 122), (0, kX8_back, 1, 889, 890, 891, 101)),
  ((10, 125), (0, kX9_back, 1, 1408, 1409, 1410, 111)),
  ((10, 126), (0, kX8_sheet, 3, 893, 894, 895, 101)),
  ((10, 129), (0, kX9_sheet, 3, 1412, 1413, 1414, 111)),
  ((10, 130), (0, kX8_lay, 3, 909, 910, 911, 101)),
  ((10, 133), (0, kX9_lay, 3, 1420, 1421, 1422, 111)),
  ((10, 134), (0, kX8_read, 4, 921, 922, 923, 101)),
  ((10, 137), (0, kX9_read, 4, 1424, 1425, 1426, 111)),
  ((10, 138), (0, kX8_torn, 0, 936, 937, 938, 101)),
  ((10, 141), (0, kX9_torn, 0, 1429, 1430, 1431, 111)),
  ((10, 142), (0, kX8_count, 1, 940, 941, 942, 101)),
  ((10, 145), (0, kX9_count, 1, 1433, 1434, 1435, 111)),
  ((11, 335), (0, kJ0_coder_7d493, 0, 468, 469, 470, 112)),
  ((11, 492), (0, kJ0_isLatin1_aae02, 0, 478, 479, 480, 112)),
  ((11, 495), (1, kJ1_charAt_3b067, 2, 482, 483, 0, 113)),
  ((11, 498), (1, kJ2_charAt_3b067, 2, 493, 494, 0, 115)),
  ((11, 1059), (1, kJ3_checkIndex_8e157, 3, 490, 491, 0, 114)),
  ((12, 9), (1, kJ0_checkIndex_df160, 2, 485, 486, 0, 112)),
  ((13, 48), (1, kJ2_length_9d52b, 1, 499, 500, 0, 115)),
  ((13, 67), (1, kJ2_checkIndex_2214a, 2, 496, 497, 0, 115)),
  ((13, 71), (1, kJ2_getChar_3b067, 2, 503, 504, 0, 115)),
  ((13, 414), (1, kJ0_checkIndex_df160, 2, 502, 486, 0, 112))]
def am_pt : List ((Nat × Nat) × (Nat × Nat)) := [((0, 3), (0, 331)), ((0, 67), (1, 708)), ((1, 3), (0, 131)), ((1, 51), (2, 614)), ((2, 1), (0, 266)), ((3, 3), (0, 301)), ((3, 76), (1, 660)), ((4, 3), (0, 377)), ((4, 28), (1, 715)), ((5, 3), (0, 283)), ((6, 3), (0, 197)), ((7, 3), (0, 203)), ((8, 1), (0, 123)), ((8, 172), (1, 805)), ((9, 1), (0, 969))]
def am_li : List ((Nat × Nat) × (Int32 × Nat)) := [((8, 220), (1103515245, 884)), ((9, 314), (1103515245, 1403))]
def am_ls : List ((Nat × Nat) × (Nat × Nat)) := [((6, 82), (0, 459)), ((6, 122), (1, 520)), ((6, 147), (2, 538)), ((6, 149), (3, 539)), ((6, 151), (4, 540)), ((6, 91), (5, 545)), ((6, 96), (6, 554)), ((6, 101), (7, 559)), ((6, 106), (8, 564)), ((6, 111), (9, 573)), ((6, 186), (10, 590)), ((6, 188), (11, 591)), ((6, 190), (12, 592))]
def am_l2 : List ((Nat × Nat) × (Int64 × Nat)) := [((8, 246), (4, 925)), ((9, 68), (127, 1062)), ((9, 105), (97, 1082)), ((9, 107), (122, 1083)), ((9, 109), (48, 1084)), ((9, 111), (57, 1085)), ((9, 123), (104, 1134)), ((9, 276), (7, 1300)), ((9, 284), (3, 1313)), ((9, 289), (4, 1346)), ((9, 295), (99, 1354)), ((9, 306), (9, 1383)), ((9, 308), (999, 1388)), ((9, 310), (20, 1393)), ((9, 312), (10, 1402)), ((9, 315), (2, 1419))]
def am_tx : List String := ["cols", "repeat", "fix", "auto", "flex", "gap", "width", "high", "line", "item", "row", "at", "col"]
def am_sl : List Nat := [4, 6, 3, 4, 4, 3, 5, 4, 4, 4, 3, 2, 3]
def am_sb : List (List Int32) := [[99, 111, 108, 115], [114, 101, 112, 101, 97, 116], [102, 105, 120], [97, 117, 116, 111], [102, 108, 101, 120], [103, 97, 112], [119, 105, 100, 116, 104], [104, 105, 103, 104], [108, 105, 110, 101], [105, 116, 101, 109], [114, 111, 119], [97, 116], [99, 111, 108]]
def am_gs : List ((Nat × Nat) × (Nat × Nat × Nat)) := [((6, 173), (2, 1, 582)), ((6, 176), (3, 1, 584)), ((8, 204), (2, 0, 850)), ((8, 207), (3, 0, 851)), ((11, 38), (0, 0, 472)), ((11, 1053), (1, 0, 488))]
def am_nt : List ((Nat × Nat) × (Nat × Nat × Nat × Nat)) := [((2, 7), (1, 267, 127, 102)), ((6, 9), (7, 198, 199, 105)), ((6, 18), (1, 229, 127, 102)), ((8, 7), (1, 126, 127, 102)), ((8, 16), (6, 192, 193, 104)), ((8, 23), (2, 260, 262, 106)), ((8, 30), (5, 277, 279, 107)), ((8, 37), (3, 296, 297, 108)), ((8, 44), (0, 326, 327, 109)), ((8, 54), (4, 372, 373, 110)), ((10, 7), (8, 118, 119, 101)), ((10, 10), (9, 964, 965, 111))]
def am_na : List ((Nat × Nat) × (Nat × Nat × Nat)) := [((8, 23), (3, 260, 261)), ((8, 30), (4, 277, 278))]
-- places of single words: {'ao': 133, 'aci': [191, 228, 1057], 'oi': 124}
-- lays of each class
def am_ly : List (List Nat) := [[351, 353, 355, 357, 359, 361, 363, 365, 367, 369], [170, 172, 174, 176, 178, 180, 182, 184, 186, 188], [272, 274], [313, 315, 317, 319, 321, 323], [380, 382], [289, 291, 293], [243, 245, 247, 249, 251, 253, 255, 257], [215, 217, 219, 221, 223, 225], [395, 397, 399, 401, 403, 405, 407, 409, 411, 413], [1004, 1006, 1008, 1010, 1012, 1014, 1016, 1018, 1020, 1022, 1024, 1026, 1028, 1030, 1032, 1034, 1036, 1038, 1040, 1042, 1044, 1046, 1048, 1050, 1052, 1054]]
