section
-- ===== PART A: goes FIRST, ahead of the names: the tables' words, and 'selects' of the private methods out of them =====
/-- a private method of a class that the tables say can be made, by its rows of tables_1 -/
def lw_okq (q : MethodName × Nat) : Prop := (q.1.cls ≠ "java/lang/invoke/MethodHandle" ∧ q.1.cls ≠ "java/lang/invoke/VarHandle") ∧ Cond.instantiable q.1.cls q.2 ∈ tables_1 ∧ Cond.privateMethod q.1 ∈ tables_1 ∧ Cond.instanceMethod q.1 ∈ tables_1
theorem lw_p0 : lw_okq (⟨"MailHeads$Head", "takeLine", "(LMailHeads$Row;II)Z"⟩, 3) := ⟨⟨by decide +kernel, by decide +kernel⟩, List.mem_of_getElem? (i := 46) (by decide +kernel), List.mem_of_getElem? (i := 284) (by decide +kernel), List.mem_of_getElem? (i := 285) (by decide +kernel)⟩
theorem lw_p1 : lw_okq (⟨"MailHeads$Head", "takeFolded", "(LMailHeads$Row;II)V"⟩, 3) := ⟨⟨by decide +kernel, by decide +kernel⟩, List.mem_of_getElem? (i := 46) (by decide +kernel), List.mem_of_getElem? (i := 291) (by decide +kernel), List.mem_of_getElem? (i := 292) (by decide +kernel)⟩
theorem lw_p2 : lw_okq (⟨"MailHeads$Head", "putBytes", "(LMailHeads$Row;II)V"⟩, 3) := ⟨⟨by decide +kernel, by decide +kernel⟩, List.mem_of_getElem? (i := 46) (by decide +kernel), List.mem_of_getElem? (i := 295) (by decide +kernel), List.mem_of_getElem? (i := 296) (by decide +kernel)⟩
theorem lw_p3 : lw_okq (⟨"MailHeads$Head", "closeValue", "()V"⟩, 3) := ⟨⟨by decide +kernel, by decide +kernel⟩, List.mem_of_getElem? (i := 46) (by decide +kernel), List.mem_of_getElem? (i := 309) (by decide +kernel), List.mem_of_getElem? (i := 310) (by decide +kernel)⟩
theorem lw_p4 : lw_okq (⟨"MailHeads", "textsFor", "(I)LMailHeads$Texts;"⟩, 9) := ⟨⟨by decide +kernel, by decide +kernel⟩, List.mem_of_getElem? (i := 24) (by decide +kernel), List.mem_of_getElem? (i := 400) (by decide +kernel), List.mem_of_getElem? (i := 401) (by decide +kernel)⟩
theorem lw_p5 : lw_okq (⟨"MailHeads", "textFor", "(II)I"⟩, 9) := ⟨⟨by decide +kernel, by decide +kernel⟩, List.mem_of_getElem? (i := 24) (by decide +kernel), List.mem_of_getElem? (i := 416) (by decide +kernel), List.mem_of_getElem? (i := 417) (by decide +kernel)⟩
theorem lw_p6 : lw_okq (⟨"MailHeads$ContentType", "firstOf", "(LMailHeads$Row;I)I"⟩, 7) := ⟨⟨by decide +kernel, by decide +kernel⟩, List.mem_of_getElem? (i := 185) (by decide +kernel), List.mem_of_getElem? (i := 442) (by decide +kernel), List.mem_of_getElem? (i := 443) (by decide +kernel)⟩
theorem lw_p7 : lw_okq (⟨"MailHeads$ContentType", "putCharset", "(I)I"⟩, 7) := ⟨⟨by decide +kernel, by decide +kernel⟩, List.mem_of_getElem? (i := 185) (by decide +kernel), List.mem_of_getElem? (i := 449) (by decide +kernel), List.mem_of_getElem? (i := 450) (by decide +kernel)⟩
theorem lw_p8 : lw_okq (⟨"MailHeads$ContentType", "quoteFrom", "(II)I"⟩, 7) := ⟨⟨by decide +kernel, by decide +kernel⟩, List.mem_of_getElem? (i := 185) (by decide +kernel), List.mem_of_getElem? (i := 453) (by decide +kernel), List.mem_of_getElem? (i := 454) (by decide +kernel)⟩
theorem lw_p9 : lw_okq (⟨"MailHeads$ContentType", "putBytes", "(II)V"⟩, 7) := ⟨⟨by decide +kernel, by decide +kernel⟩, List.mem_of_getElem? (i := 185) (by decide +kernel), List.mem_of_getElem? (i := 464) (by decide +kernel), List.mem_of_getElem? (i := 465) (by decide +kernel)⟩
theorem lw_p10 : lw_okq (⟨"MailHeads$ContentType", "hexadecimal", "(II)I"⟩, 7) := ⟨⟨by decide +kernel, by decide +kernel⟩, List.mem_of_getElem? (i := 185) (by decide +kernel), List.mem_of_getElem? (i := 468) (by decide +kernel), List.mem_of_getElem? (i := 469) (by decide +kernel)⟩
theorem lw_p11 : lw_okq (⟨"MailHeads", "valueOf", "(I)I"⟩, 9) := ⟨⟨by decide +kernel, by decide +kernel⟩, List.mem_of_getElem? (i := 24) (by decide +kernel), List.mem_of_getElem? (i := 496) (by decide +kernel), List.mem_of_getElem? (i := 497) (by decide +kernel)⟩
theorem lw_p12 : lw_okq (⟨"java/lang/Throwable", "fillInStackTrace", "(I)Ljava/lang/Throwable;"⟩, 6) := ⟨⟨by decide +kernel, by decide +kernel⟩, List.mem_of_getElem? (i := 536) (by decide +kernel), List.mem_of_getElem? (i := 534) (by decide +kernel), List.mem_of_getElem? (i := 535) (by decide +kernel)⟩
theorem lw_p13 : lw_okq (⟨"MailHeads$Words", "cutWord", "(IIZ)I"⟩, 5) := ⟨⟨by decide +kernel, by decide +kernel⟩, List.mem_of_getElem? (i := 97) (by decide +kernel), List.mem_of_getElem? (i := 573) (by decide +kernel), List.mem_of_getElem? (i := 574) (by decide +kernel)⟩
theorem lw_p14 : lw_okq (⟨"MailHeads$Words", "cutComment", "(IIZ)I"⟩, 5) := ⟨⟨by decide +kernel, by decide +kernel⟩, List.mem_of_getElem? (i := 97) (by decide +kernel), List.mem_of_getElem? (i := 581) (by decide +kernel), List.mem_of_getElem? (i := 582) (by decide +kernel)⟩
theorem lw_p15 : lw_okq (⟨"MailHeads$Words", "putWithin", "(II)V"⟩, 5) := ⟨⟨by decide +kernel, by decide +kernel⟩, List.mem_of_getElem? (i := 97) (by decide +kernel), List.mem_of_getElem? (i := 585) (by decide +kernel), List.mem_of_getElem? (i := 586) (by decide +kernel)⟩
def lw_privs_1 : List (MethodName × Nat) := [(⟨"MailHeads$Head", "takeLine", "(LMailHeads$Row;II)Z"⟩, 3), (⟨"MailHeads$Head", "takeFolded", "(LMailHeads$Row;II)V"⟩, 3), (⟨"MailHeads$Head", "putBytes", "(LMailHeads$Row;II)V"⟩, 3), (⟨"MailHeads$Head", "closeValue", "()V"⟩, 3), (⟨"MailHeads", "textsFor", "(I)LMailHeads$Texts;"⟩, 9), (⟨"MailHeads", "textFor", "(II)I"⟩, 9), (⟨"MailHeads$ContentType", "firstOf", "(LMailHeads$Row;I)I"⟩, 7), (⟨"MailHeads$ContentType", "putCharset", "(I)I"⟩, 7), (⟨"MailHeads$ContentType", "quoteFrom", "(II)I"⟩, 7), (⟨"MailHeads$ContentType", "putBytes", "(II)V"⟩, 7), (⟨"MailHeads$ContentType", "hexadecimal", "(II)I"⟩, 7), (⟨"MailHeads", "valueOf", "(I)I"⟩, 9), (⟨"java/lang/Throwable", "fillInStackTrace", "(I)Ljava/lang/Throwable;"⟩, 6), (⟨"MailHeads$Words", "cutWord", "(IIZ)I"⟩, 5), (⟨"MailHeads$Words", "cutComment", "(IIZ)I"⟩, 5), (⟨"MailHeads$Words", "putWithin", "(II)V"⟩, 5)]
theorem lw_r1 : ∀ q ∈ lw_privs_1, lw_okq q := List.forall_mem_cons.mpr ⟨lw_p0, List.forall_mem_cons.mpr ⟨lw_p1, List.forall_mem_cons.mpr ⟨lw_p2, List.forall_mem_cons.mpr ⟨lw_p3, List.forall_mem_cons.mpr ⟨lw_p4, List.forall_mem_cons.mpr ⟨lw_p5, List.forall_mem_cons.mpr ⟨lw_p6, List.forall_mem_cons.mpr ⟨lw_p7, List.forall_mem_cons.mpr ⟨lw_p8, List.forall_mem_cons.mpr ⟨lw_p9, List.forall_mem_cons.mpr ⟨lw_p10, List.forall_mem_cons.mpr ⟨lw_p11, List.forall_mem_cons.mpr ⟨lw_p12, List.forall_mem_cons.mpr ⟨lw_p13, List.forall_mem_cons.mpr ⟨lw_p14, List.forall_mem_cons.mpr ⟨lw_p15, fun _ h => absurd h List.not_mem_nil⟩⟩⟩⟩⟩⟩⟩⟩⟩⟩⟩⟩⟩⟩⟩⟩
theorem lw_p16 : lw_okq (⟨"MailHeads$Words", "close", "(I)V"⟩, 5) := ⟨⟨by decide +kernel, by decide +kernel⟩, List.mem_of_getElem? (i := 97) (by decide +kernel), List.mem_of_getElem? (i := 590) (by decide +kernel), List.mem_of_getElem? (i := 591) (by decide +kernel)⟩
theorem lw_p17 : lw_okq (⟨"MailHeads$Words", "cutEnclosed", "(IIII)I"⟩, 5) := ⟨⟨by decide +kernel, by decide +kernel⟩, List.mem_of_getElem? (i := 97) (by decide +kernel), List.mem_of_getElem? (i := 600) (by decide +kernel), List.mem_of_getElem? (i := 601) (by decide +kernel)⟩
theorem lw_p18 : lw_okq (⟨"MailHeads$Words", "isSign", "(I)Z"⟩, 5) := ⟨⟨by decide +kernel, by decide +kernel⟩, List.mem_of_getElem? (i := 97) (by decide +kernel), List.mem_of_getElem? (i := 604) (by decide +kernel), List.mem_of_getElem? (i := 605) (by decide +kernel)⟩
theorem lw_p19 : lw_okq (⟨"MailHeads$Words", "cutAtom", "(II)I"⟩, 5) := ⟨⟨by decide +kernel, by decide +kernel⟩, List.mem_of_getElem? (i := 97) (by decide +kernel), List.mem_of_getElem? (i := 692) (by decide +kernel), List.mem_of_getElem? (i := 693) (by decide +kernel)⟩
theorem lw_p20 : lw_okq (⟨"MailHeads$Addresses", "beginGathering", "()V"⟩, 8) := ⟨⟨by decide +kernel, by decide +kernel⟩, List.mem_of_getElem? (i := 125) (by decide +kernel), List.mem_of_getElem? (i := 703) (by decide +kernel), List.mem_of_getElem? (i := 704) (by decide +kernel)⟩
theorem lw_p21 : lw_okq (⟨"MailHeads$Addresses", "takeGathered", "(I)V"⟩, 8) := ⟨⟨by decide +kernel, by decide +kernel⟩, List.mem_of_getElem? (i := 125) (by decide +kernel), List.mem_of_getElem? (i := 711) (by decide +kernel), List.mem_of_getElem? (i := 712) (by decide +kernel)⟩
theorem lw_p22 : lw_okq (⟨"MailHeads$Addresses", "takeColon", "()V"⟩, 8) := ⟨⟨by decide +kernel, by decide +kernel⟩, List.mem_of_getElem? (i := 125) (by decide +kernel), List.mem_of_getElem? (i := 715) (by decide +kernel), List.mem_of_getElem? (i := 716) (by decide +kernel)⟩
theorem lw_p23 : lw_okq (⟨"MailHeads$Addresses", "isName", "(I)Z"⟩, 8) := ⟨⟨by decide +kernel, by decide +kernel⟩, List.mem_of_getElem? (i := 125) (by decide +kernel), List.mem_of_getElem? (i := 720) (by decide +kernel), List.mem_of_getElem? (i := 721) (by decide +kernel)⟩
theorem lw_p24 : lw_okq (⟨"MailHeads$Addresses", "kindAt", "(I)I"⟩, 8) := ⟨⟨by decide +kernel, by decide +kernel⟩, List.mem_of_getElem? (i := 125) (by decide +kernel), List.mem_of_getElem? (i := 724) (by decide +kernel), List.mem_of_getElem? (i := 725) (by decide +kernel)⟩
theorem lw_p25 : lw_okq (⟨"MailHeads$Addresses", "putName", "(LMailHeads$Texts;I)V"⟩, 8) := ⟨⟨by decide +kernel, by decide +kernel⟩, List.mem_of_getElem? (i := 125) (by decide +kernel), List.mem_of_getElem? (i := 728) (by decide +kernel), List.mem_of_getElem? (i := 729) (by decide +kernel)⟩
theorem lw_p26 : lw_okq (⟨"MailHeads$Addresses", "takeMailbox", "()Z"⟩, 8) := ⟨⟨by decide +kernel, by decide +kernel⟩, List.mem_of_getElem? (i := 125) (by decide +kernel), List.mem_of_getElem? (i := 742) (by decide +kernel), List.mem_of_getElem? (i := 743) (by decide +kernel)⟩
theorem lw_p27 : lw_okq (⟨"MailHeads$Addresses", "firstOpen", "()I"⟩, 8) := ⟨⟨by decide +kernel, by decide +kernel⟩, List.mem_of_getElem? (i := 125) (by decide +kernel), List.mem_of_getElem? (i := 746) (by decide +kernel), List.mem_of_getElem? (i := 747) (by decide +kernel)⟩
theorem lw_p28 : lw_okq (⟨"MailHeads$Addresses", "behindRoute", "(II)I"⟩, 8) := ⟨⟨by decide +kernel, by decide +kernel⟩, List.mem_of_getElem? (i := 125) (by decide +kernel), List.mem_of_getElem? (i := 750) (by decide +kernel), List.mem_of_getElem? (i := 751) (by decide +kernel)⟩
theorem lw_p29 : lw_okq (⟨"MailHeads$Addresses", "dottedEnd", "(IIZ)I"⟩, 8) := ⟨⟨by decide +kernel, by decide +kernel⟩, List.mem_of_getElem? (i := 125) (by decide +kernel), List.mem_of_getElem? (i := 754) (by decide +kernel), List.mem_of_getElem? (i := 755) (by decide +kernel)⟩
theorem lw_p30 : lw_okq (⟨"MailHeads$Addresses", "isDomainBehind", "(II)Z"⟩, 8) := ⟨⟨by decide +kernel, by decide +kernel⟩, List.mem_of_getElem? (i := 125) (by decide +kernel), List.mem_of_getElem? (i := 758) (by decide +kernel), List.mem_of_getElem? (i := 759) (by decide +kernel)⟩
theorem lw_p31 : lw_okq (⟨"MailHeads$Addresses", "putWords", "(II)V"⟩, 8) := ⟨⟨by decide +kernel, by decide +kernel⟩, List.mem_of_getElem? (i := 125) (by decide +kernel), List.mem_of_getElem? (i := 762) (by decide +kernel), List.mem_of_getElem? (i := 763) (by decide +kernel)⟩
def lw_privs_2 : List (MethodName × Nat) := [(⟨"MailHeads$Words", "close", "(I)V"⟩, 5), (⟨"MailHeads$Words", "cutEnclosed", "(IIII)I"⟩, 5), (⟨"MailHeads$Words", "isSign", "(I)Z"⟩, 5), (⟨"MailHeads$Words", "cutAtom", "(II)I"⟩, 5), (⟨"MailHeads$Addresses", "beginGathering", "()V"⟩, 8), (⟨"MailHeads$Addresses", "takeGathered", "(I)V"⟩, 8), (⟨"MailHeads$Addresses", "takeColon", "()V"⟩, 8), (⟨"MailHeads$Addresses", "isName", "(I)Z"⟩, 8), (⟨"MailHeads$Addresses", "kindAt", "(I)I"⟩, 8), (⟨"MailHeads$Addresses", "putName", "(LMailHeads$Texts;I)V"⟩, 8), (⟨"MailHeads$Addresses", "takeMailbox", "()Z"⟩, 8), (⟨"MailHeads$Addresses", "firstOpen", "()I"⟩, 8), (⟨"MailHeads$Addresses", "behindRoute", "(II)I"⟩, 8), (⟨"MailHeads$Addresses", "dottedEnd", "(IIZ)I"⟩, 8), (⟨"MailHeads$Addresses", "isDomainBehind", "(II)Z"⟩, 8), (⟨"MailHeads$Addresses", "putWords", "(II)V"⟩, 8)]
theorem lw_r2 : ∀ q ∈ lw_privs_2, lw_okq q := List.forall_mem_cons.mpr ⟨lw_p16, List.forall_mem_cons.mpr ⟨lw_p17, List.forall_mem_cons.mpr ⟨lw_p18, List.forall_mem_cons.mpr ⟨lw_p19, List.forall_mem_cons.mpr ⟨lw_p20, List.forall_mem_cons.mpr ⟨lw_p21, List.forall_mem_cons.mpr ⟨lw_p22, List.forall_mem_cons.mpr ⟨lw_p23, List.forall_mem_cons.mpr ⟨lw_p24, List.forall_mem_cons.mpr ⟨lw_p25, List.forall_mem_cons.mpr ⟨lw_p26, List.forall_mem_cons.mpr ⟨lw_p27, List.forall_mem_cons.mpr ⟨lw_p28, List.forall_mem_cons.mpr ⟨lw_p29, List.forall_mem_cons.mpr ⟨lw_p30, List.forall_mem_cons.mpr ⟨lw_p31, fun _ h => absurd h List.not_mem_nil⟩⟩⟩⟩⟩⟩⟩⟩⟩⟩⟩⟩⟩⟩⟩⟩
theorem lw_p32 : lw_okq (⟨"MailHeads$Identities", "takeBetween", "(LMailHeads$Texts;III)V"⟩, 1) := ⟨⟨by decide +kernel, by decide +kernel⟩, List.mem_of_getElem? (i := 160) (by decide +kernel), List.mem_of_getElem? (i := 782) (by decide +kernel), List.mem_of_getElem? (i := 783) (by decide +kernel)⟩
theorem lw_p33 : lw_okq (⟨"MailHeads$DateReader", "takeNumber", "(II)I"⟩, 2) := ⟨⟨by decide +kernel, by decide +kernel⟩, List.mem_of_getElem? (i := 172) (by decide +kernel), List.mem_of_getElem? (i := 803) (by decide +kernel), List.mem_of_getElem? (i := 804) (by decide +kernel)⟩
theorem lw_p34 : lw_okq (⟨"MailHeads$DateReader", "digits", "(II)I"⟩, 2) := ⟨⟨by decide +kernel, by decide +kernel⟩, List.mem_of_getElem? (i := 172) (by decide +kernel), List.mem_of_getElem? (i := 809) (by decide +kernel), List.mem_of_getElem? (i := 810) (by decide +kernel)⟩
theorem lw_p35 : lw_okq (⟨"MailHeads$DateReader", "takeMonth", "()I"⟩, 2) := ⟨⟨by decide +kernel, by decide +kernel⟩, List.mem_of_getElem? (i := 172) (by decide +kernel), List.mem_of_getElem? (i := 815) (by decide +kernel), List.mem_of_getElem? (i := 816) (by decide +kernel)⟩
theorem lw_p36 : lw_okq (⟨"MailHeads$DateReader", "threeLetters", "(Ljava/lang/String;)I"⟩, 2) := ⟨⟨by decide +kernel, by decide +kernel⟩, List.mem_of_getElem? (i := 172) (by decide +kernel), List.mem_of_getElem? (i := 820) (by decide +kernel), List.mem_of_getElem? (i := 821) (by decide +kernel)⟩
theorem lw_p37 : lw_okq (⟨"MailHeads$DateReader", "isLetter", "(II)Z"⟩, 2) := ⟨⟨by decide +kernel, by decide +kernel⟩, List.mem_of_getElem? (i := 172) (by decide +kernel), List.mem_of_getElem? (i := 845) (by decide +kernel), List.mem_of_getElem? (i := 846) (by decide +kernel)⟩
theorem lw_p38 : lw_okq (⟨"MailHeads$DateReader", "takeYear", "()I"⟩, 2) := ⟨⟨by decide +kernel, by decide +kernel⟩, List.mem_of_getElem? (i := 172) (by decide +kernel), List.mem_of_getElem? (i := 850) (by decide +kernel), List.mem_of_getElem? (i := 851) (by decide +kernel)⟩
theorem lw_p39 : lw_okq (⟨"MailHeads$DateReader", "takeColon", "()Z"⟩, 2) := ⟨⟨by decide +kernel, by decide +kernel⟩, List.mem_of_getElem? (i := 172) (by decide +kernel), List.mem_of_getElem? (i := 854) (by decide +kernel), List.mem_of_getElem? (i := 855) (by decide +kernel)⟩
theorem lw_p40 : lw_okq (⟨"MailHeads$DateReader", "zoneSeconds", "()I"⟩, 2) := ⟨⟨by decide +kernel, by decide +kernel⟩, List.mem_of_getElem? (i := 172) (by decide +kernel), List.mem_of_getElem? (i := 878) (by decide +kernel), List.mem_of_getElem? (i := 879) (by decide +kernel)⟩
theorem lw_p41 : lw_okq (⟨"MailHeads$DateReader", "signedZone", "(I)I"⟩, 2) := ⟨⟨by decide +kernel, by decide +kernel⟩, List.mem_of_getElem? (i := 172) (by decide +kernel), List.mem_of_getElem? (i := 885) (by decide +kernel), List.mem_of_getElem? (i := 886) (by decide +kernel)⟩
theorem lw_p42 : lw_okq (⟨"MailHeads$ContentType", "takePart", "(I)V"⟩, 7) := ⟨⟨by decide +kernel, by decide +kernel⟩, List.mem_of_getElem? (i := 185) (by decide +kernel), List.mem_of_getElem? (i := 903) (by decide +kernel), List.mem_of_getElem? (i := 904) (by decide +kernel)⟩
theorem lw_p43 : lw_okq (⟨"MailHeads$ContentType", "takeParameter", "(I)V"⟩, 7) := ⟨⟨by decide +kernel, by decide +kernel⟩, List.mem_of_getElem? (i := 185) (by decide +kernel), List.mem_of_getElem? (i := 909) (by decide +kernel), List.mem_of_getElem? (i := 910) (by decide +kernel)⟩
theorem lw_p44 : lw_okq (⟨"MailHeadsModel", "readyWord", "(II)V"⟩, 45) := ⟨⟨by decide +kernel, by decide +kernel⟩, List.mem_of_getElem? (i := 915) (by decide +kernel), List.mem_of_getElem? (i := 1066) (by decide +kernel), List.mem_of_getElem? (i := 1067) (by decide +kernel)⟩
theorem lw_p45 : lw_okq (⟨"MailHeadsModel", "colonOf", "(II)I"⟩, 45) := ⟨⟨by decide +kernel, by decide +kernel⟩, List.mem_of_getElem? (i := 915) (by decide +kernel), List.mem_of_getElem? (i := 1078) (by decide +kernel), List.mem_of_getElem? (i := 1079) (by decide +kernel)⟩
theorem lw_p46 : lw_okq (⟨"MailHeadsModel", "keep", "(II)V"⟩, 45) := ⟨⟨by decide +kernel, by decide +kernel⟩, List.mem_of_getElem? (i := 915) (by decide +kernel), List.mem_of_getElem? (i := 1085) (by decide +kernel), List.mem_of_getElem? (i := 1086) (by decide +kernel)⟩
theorem lw_p47 : lw_okq (⟨"MailHeadsModel", "addField", "(III)V"⟩, 45) := ⟨⟨by decide +kernel, by decide +kernel⟩, List.mem_of_getElem? (i := 915) (by decide +kernel), List.mem_of_getElem? (i := 1089) (by decide +kernel), List.mem_of_getElem? (i := 1090) (by decide +kernel)⟩
def lw_privs_3 : List (MethodName × Nat) := [(⟨"MailHeads$Identities", "takeBetween", "(LMailHeads$Texts;III)V"⟩, 1), (⟨"MailHeads$DateReader", "takeNumber", "(II)I"⟩, 2), (⟨"MailHeads$DateReader", "digits", "(II)I"⟩, 2), (⟨"MailHeads$DateReader", "takeMonth", "()I"⟩, 2), (⟨"MailHeads$DateReader", "threeLetters", "(Ljava/lang/String;)I"⟩, 2), (⟨"MailHeads$DateReader", "isLetter", "(II)Z"⟩, 2), (⟨"MailHeads$DateReader", "takeYear", "()I"⟩, 2), (⟨"MailHeads$DateReader", "takeColon", "()Z"⟩, 2), (⟨"MailHeads$DateReader", "zoneSeconds", "()I"⟩, 2), (⟨"MailHeads$DateReader", "signedZone", "(I)I"⟩, 2), (⟨"MailHeads$ContentType", "takePart", "(I)V"⟩, 7), (⟨"MailHeads$ContentType", "takeParameter", "(I)V"⟩, 7), (⟨"MailHeadsModel", "readyWord", "(II)V"⟩, 45), (⟨"MailHeadsModel", "colonOf", "(II)I"⟩, 45), (⟨"MailHeadsModel", "keep", "(II)V"⟩, 45), (⟨"MailHeadsModel", "addField", "(III)V"⟩, 45)]
theorem lw_r3 : ∀ q ∈ lw_privs_3, lw_okq q := List.forall_mem_cons.mpr ⟨lw_p32, List.forall_mem_cons.mpr ⟨lw_p33, List.forall_mem_cons.mpr ⟨lw_p34, List.forall_mem_cons.mpr ⟨lw_p35, List.forall_mem_cons.mpr ⟨lw_p36, List.forall_mem_cons.mpr ⟨lw_p37, List.forall_mem_cons.mpr ⟨lw_p38, List.forall_mem_cons.mpr ⟨lw_p39, List.forall_mem_cons.mpr ⟨lw_p40, List.forall_mem_cons.mpr ⟨lw_p41, List.forall_mem_cons.mpr ⟨lw_p42, List.forall_mem_cons.mpr ⟨lw_p43, List.forall_mem_cons.mpr ⟨lw_p44, List.forall_mem_cons.mpr ⟨lw_p45, List.forall_mem_cons.mpr ⟨lw_p46, List.forall_mem_cons.mpr ⟨lw_p47, fun _ h => absurd h List.not_mem_nil⟩⟩⟩⟩⟩⟩⟩⟩⟩⟩⟩⟩⟩⟩⟩⟩
theorem lw_p48 : lw_okq (⟨"MailHeadsModel", "isField", "(I)Z"⟩, 45) := ⟨⟨by decide +kernel, by decide +kernel⟩, List.mem_of_getElem? (i := 915) (by decide +kernel), List.mem_of_getElem? (i := 1108) (by decide +kernel), List.mem_of_getElem? (i := 1109) (by decide +kernel)⟩
theorem lw_p49 : lw_okq (⟨"MailHeadsModel", "cut", "(IZ)V"⟩, 45) := ⟨⟨by decide +kernel, by decide +kernel⟩, List.mem_of_getElem? (i := 915) (by decide +kernel), List.mem_of_getElem? (i := 1130) (by decide +kernel), List.mem_of_getElem? (i := 1131) (by decide +kernel)⟩
theorem lw_p50 : lw_okq (⟨"MailHeadsModel", "takeEnclosed", "(II)V"⟩, 45) := ⟨⟨by decide +kernel, by decide +kernel⟩, List.mem_of_getElem? (i := 915) (by decide +kernel), List.mem_of_getElem? (i := 1137) (by decide +kernel), List.mem_of_getElem? (i := 1138) (by decide +kernel)⟩
theorem lw_p51 : lw_okq (⟨"MailHeadsModel", "beginWord", "(II)V"⟩, 45) := ⟨⟨by decide +kernel, by decide +kernel⟩, List.mem_of_getElem? (i := 915) (by decide +kernel), List.mem_of_getElem? (i := 1141) (by decide +kernel), List.mem_of_getElem? (i := 1142) (by decide +kernel)⟩
theorem lw_p52 : lw_okq (⟨"MailHeadsModel", "put", "(I)V"⟩, 45) := ⟨⟨by decide +kernel, by decide +kernel⟩, List.mem_of_getElem? (i := 915) (by decide +kernel), List.mem_of_getElem? (i := 1145) (by decide +kernel), List.mem_of_getElem? (i := 1146) (by decide +kernel)⟩
theorem lw_p53 : lw_okq (⟨"MailHeadsModel", "endWord", "()V"⟩, 45) := ⟨⟨by decide +kernel, by decide +kernel⟩, List.mem_of_getElem? (i := 915) (by decide +kernel), List.mem_of_getElem? (i := 1149) (by decide +kernel), List.mem_of_getElem? (i := 1150) (by decide +kernel)⟩
theorem lw_p54 : lw_okq (⟨"MailHeadsModel", "isSign", "(I)Z"⟩, 45) := ⟨⟨by decide +kernel, by decide +kernel⟩, List.mem_of_getElem? (i := 915) (by decide +kernel), List.mem_of_getElem? (i := 1153) (by decide +kernel), List.mem_of_getElem? (i := 1154) (by decide +kernel)⟩
theorem lw_p55 : lw_okq (⟨"MailHeadsModel", "takeAtom", "()V"⟩, 45) := ⟨⟨by decide +kernel, by decide +kernel⟩, List.mem_of_getElem? (i := 915) (by decide +kernel), List.mem_of_getElem? (i := 1157) (by decide +kernel), List.mem_of_getElem? (i := 1158) (by decide +kernel)⟩
theorem lw_p56 : lw_okq (⟨"MailHeadsModel", "look", "()I"⟩, 45) := ⟨⟨by decide +kernel, by decide +kernel⟩, List.mem_of_getElem? (i := 915) (by decide +kernel), List.mem_of_getElem? (i := 1161) (by decide +kernel), List.mem_of_getElem? (i := 1162) (by decide +kernel)⟩
theorem lw_p57 : lw_okq (⟨"MailHeadsModel", "forget", "(III)V"⟩, 45) := ⟨⟨by decide +kernel, by decide +kernel⟩, List.mem_of_getElem? (i := 915) (by decide +kernel), List.mem_of_getElem? (i := 1165) (by decide +kernel), List.mem_of_getElem? (i := 1166) (by decide +kernel)⟩
theorem lw_p58 : lw_okq (⟨"MailHeadsModel", "is", "(II)Z"⟩, 45) := ⟨⟨by decide +kernel, by decide +kernel⟩, List.mem_of_getElem? (i := 915) (by decide +kernel), List.mem_of_getElem? (i := 1169) (by decide +kernel), List.mem_of_getElem? (i := 1170) (by decide +kernel)⟩
theorem lw_p59 : lw_okq (⟨"MailHeadsModel", "beginGroup", "(II)V"⟩, 45) := ⟨⟨by decide +kernel, by decide +kernel⟩, List.mem_of_getElem? (i := 915) (by decide +kernel), List.mem_of_getElem? (i := 1173) (by decide +kernel), List.mem_of_getElem? (i := 1174) (by decide +kernel)⟩
theorem lw_p60 : lw_okq (⟨"MailHeadsModel", "isName", "(II)Z"⟩, 45) := ⟨⟨by decide +kernel, by decide +kernel⟩, List.mem_of_getElem? (i := 915) (by decide +kernel), List.mem_of_getElem? (i := 1177) (by decide +kernel), List.mem_of_getElem? (i := 1178) (by decide +kernel)⟩
theorem lw_p61 : lw_okq (⟨"MailHeadsModel", "next", "(II)I"⟩, 45) := ⟨⟨by decide +kernel, by decide +kernel⟩, List.mem_of_getElem? (i := 915) (by decide +kernel), List.mem_of_getElem? (i := 1181) (by decide +kernel), List.mem_of_getElem? (i := 1182) (by decide +kernel)⟩
theorem lw_p62 : lw_okq (⟨"MailHeadsModel", "makeName", "(III)V"⟩, 45) := ⟨⟨by decide +kernel, by decide +kernel⟩, List.mem_of_getElem? (i := 915) (by decide +kernel), List.mem_of_getElem? (i := 1185) (by decide +kernel), List.mem_of_getElem? (i := 1186) (by decide +kernel)⟩
theorem lw_p63 : lw_okq (⟨"MailHeadsModel", "beginPart", "(I)V"⟩, 45) := ⟨⟨by decide +kernel, by decide +kernel⟩, List.mem_of_getElem? (i := 915) (by decide +kernel), List.mem_of_getElem? (i := 1189) (by decide +kernel), List.mem_of_getElem? (i := 1190) (by decide +kernel)⟩
def lw_privs_4 : List (MethodName × Nat) := [(⟨"MailHeadsModel", "isField", "(I)Z"⟩, 45), (⟨"MailHeadsModel", "cut", "(IZ)V"⟩, 45), (⟨"MailHeadsModel", "takeEnclosed", "(II)V"⟩, 45), (⟨"MailHeadsModel", "beginWord", "(II)V"⟩, 45), (⟨"MailHeadsModel", "put", "(I)V"⟩, 45), (⟨"MailHeadsModel", "endWord", "()V"⟩, 45), (⟨"MailHeadsModel", "isSign", "(I)Z"⟩, 45), (⟨"MailHeadsModel", "takeAtom", "()V"⟩, 45), (⟨"MailHeadsModel", "look", "()I"⟩, 45), (⟨"MailHeadsModel", "forget", "(III)V"⟩, 45), (⟨"MailHeadsModel", "is", "(II)Z"⟩, 45), (⟨"MailHeadsModel", "beginGroup", "(II)V"⟩, 45), (⟨"MailHeadsModel", "isName", "(II)Z"⟩, 45), (⟨"MailHeadsModel", "next", "(II)I"⟩, 45), (⟨"MailHeadsModel", "makeName", "(III)V"⟩, 45), (⟨"MailHeadsModel", "beginPart", "(I)V"⟩, 45)]
theorem lw_r4 : ∀ q ∈ lw_privs_4, lw_okq q := List.forall_mem_cons.mpr ⟨lw_p48, List.forall_mem_cons.mpr ⟨lw_p49, List.forall_mem_cons.mpr ⟨lw_p50, List.forall_mem_cons.mpr ⟨lw_p51, List.forall_mem_cons.mpr ⟨lw_p52, List.forall_mem_cons.mpr ⟨lw_p53, List.forall_mem_cons.mpr ⟨lw_p54, List.forall_mem_cons.mpr ⟨lw_p55, List.forall_mem_cons.mpr ⟨lw_p56, List.forall_mem_cons.mpr ⟨lw_p57, List.forall_mem_cons.mpr ⟨lw_p58, List.forall_mem_cons.mpr ⟨lw_p59, List.forall_mem_cons.mpr ⟨lw_p60, List.forall_mem_cons.mpr ⟨lw_p61, List.forall_mem_cons.mpr ⟨lw_p62, List.forall_mem_cons.mpr ⟨lw_p63, fun _ h => absurd h List.not_mem_nil⟩⟩⟩⟩⟩⟩⟩⟩⟩⟩⟩⟩⟩⟩⟩⟩
theorem lw_p64 : lw_okq (⟨"MailHeadsModel", "roomAt", "(I)I"⟩, 45) := ⟨⟨by decide +kernel, by decide +kernel⟩, List.mem_of_getElem? (i := 915) (by decide +kernel), List.mem_of_getElem? (i := 1193) (by decide +kernel), List.mem_of_getElem? (i := 1194) (by decide +kernel)⟩
theorem lw_p65 : lw_okq (⟨"MailHeadsModel", "add", "(II)V"⟩, 45) := ⟨⟨by decide +kernel, by decide +kernel⟩, List.mem_of_getElem? (i := 915) (by decide +kernel), List.mem_of_getElem? (i := 1200) (by decide +kernel), List.mem_of_getElem? (i := 1201) (by decide +kernel)⟩
theorem lw_p66 : lw_okq (⟨"MailHeadsModel", "addWord", "(II)V"⟩, 45) := ⟨⟨by decide +kernel, by decide +kernel⟩, List.mem_of_getElem? (i := 915) (by decide +kernel), List.mem_of_getElem? (i := 1204) (by decide +kernel), List.mem_of_getElem? (i := 1205) (by decide +kernel)⟩
theorem lw_p67 : lw_okq (⟨"MailHeadsModel", "endPart", "(I)V"⟩, 45) := ⟨⟨by decide +kernel, by decide +kernel⟩, List.mem_of_getElem? (i := 915) (by decide +kernel), List.mem_of_getElem? (i := 1208) (by decide +kernel), List.mem_of_getElem? (i := 1209) (by decide +kernel)⟩
theorem lw_p68 : lw_okq (⟨"MailHeadsModel", "takeMailbox", "(IIZI)V"⟩, 45) := ⟨⟨by decide +kernel, by decide +kernel⟩, List.mem_of_getElem? (i := 915) (by decide +kernel), List.mem_of_getElem? (i := 1212) (by decide +kernel), List.mem_of_getElem? (i := 1213) (by decide +kernel)⟩
theorem lw_p69 : lw_okq (⟨"MailHeadsModel", "behindRoute", "(II)I"⟩, 45) := ⟨⟨by decide +kernel, by decide +kernel⟩, List.mem_of_getElem? (i := 915) (by decide +kernel), List.mem_of_getElem? (i := 1216) (by decide +kernel), List.mem_of_getElem? (i := 1217) (by decide +kernel)⟩
theorem lw_p70 : lw_okq (⟨"MailHeadsModel", "isSpec", "(II)Z"⟩, 45) := ⟨⟨by decide +kernel, by decide +kernel⟩, List.mem_of_getElem? (i := 915) (by decide +kernel), List.mem_of_getElem? (i := 1220) (by decide +kernel), List.mem_of_getElem? (i := 1221) (by decide +kernel)⟩
theorem lw_p71 : lw_okq (⟨"MailHeadsModel", "rowEnd", "(IIZ)I"⟩, 45) := ⟨⟨by decide +kernel, by decide +kernel⟩, List.mem_of_getElem? (i := 915) (by decide +kernel), List.mem_of_getElem? (i := 1224) (by decide +kernel), List.mem_of_getElem? (i := 1225) (by decide +kernel)⟩
theorem lw_p72 : lw_okq (⟨"MailHeadsModel", "isRowWord", "(IIZ)Z"⟩, 45) := ⟨⟨by decide +kernel, by decide +kernel⟩, List.mem_of_getElem? (i := 915) (by decide +kernel), List.mem_of_getElem? (i := 1228) (by decide +kernel), List.mem_of_getElem? (i := 1229) (by decide +kernel)⟩
theorem lw_p73 : lw_okq (⟨"MailHeadsModel", "makeComment", "(II)V"⟩, 45) := ⟨⟨by decide +kernel, by decide +kernel⟩, List.mem_of_getElem? (i := 915) (by decide +kernel), List.mem_of_getElem? (i := 1232) (by decide +kernel), List.mem_of_getElem? (i := 1233) (by decide +kernel)⟩
theorem lw_p74 : lw_okq (⟨"MailHeadsModel", "makeWords", "(III)V"⟩, 45) := ⟨⟨by decide +kernel, by decide +kernel⟩, List.mem_of_getElem? (i := 915) (by decide +kernel), List.mem_of_getElem? (i := 1236) (by decide +kernel), List.mem_of_getElem? (i := 1237) (by decide +kernel)⟩
theorem lw_p75 : lw_okq (⟨"MailHeadsModel", "isDigits", "(III)Z"⟩, 45) := ⟨⟨by decide +kernel, by decide +kernel⟩, List.mem_of_getElem? (i := 915) (by decide +kernel), List.mem_of_getElem? (i := 1253) (by decide +kernel), List.mem_of_getElem? (i := 1254) (by decide +kernel)⟩
theorem lw_p76 : lw_okq (⟨"MailHeadsModel", "longOf", "(I)I"⟩, 45) := ⟨⟨by decide +kernel, by decide +kernel⟩, List.mem_of_getElem? (i := 915) (by decide +kernel), List.mem_of_getElem? (i := 1257) (by decide +kernel), List.mem_of_getElem? (i := 1258) (by decide +kernel)⟩
theorem lw_p77 : lw_okq (⟨"MailHeadsModel", "number", "(I)I"⟩, 45) := ⟨⟨by decide +kernel, by decide +kernel⟩, List.mem_of_getElem? (i := 915) (by decide +kernel), List.mem_of_getElem? (i := 1264) (by decide +kernel), List.mem_of_getElem? (i := 1265) (by decide +kernel)⟩
theorem lw_p78 : lw_okq (⟨"MailHeadsModel", "numberOf", "(II)I"⟩, 45) := ⟨⟨by decide +kernel, by decide +kernel⟩, List.mem_of_getElem? (i := 915) (by decide +kernel), List.mem_of_getElem? (i := 1268) (by decide +kernel), List.mem_of_getElem? (i := 1269) (by decide +kernel)⟩
theorem lw_p79 : lw_okq (⟨"MailHeadsModel", "step", "()V"⟩, 45) := ⟨⟨by decide +kernel, by decide +kernel⟩, List.mem_of_getElem? (i := 915) (by decide +kernel), List.mem_of_getElem? (i := 1273) (by decide +kernel), List.mem_of_getElem? (i := 1274) (by decide +kernel)⟩
def lw_privs_5 : List (MethodName × Nat) := [(⟨"MailHeadsModel", "roomAt", "(I)I"⟩, 45), (⟨"MailHeadsModel", "add", "(II)V"⟩, 45), (⟨"MailHeadsModel", "addWord", "(II)V"⟩, 45), (⟨"MailHeadsModel", "endPart", "(I)V"⟩, 45), (⟨"MailHeadsModel", "takeMailbox", "(IIZI)V"⟩, 45), (⟨"MailHeadsModel", "behindRoute", "(II)I"⟩, 45), (⟨"MailHeadsModel", "isSpec", "(II)Z"⟩, 45), (⟨"MailHeadsModel", "rowEnd", "(IIZ)I"⟩, 45), (⟨"MailHeadsModel", "isRowWord", "(IIZ)Z"⟩, 45), (⟨"MailHeadsModel", "makeComment", "(II)V"⟩, 45), (⟨"MailHeadsModel", "makeWords", "(III)V"⟩, 45), (⟨"MailHeadsModel", "isDigits", "(III)Z"⟩, 45), (⟨"MailHeadsModel", "longOf", "(I)I"⟩, 45), (⟨"MailHeadsModel", "number", "(I)I"⟩, 45), (⟨"MailHeadsModel", "numberOf", "(II)I"⟩, 45), (⟨"MailHeadsModel", "step", "()V"⟩, 45)]
theorem lw_r5 : ∀ q ∈ lw_privs_5, lw_okq q := List.forall_mem_cons.mpr ⟨lw_p64, List.forall_mem_cons.mpr ⟨lw_p65, List.forall_mem_cons.mpr ⟨lw_p66, List.forall_mem_cons.mpr ⟨lw_p67, List.forall_mem_cons.mpr ⟨lw_p68, List.forall_mem_cons.mpr ⟨lw_p69, List.forall_mem_cons.mpr ⟨lw_p70, List.forall_mem_cons.mpr ⟨lw_p71, List.forall_mem_cons.mpr ⟨lw_p72, List.forall_mem_cons.mpr ⟨lw_p73, List.forall_mem_cons.mpr ⟨lw_p74, List.forall_mem_cons.mpr ⟨lw_p75, List.forall_mem_cons.mpr ⟨lw_p76, List.forall_mem_cons.mpr ⟨lw_p77, List.forall_mem_cons.mpr ⟨lw_p78, List.forall_mem_cons.mpr ⟨lw_p79, fun _ h => absurd h List.not_mem_nil⟩⟩⟩⟩⟩⟩⟩⟩⟩⟩⟩⟩⟩⟩⟩⟩
theorem lw_p80 : lw_okq (⟨"MailHeadsModel", "monthOf", "(I)I"⟩, 45) := ⟨⟨by decide +kernel, by decide +kernel⟩, List.mem_of_getElem? (i := 915) (by decide +kernel), List.mem_of_getElem? (i := 1277) (by decide +kernel), List.mem_of_getElem? (i := 1278) (by decide +kernel)⟩
theorem lw_p81 : lw_okq (⟨"MailHeadsModel", "isThree", "(III)Z"⟩, 45) := ⟨⟨by decide +kernel, by decide +kernel⟩, List.mem_of_getElem? (i := 915) (by decide +kernel), List.mem_of_getElem? (i := 1282) (by decide +kernel), List.mem_of_getElem? (i := 1283) (by decide +kernel)⟩
theorem lw_p82 : lw_okq (⟨"MailHeadsModel", "yearOf", "(I)I"⟩, 45) := ⟨⟨by decide +kernel, by decide +kernel⟩, List.mem_of_getElem? (i := 915) (by decide +kernel), List.mem_of_getElem? (i := 1297) (by decide +kernel), List.mem_of_getElem? (i := 1298) (by decide +kernel)⟩
theorem lw_p83 : lw_okq (⟨"MailHeadsModel", "two", "(I)I"⟩, 45) := ⟨⟨by decide +kernel, by decide +kernel⟩, List.mem_of_getElem? (i := 915) (by decide +kernel), List.mem_of_getElem? (i := 1307) (by decide +kernel), List.mem_of_getElem? (i := 1308) (by decide +kernel)⟩
theorem lw_p84 : lw_okq (⟨"MailHeadsModel", "dayNumber", "(III)J"⟩, 45) := ⟨⟨by decide +kernel, by decide +kernel⟩, List.mem_of_getElem? (i := 915) (by decide +kernel), List.mem_of_getElem? (i := 1311) (by decide +kernel), List.mem_of_getElem? (i := 1312) (by decide +kernel)⟩
theorem lw_p85 : lw_okq (⟨"MailHeadsModel", "zoneOf", "(I)I"⟩, 45) := ⟨⟨by decide +kernel, by decide +kernel⟩, List.mem_of_getElem? (i := 915) (by decide +kernel), List.mem_of_getElem? (i := 1321) (by decide +kernel), List.mem_of_getElem? (i := 1322) (by decide +kernel)⟩
theorem lw_p86 : lw_okq (⟨"MailHeadsModel", "makeSmall", "(II)V"⟩, 45) := ⟨⟨by decide +kernel, by decide +kernel⟩, List.mem_of_getElem? (i := 915) (by decide +kernel), List.mem_of_getElem? (i := 1337) (by decide +kernel), List.mem_of_getElem? (i := 1338) (by decide +kernel)⟩
theorem lw_p87 : lw_okq (⟨"MailHeadsModel", "takeParameter", "(I)V"⟩, 45) := ⟨⟨by decide +kernel, by decide +kernel⟩, List.mem_of_getElem? (i := 915) (by decide +kernel), List.mem_of_getElem? (i := 1341) (by decide +kernel), List.mem_of_getElem? (i := 1342) (by decide +kernel)⟩
theorem lw_p88 : lw_okq (⟨"MailHeadsModel", "parameterOf", "(II)I"⟩, 45) := ⟨⟨by decide +kernel, by decide +kernel⟩, List.mem_of_getElem? (i := 915) (by decide +kernel), List.mem_of_getElem? (i := 1349) (by decide +kernel), List.mem_of_getElem? (i := 1350) (by decide +kernel)⟩
theorem lw_p89 : lw_okq (⟨"MailHeadsModel", "isNamed", "(II)Z"⟩, 45) := ⟨⟨by decide +kernel, by decide +kernel⟩, List.mem_of_getElem? (i := 915) (by decide +kernel), List.mem_of_getElem? (i := 1353) (by decide +kernel), List.mem_of_getElem? (i := 1354) (by decide +kernel)⟩
theorem lw_p90 : lw_okq (⟨"MailHeadsModel", "takeValue", "(I)V"⟩, 45) := ⟨⟨by decide +kernel, by decide +kernel⟩, List.mem_of_getElem? (i := 915) (by decide +kernel), List.mem_of_getElem? (i := 1357) (by decide +kernel), List.mem_of_getElem? (i := 1358) (by decide +kernel)⟩
theorem lw_p91 : lw_okq (⟨"MailHeadsModel", "behindCharset", "(I)I"⟩, 45) := ⟨⟨by decide +kernel, by decide +kernel⟩, List.mem_of_getElem? (i := 915) (by decide +kernel), List.mem_of_getElem? (i := 1361) (by decide +kernel), List.mem_of_getElem? (i := 1362) (by decide +kernel)⟩
def lw_privs_6 : List (MethodName × Nat) := [(⟨"MailHeadsModel", "monthOf", "(I)I"⟩, 45), (⟨"MailHeadsModel", "isThree", "(III)Z"⟩, 45), (⟨"MailHeadsModel", "yearOf", "(I)I"⟩, 45), (⟨"MailHeadsModel", "two", "(I)I"⟩, 45), (⟨"MailHeadsModel", "dayNumber", "(III)J"⟩, 45), (⟨"MailHeadsModel", "zoneOf", "(I)I"⟩, 45), (⟨"MailHeadsModel", "makeSmall", "(II)V"⟩, 45), (⟨"MailHeadsModel", "takeParameter", "(I)V"⟩, 45), (⟨"MailHeadsModel", "parameterOf", "(II)I"⟩, 45), (⟨"MailHeadsModel", "isNamed", "(II)Z"⟩, 45), (⟨"MailHeadsModel", "takeValue", "(I)V"⟩, 45), (⟨"MailHeadsModel", "behindCharset", "(I)I"⟩, 45)]
theorem lw_r6 : ∀ q ∈ lw_privs_6, lw_okq q := List.forall_mem_cons.mpr ⟨lw_p80, List.forall_mem_cons.mpr ⟨lw_p81, List.forall_mem_cons.mpr ⟨lw_p82, List.forall_mem_cons.mpr ⟨lw_p83, List.forall_mem_cons.mpr ⟨lw_p84, List.forall_mem_cons.mpr ⟨lw_p85, List.forall_mem_cons.mpr ⟨lw_p86, List.forall_mem_cons.mpr ⟨lw_p87, List.forall_mem_cons.mpr ⟨lw_p88, List.forall_mem_cons.mpr ⟨lw_p89, List.forall_mem_cons.mpr ⟨lw_p90, List.forall_mem_cons.mpr ⟨lw_p91, fun _ h => absurd h List.not_mem_nil⟩⟩⟩⟩⟩⟩⟩⟩⟩⟩⟩⟩
def lw_privs : List (MethodName × Nat) := lw_privs_1 ++ (lw_privs_2 ++ (lw_privs_3 ++ (lw_privs_4 ++ (lw_privs_5 ++ (lw_privs_6)))))
def lw_tbl : List Cond := k2_sels lw_privs ++ tables_1
theorem lw_privs_ok : ∀ q ∈ lw_privs, lw_okq q := by
  show ∀ q ∈ lw_privs_1 ++ (lw_privs_2 ++ (lw_privs_3 ++ (lw_privs_4 ++ (lw_privs_5 ++ (lw_privs_6))))), lw_okq q
  exact List.forall_mem_append.mpr ⟨lw_r1, List.forall_mem_append.mpr ⟨lw_r2, List.forall_mem_append.mpr ⟨lw_r3, List.forall_mem_append.mpr ⟨lw_r4, List.forall_mem_append.mpr ⟨lw_r5, lw_r6⟩⟩⟩⟩⟩
end
section
def cR_Mail : String := "MailHeads"
def cF_Mail : u_T := fun k => match k with
  | 0 => ("MailHeads", "ready", "[I", true)
  | 1 => ("MailHeads", "tape", "LMailHeads$Row;", true)
  | 2 => ("MailHeads", "head", "LMailHeads$Head;", true)
  | 3 => ("MailHeads", "words", "LMailHeads$Words;", true)
  | 4 => ("MailHeads", "lastAddresses", "LMailHeads$Addresses;", true)
  | 5 => ("MailHeads", "lastIdentities", "LMailHeads$Identities;", true)
  | 6 => ("MailHeads", "dateReader", "LMailHeads$DateReader;", true)
  | 7 => ("MailHeads", "lastType", "LMailHeads$ContentType;", true)
  | _ => ("MailHeads", "nothing", "LMailHeads$Texts;", true)
def cT_Mail : Nat → FieldType := fun k => match k with
  | 0 => .array (.int)
  | 1 => .object "MailHeads$Row"
  | 2 => .object "MailHeads$Head"
  | 3 => .object "MailHeads$Words"
  | 4 => .object "MailHeads$Addresses"
  | 5 => .object "MailHeads$Identities"
  | 6 => .object "MailHeads$DateReader"
  | 7 => .object "MailHeads$ContentType"
  | _ => .object "MailHeads$Texts"
theorem cN_Mail : ∀ a, a < 9 → ∀ b, b < 9 → a ≠ b → (cF_Mail a).2.1 ≠ (cF_Mail b).2.1 := by decide +kernel
theorem cP_Mail : ∀ k, k < 9 → parseFieldDescriptor (cF_Mail k).2.2.1 = some (cT_Mail k) := by decide +kernel
def cR_Row : String := "MailHeads$Row"
def cF_Row : u_T := fun k => match k with
  | 0 => ("MailHeads$Row", "cells", "[I", false)
  | _ => ("MailHeads$Row", "count", "I", false)
def cT_Row : Nat → FieldType := fun k => match k with
  | 0 => .array (.int)
  | _ => .int
theorem cN_Row : ∀ a, a < 2 → ∀ b, b < 2 → a ≠ b → (cF_Row a).2.1 ≠ (cF_Row b).2.1 := by decide +kernel
theorem cP_Row : ∀ k, k < 2 → parseFieldDescriptor (cF_Row k).2.2.1 = some (cT_Row k) := by decide +kernel
def cR_Head : String := "MailHeads$Head"
def cF_Head : u_T := fun k => match k with
  | 0 => ("MailHeads$Head", "texts", "LMailHeads$Texts;", true)
  | 1 => ("MailHeads$Head", "badLines", "I", false)
  | _ => ("MailHeads$Head", "valueOpen", "Z", false)
def cT_Head : Nat → FieldType := fun k => match k with
  | 0 => .object "MailHeads$Texts"
  | 1 => .int
  | _ => .boolean
theorem cN_Head : ∀ a, a < 3 → ∀ b, b < 3 → a ≠ b → (cF_Head a).2.1 ≠ (cF_Head b).2.1 := by decide +kernel
theorem cP_Head : ∀ k, k < 3 → parseFieldDescriptor (cF_Head k).2.2.1 = some (cT_Head k) := by decide +kernel
def cR_Texts : String := "MailHeads$Texts"
def cF_Texts : u_T := fun k => match k with
  | 0 => ("MailHeads$Texts", "bytes", "LMailHeads$Row;", true)
  | _ => ("MailHeads$Texts", "bounds", "LMailHeads$Row;", true)
def cT_Texts : Nat → FieldType := fun k => match k with
  | 0 => .object "MailHeads$Row"
  | _ => .object "MailHeads$Row"
theorem cN_Texts : ∀ a, a < 2 → ∀ b, b < 2 → a ≠ b → (cF_Texts a).2.1 ≠ (cF_Texts b).2.1 := by decide +kernel
theorem cP_Texts : ∀ k, k < 2 → parseFieldDescriptor (cF_Texts k).2.2.1 = some (cT_Texts k) := by decide +kernel
def cR_Words : String := "MailHeads$Words"
def cF_Words : u_T := fun k => match k with
  | 0 => ("MailHeads$Words", "texts", "LMailHeads$Texts;", true)
  | 1 => ("MailHeads$Words", "kinds", "LMailHeads$Row;", true)
  | 2 => ("MailHeads$Words", "source", "LMailHeads$Texts;", false)
  | 3 => ("MailHeads$Words", "value", "I", false)
  | _ => ("MailHeads$Words", "signs", "Ljava/lang/String;", false)
def cT_Words : Nat → FieldType := fun k => match k with
  | 0 => .object "MailHeads$Texts"
  | 1 => .object "MailHeads$Row"
  | 2 => .object "MailHeads$Texts"
  | 3 => .int
  | _ => .object "java/lang/String"
theorem cN_Words : ∀ a, a < 5 → ∀ b, b < 5 → a ≠ b → (cF_Words a).2.1 ≠ (cF_Words b).2.1 := by decide +kernel
theorem cP_Words : ∀ k, k < 5 → parseFieldDescriptor (cF_Words k).2.2.1 = some (cT_Words k) := by decide +kernel
def cR_Addresses : String := "MailHeads$Addresses"
def cF_Addresses : u_T := fun k => match k with
  | 0 => ("MailHeads$Addresses", "words", "LMailHeads$Words;", true)
  | 1 => ("MailHeads$Addresses", "texts", "LMailHeads$Texts;", true)
  | 2 => ("MailHeads$Addresses", "groups", "LMailHeads$Row;", true)
  | 3 => ("MailHeads$Addresses", "groupNames", "LMailHeads$Texts;", true)
  | 4 => ("MailHeads$Addresses", "gathered", "LMailHeads$Row;", true)
  | 5 => ("MailHeads$Addresses", "badOnes", "I", false)
  | 6 => ("MailHeads$Addresses", "groupNow", "I", false)
  | _ => ("MailHeads$Addresses", "comment", "I", false)
def cT_Addresses : Nat → FieldType := fun k => match k with
  | 0 => .object "MailHeads$Words"
  | 1 => .object "MailHeads$Texts"
  | 2 => .object "MailHeads$Row"
  | 3 => .object "MailHeads$Texts"
  | 4 => .object "MailHeads$Row"
  | 5 => .int
  | 6 => .int
  | _ => .int
theorem cN_Addresses : ∀ a, a < 8 → ∀ b, b < 8 → a ≠ b → (cF_Addresses a).2.1 ≠ (cF_Addresses b).2.1 := by decide +kernel
theorem cP_Addresses : ∀ k, k < 8 → parseFieldDescriptor (cF_Addresses k).2.2.1 = some (cT_Addresses k) := by decide +kernel
def cR_Identities : String := "MailHeads$Identities"
def cF_Identities : u_T := fun k => match k with
  | _ => ("MailHeads$Identities", "texts", "LMailHeads$Texts;", true)
def cT_Identities : Nat → FieldType := fun k => match k with
  | _ => .object "MailHeads$Texts"
theorem cN_Identities : ∀ a, a < 1 → ∀ b, b < 1 → a ≠ b → (cF_Identities a).2.1 ≠ (cF_Identities b).2.1 := by decide +kernel
theorem cP_Identities : ∀ k, k < 1 → parseFieldDescriptor (cF_Identities k).2.2.1 = some (cT_Identities k) := by decide +kernel
def cR_DateReader : String := "MailHeads$DateReader"
def cF_DateReader : u_T := fun k => match k with
  | 0 => ("MailHeads$DateReader", "words", "LMailHeads$Words;", true)
  | _ => ("MailHeads$DateReader", "place", "I", false)
def cT_DateReader : Nat → FieldType := fun k => match k with
  | 0 => .object "MailHeads$Words"
  | _ => .int
theorem cN_DateReader : ∀ a, a < 2 → ∀ b, b < 2 → a ≠ b → (cF_DateReader a).2.1 ≠ (cF_DateReader b).2.1 := by decide +kernel
theorem cP_DateReader : ∀ k, k < 2 → parseFieldDescriptor (cF_DateReader k).2.2.1 = some (cT_DateReader k) := by decide +kernel
def cR_ContentType : String := "MailHeads$ContentType"
def cF_ContentType : u_T := fun k => match k with
  | 0 => ("MailHeads$ContentType", "words", "LMailHeads$Words;", true)
  | 1 => ("MailHeads$ContentType", "parts", "LMailHeads$Texts;", true)
  | 2 => ("MailHeads$ContentType", "names", "LMailHeads$Texts;", true)
  | 3 => ("MailHeads$ContentType", "values", "LMailHeads$Texts;", true)
  | 4 => ("MailHeads$ContentType", "pieces", "LMailHeads$Row;", true)
  | 5 => ("MailHeads$ContentType", "codes", "LMailHeads$Row;", true)
  | _ => ("MailHeads$ContentType", "hand", "LMailHeads$Texts;", true)
def cT_ContentType : Nat → FieldType := fun k => match k with
  | 0 => .object "MailHeads$Words"
  | 1 => .object "MailHeads$Texts"
  | 2 => .object "MailHeads$Texts"
  | 3 => .object "MailHeads$Texts"
  | 4 => .object "MailHeads$Row"
  | 5 => .object "MailHeads$Row"
  | _ => .object "MailHeads$Texts"
theorem cN_ContentType : ∀ a, a < 7 → ∀ b, b < 7 → a ≠ b → (cF_ContentType a).2.1 ≠ (cF_ContentType b).2.1 := by decide +kernel
theorem cP_ContentType : ∀ k, k < 7 → parseFieldDescriptor (cF_ContentType k).2.2.1 = some (cT_ContentType k) := by decide +kernel
def cR_Model : String := "MailHeadsModel"
def cF_Model : u_T := fun k => match k with
  | 0 => ("MailHeadsModel", "thrown", "I", false)
  | 1 => ("MailHeadsModel", "ready", "[I", true)
  | 2 => ("MailHeadsModel", "tape", "[I", true)
  | 3 => ("MailHeadsModel", "tapeLong", "I", false)
  | 4 => ("MailHeadsModel", "fields", "I", false)
  | 5 => ("MailHeadsModel", "bad", "I", false)
  | 6 => ("MailHeadsModel", "nameAt", "[I", true)
  | 7 => ("MailHeadsModel", "nameLong", "[I", true)
  | 8 => ("MailHeadsModel", "valueAt", "[I", true)
  | 9 => ("MailHeadsModel", "valueLong", "[I", true)
  | 10 => ("MailHeadsModel", "kept", "[I", true)
  | 11 => ("MailHeadsModel", "keptLong", "I", false)
  | 12 => ("MailHeadsModel", "words", "I", false)
  | 13 => ("MailHeadsModel", "kind", "[I", true)
  | 14 => ("MailHeadsModel", "sign", "[I", true)
  | 15 => ("MailHeadsModel", "from", "[I", true)
  | 16 => ("MailHeadsModel", "to", "[I", true)
  | 17 => ("MailHeadsModel", "bytes", "[I", true)
  | 18 => ("MailHeadsModel", "bytesLong", "I", false)
  | 19 => ("MailHeadsModel", "made", "[I", true)
  | 20 => ("MailHeadsModel", "madeLong", "[I", true)
  | 21 => ("MailHeadsModel", "many", "[I", true)
  | 22 => ("MailHeadsModel", "partAt", "[I", true)
  | 23 => ("MailHeadsModel", "partLong", "[I", true)
  | 24 => ("MailHeadsModel", "groups", "I", false)
  | 25 => ("MailHeadsModel", "badOnes", "I", false)
  | 26 => ("MailHeadsModel", "groupOf", "[I", true)
  | 27 => ("MailHeadsModel", "parameters", "I", false)
  | 28 => ("MailHeadsModel", "parameterFrom", "[I", true)
  | 29 => ("MailHeadsModel", "parameterTo", "[I", true)
  | 30 => ("MailHeadsModel", "piece", "[I", true)
  | 31 => ("MailHeadsModel", "coded", "[Z", true)
  | 32 => ("MailHeadsModel", "valueFrom", "[I", true)
  | 33 => ("MailHeadsModel", "valueTo", "[I", true)
  | 34 => ("MailHeadsModel", "typeBytes", "[I", true)
  | 35 => ("MailHeadsModel", "hand", "[I", true)
  | 36 => ("MailHeadsModel", "charset", "[I", true)
  | 37 => ("MailHeadsModel", "handLong", "I", false)
  | 38 => ("MailHeadsModel", "charsetLong", "I", false)
  | 39 => ("MailHeadsModel", "p", "I", false)
  | 40 => ("MailHeadsModel", "valueEnd", "I", false)
  | 41 => ("MailHeadsModel", "ofType", "Z", false)
  | 42 => ("MailHeadsModel", "localEnd", "I", false)
  | 43 => ("MailHeadsModel", "domainFrom", "I", false)
  | _ => ("MailHeadsModel", "w", "I", false)
def cT_Model : Nat → FieldType := fun k => match k with
  | 0 => .int
  | 1 => .array (.int)
  | 2 => .array (.int)
  | 3 => .int
  | 4 => .int
  | 5 => .int
  | 6 => .array (.int)
  | 7 => .array (.int)
  | 8 => .array (.int)
  | 9 => .array (.int)
  | 10 => .array (.int)
  | 11 => .int
  | 12 => .int
  | 13 => .array (.int)
  | 14 => .array (.int)
  | 15 => .array (.int)
  | 16 => .array (.int)
  | 17 => .array (.int)
  | 18 => .int
  | 19 => .array (.int)
  | 20 => .array (.int)
  | 21 => .array (.int)
  | 22 => .array (.int)
  | 23 => .array (.int)
  | 24 => .int
  | 25 => .int
  | 26 => .array (.int)
  | 27 => .int
  | 28 => .array (.int)
  | 29 => .array (.int)
  | 30 => .array (.int)
  | 31 => .array (.boolean)
  | 32 => .array (.int)
  | 33 => .array (.int)
  | 34 => .array (.int)
  | 35 => .array (.int)
  | 36 => .array (.int)
  | 37 => .int
  | 38 => .int
  | 39 => .int
  | 40 => .int
  | 41 => .boolean
  | 42 => .int
  | 43 => .int
  | _ => .int
theorem cN_Model : ∀ a, a < 45 → ∀ b, b < 45 → a ≠ b → (cF_Model a).2.1 ≠ (cF_Model b).2.1 := by decide +kernel
theorem cP_Model : ∀ k, k < 45 → parseFieldDescriptor (cF_Model k).2.2.1 = some (cT_Model k) := by decide +kernel
/-- the classes whose objects the worlds hold, by number -/
abbrev vwCl : List vw_C := [(cR_Mail, cF_Mail, 9), (cR_Row, cF_Row, 2), (cR_Head, cF_Head, 3), (cR_Texts, cF_Texts, 2), (cR_Words, cF_Words, 5), (cR_Addresses, cF_Addresses, 8), (cR_Identities, cF_Identities, 1), (cR_DateReader, cF_DateReader, 2), (cR_ContentType, cF_ContentType, 7), (cR_Model, cF_Model, 45)]
end
section
/-! THE MODEL HEAP: how many cells the machine's heap has, how many slots were made so far (a ghost), and what the cells hold that are ours. -/
abbrev hp_T : Type := Nat × Nat × (Nat → Option va_E)
def hp_up (h : hp_T) (a : Nat) (e : va_E) : hp_T := (h.1, h.2.1, fun q => if q = a then some e else h.2.2 q)
def hp_add (h : hp_T) (n : Nat) (e : va_E) : hp_T := (h.1 + 1, h.2.1 + n, fun q => if q = h.1 then some e else h.2.2 q)
theorem hp_up_self (h : hp_T) (a : Nat) (e : va_E) : (hp_up h a e).2.2 a = some e := if_pos rfl
theorem hp_up_ne {h : hp_T} {a q : Nat} {e : va_E} (n : q ≠ a) : (hp_up h a e).2.2 q = h.2.2 q := if_neg n
theorem hp_add_self (h : hp_T) (n : Nat) (e : va_E) : (hp_add h n e).2.2 h.1 = some e := if_pos rfl
theorem hp_add_ne {h : hp_T} {n q : Nat} {e : va_E} (z : q ≠ h.1) : (hp_add h n e).2.2 q = h.2.2 q := if_neg z
/-- the globals: the launch, where our cells begin, classes and slots by number, array classes, what is below -/
abbrev gl_G : Type := Launch × Nat × va_G × List (ClassId × FieldType) × (State → Prop)
abbrev gl_l (G : gl_G) : Launch := G.1
abbrev gl_b (G : gl_G) : Nat := G.2.1
abbrev gl_D (G : gl_G) : va_G := G.2.2.1
abbrev gl_t (G : gl_G) : List (ClassId × FieldType) := G.2.2.2.1
abbrev gl_L (G : gl_G) : State → Prop := G.2.2.2.2
abbrev gl_A (G : gl_G) : Nat → Prop := fun q => gl_b G ≤ q
def gl_ok (G : gl_G) : Prop := ∀ U V : State, U.WarmedH V.vm → (∀ q : Nat, q < U.heap.size → ¬ gl_b G ≤ q → V.heap[q]? = U.heap[q]?) → gl_L G U → gl_L G V
/-- a method: its name, bytes, locals, answer, words; frames and words of the stack that it nests -/
abbrev mt_M : Type := MethodName × ByteArray × Nat × Option FieldType × List Cond × Nat × Nat
abbrev mt_y (μ : mt_M) : MethodName := μ.1
abbrev mt_b (μ : mt_M) : ByteArray := μ.2.1
abbrev mt_n (μ : mt_M) : Nat := μ.2.2.1
abbrev mt_r (μ : mt_M) : Option FieldType := μ.2.2.2.1
abbrev mt_w (μ : mt_M) : List Cond := μ.2.2.2.2.1
abbrev mt_f (μ : mt_M) : Nat := μ.2.2.2.2.2.1
abbrev mt_l (μ : mt_M) : Nat := μ.2.2.2.2.2.2
/-- the machine's heap holds the model's cells -/
def hp_ok (G : gl_G) (h : hp_T) (H : Heap) : Prop := H.size = h.1 ∧ ∀ (a : Nat) (e : va_E), h.2.2 a = some e → va_at (gl_D G) vwCl (a, e) H ∧ gl_b G ≤ a
theorem hp_ok.one {G : gl_G} {h : hp_T} {H : Heap} (k : hp_ok G h H) {a : Nat} {e : va_E} (he : h.2.2 a = some e) : va_P (gl_D G) vwCl [(a, e)] H := by
  intro i q hq
  cases i with
  | zero => cases hq; exact (k.2 a e he).1
  | succ i => simp at hq
theorem hp_ok.lt {G : gl_G} {h : hp_T} {H : Heap} (k : hp_ok G h H) {a : Nat} {e : va_E} (he : h.2.2 a = some e) : a < h.1 := by
  rw [← k.1]; exact (k.2 a e he).1.lt
theorem hp_ok.set {G : gl_G} {h : hp_T} {H H1 : Heap} (k : hp_ok G h H) {a : Nat} {e : va_E} (ha : gl_b G ≤ a) (h1 : va_at (gl_D G) vwCl (a, e) H1) (z : H1.size = H.size) (o : ∀ q : Nat, q ≠ a → H1[q]? = H[q]?) : hp_ok G (hp_up h a e) H1 := by
  refine ⟨z.trans k.1, fun q x hx => ?_⟩
  by_cases hq : q = a
  · subst hq
    rw [hp_up_self] at hx
    cases hx
    exact ⟨h1, ha⟩
  · rw [hp_up_ne hq] at hx
    exact ⟨(k.2 q x hx).1.kept (o q hq), (k.2 q x hx).2⟩
theorem hp_ok.push {G : gl_G} {h : hp_T} {H H1 : Heap} (k : hp_ok G h H) {n : Nat} {e : va_E} (hb : gl_b G ≤ h.1) (h1 : va_at (gl_D G) vwCl (h.1, e) H1) (z : H1.size = H.size + 1) (o : ∀ q : Nat, q < H.size → H1[q]? = H[q]?) : hp_ok G (hp_add h n e) H1 := by
  refine ⟨by rw [z, k.1]; rfl, fun q x hx => ?_⟩
  by_cases hq : q = h.1
  · subst hq
    rw [hp_add_self] at hx
    cases hx
    exact ⟨h1, hb⟩
  · rw [hp_add_ne hq] at hx
    exact ⟨(k.2 q x hx).1.kept (o q (k.2 q x hx).1.lt), (k.2 q x hx).2⟩
/-- what a walk of the method μ has at hand -/
def cx_ok (G : gl_G) (μ : mt_M) (p : Program) (R : Room) (s : State) (m : MethodId) (args : Array Value) (meth : Method) (c : Code) : Prop :=
  p.tables.exec = Jvm.exec ∧ c.code = mt_b μ ∧ c.maxLocals = mt_n μ ∧ meth.sig.returnType = mt_r μ ∧ s.vm.findClass (mt_y μ).cls = some m.cls ∧ (∀ w ∈ mt_w μ, w.before args s = true) ∧ meth.locks = false ∧ meth.name = (mt_y μ).name ∧
  va_K (gl_D G) vwCl (gl_t G) s ∧ gl_L G s ∧ gl_b G ≤ s.heap.size ∧ R.frames = mt_f μ ∧ R.locals = mt_l μ ∧ gl_ok G
/-- the end of a method: the answer o, the cells h' -/
def ct_Q (G : gl_G) (o : Option Value) (h' : hp_T) : Array Value → State → Outcome → State → Prop := fun _ st oc t => oc = .returned o ∧ hp_ok G h' t.heap ∧ va_F (gl_A G) st t
def ct_P (G : gl_G) (av : List Value) (h : hp_T) : Array Value → State → Prop := va_Pc av (fun U => hp_ok G h U.heap ∧ gl_b G ≤ U.heap.size ∧ va_K (gl_D G) vwCl (gl_t G) U ∧ gl_L G U)
def ct_R (μ : mt_M) (mc ms : Nat) : Room := { frames := mt_f μ, cells := mc, slots := ms, locals := mt_l μ }
/-- THE CONTRACT: called with av over the cells h, the method answers o and leaves h' -/
def ct_D (G : gl_G) (μ : mt_M) (av : List Value) (h : hp_T) (o : Option Value) (h' : hp_T) : Prop :=
  h.1 ≤ h'.1 ∧ h.2.1 ≤ h'.2.1 ∧ (gl_ok G → Met (gl_l G) (mt_y μ) (mt_w μ) (ct_R μ (h'.1 - h.1) (h'.2.1 - h.2.1)) (ct_P G av h) (ct_Q G o h') (h'.1 - h.1) (h'.2.1 - h.2.1) (gl_A G))
def ct_E (G : gl_G) (μ : mt_M) (av : List Value) (h : hp_T) (Z : Option Value → hp_T → Prop) : Prop := ∃ o h', Z o h' ∧ ct_D G μ av h o h'
/-- FROM HERE: at pc with the locals lv, the operands st, the cells h: the method answers o and leaves h' -/
def ev_D (G : gl_G) (μ : mt_M) (pc : Nat) (lv : List (Nat × Value)) (st : List Value) (h : hp_T) (o : Option Value) (h' : hp_T) : Prop :=
  h.1 ≤ h'.1 ∧ h.2.1 ≤ h'.2.1 ∧ ∀ (p : Program) (e : Env) (R : Room) (s : State) (m : MethodId) (args : Array Value) (below : List Frame) (meth : Method) (c : Code), cx_ok G μ p R s m args meth c →
    ∀ (H : Heap) (locs : List Loc) (cells slots : Nat) (ls : Array Slot), hp_ok G h H → va_S (gl_A G) s.heap H locs → lv_has ls (mt_n μ) lv → cells + (h'.1 - h.1) ≤ R.cells → slots + (h'.2.1 - h.2.1) ≤ R.slots →
      W p (gl_l G) e R s m args below meth c H locs cells slots (MQ below (ct_Q G o h') args s R.cells R.slots (gl_A G)) (F0 m pc ls st)
def ev_E (G : gl_G) (μ : mt_M) (pc : Nat) (lv : List (Nat × Value)) (st : List Value) (h : hp_T) (Z : Option Value → hp_T → Prop) : Prop := ∃ o h', Z o h' ∧ ev_D G μ pc lv st h o h'
theorem ev_to {G : gl_G} {μ : mt_M} {pc : Nat} {lv : List (Nat × Value)} {st : List Value} {h : hp_T} {Z Z' : Option Value → hp_T → Prop} (k : ev_E G μ pc lv st h Z) (hz : ∀ o h', Z o h' → Z' o h') : ev_E G μ pc lv st h Z' := by
  obtain ⟨o, h', a, b⟩ := k
  exact ⟨o, h', hz o h' a, b⟩
theorem ct_to {G : gl_G} {μ : mt_M} {av : List Value} {h : hp_T} {Z Z' : Option Value → hp_T → Prop} (k : ct_E G μ av h Z) (hz : ∀ o h', Z o h' → Z' o h') : ct_E G μ av h Z' := by
  obtain ⟨o, h', a, b⟩ := k
  exact ⟨o, h', hz o h' a, b⟩
/-- a method's contract out of its walk -/
theorem ct_of {G : gl_G} {μ : mt_M} {av : List Value} {h : hp_T} {Z : Option Value → hp_T → Prop} {ws' : List Cond} (hy : plainName (mt_y μ).cls = true) (hw : mt_w μ = Cond.code (mt_y μ) (mt_b μ) (mt_n μ) (mt_r μ) :: ws') (hn : (lg_sl av).length ≤ mt_n μ) (k : ev_E G μ 0 (lv_args 0 av) [] h Z) : ct_E G μ av h Z := by
  obtain ⟨o, h', hz, h1, h2, k⟩ := k
  refine ⟨o, h', hz, h1, h2, fun hG => ?_⟩
  refine Met.ofW (cc := mt_b μ) (maxL := mt_n μ) (ret := mt_r μ) hy hw ?_
  intro p e s m args below meth c s₁ B hml hv
  obtain ⟨rfl, hO, hbs, hK, hL⟩ := hv
  have hts := atoms_spec (ws := mt_w μ) B.pre
  have hown : s.vm.findClass (mt_y μ).cls = some m.cls := findClass_of_methodNamed B.named
  have hl := lv_entry av (n := mt_n μ) hn
  rw [lg_entry_eq]
  refine k p e (ct_R μ (h'.1 - h.1) (h'.2.1 - h.2.1)) s m _ below meth c ⟨B.exec, B.bytes, hml, B.returns, hown, hts, B.notSynchronized, (name_of_methodNamed B.named B.method).1, hK, hL, hbs, rfl, rfl, hG⟩ s.heap [] 0 0 _ hO va_S.rf hl ?_ ?_
  · exact Nat.le_of_eq (Nat.zero_add _)
  · exact Nat.le_of_eq (Nat.zero_add _)
/-- a step that leaves the cells -/
theorem ev_pure {G : gl_G} {μ : mt_M} {pc pc2 : Nat} {lv lv2 : List (Nat × Value)} {st st2 : List Value} {h : hp_T} {Z : Option Value → hp_T → Prop}
    (hs : ∀ (p : Program) (e : Env) (R : Room) (s : State) (m : MethodId) (args : Array Value) (below : List Frame) (meth : Method) (c : Code), cx_ok G μ p R s m args meth c → ∀ (H : Heap) (locs : List Loc) (cells slots : Nat) (Q : State → Prop) (ls : Array Slot), hp_ok G h H → va_S (gl_A G) s.heap H locs → lv_has ls (mt_n μ) lv →
      (∀ ls2 : Array Slot, lv_has ls2 (mt_n μ) lv2 → W p (gl_l G) e R s m args below meth c H locs cells slots Q (F0 m pc2 ls2 st2)) → W p (gl_l G) e R s m args below meth c H locs cells slots Q (F0 m pc ls st))
    (k : ev_E G μ pc2 lv2 st2 h Z) : ev_E G μ pc lv st h Z := by
  obtain ⟨o, h', hZ, h1, h2, k⟩ := k
  exact ⟨o, h', hZ, h1, h2, fun p e R s m args below meth c C H locs cells slots ls hO hS hl hc hq => hs p e R s m args below meth c C H locs cells slots _ ls hO hS hl (fun ls2 hl2 => k p e R s m args below meth c C H locs cells slots ls2 hO hS hl2 hc hq)⟩
end
section
/-! locals by their numbers -/
def lq_at : List (Nat × Value) → Nat → Option Value
  | [], _ => none
  | (j, v) :: l, i => bif Nat.beq j i then some v else lq_at l i
theorem lq_mem {i : Nat} {v : Value} : ∀ {lv : List (Nat × Value)}, lq_at lv i = some v → (i, v) ∈ lv
  | [], h => by cases h
  | (j, w) :: l, h => by
    unfold lq_at at h
    cases hb : Nat.beq j i with
    | true =>
      rw [hb] at h
      have hji : j = i := Nat.eq_of_beq_eq_true hb
      subst hji
      cases h
      exact List.mem_cons_self
    | false =>
      rw [hb] at h
      exact List.mem_cons_of_mem _ (lq_mem h)
theorem lq_has {ls : Array Slot} {n i : Nat} {lv : List (Nat × Value)} {v : Value} (hl : lv_has ls n lv) (h : lq_at lv i = some v) : ls[i]? = some (.val v) := hl.2.2 (i, v) (lq_mem h)
def lq_out (i : Nat) : Nat × Value → Bool := fun q => !(q.1 == i) && !(q.1 + 1 == i && q.2.category == 2)
def lq_out2 (i : Nat) : Nat × Value → Bool := fun q => !(q.1 == i) && (!(q.1 == i + 1) && !(q.1 + 1 == i && q.2.category == 2))
/-- store in place, at the end where it is new -/
def lq_put : List (Nat × Value) → Nat → Value → List (Nat × Value)
  | [], i, v => [(i, v)]
  | q :: l, i, v => bif Nat.beq q.1 i then (i, v) :: l.filter (lq_out i) else bif lq_out i q then q :: lq_put l i v else lq_put l i v
def lq_put2 (lv : List (Nat × Value)) (i : Nat) (v : Value) : List (Nat × Value) := lv.filter (lq_out2 i) ++ [(i, v)]
theorem lq_put_mem {i : Nat} {v : Value} {x : Nat × Value} : ∀ {lv : List (Nat × Value)}, x ∈ lq_put lv i v → x ∈ (i, v) :: lv.filter (lq_out i)
  | [], h => by
    rw [lq_put] at h
    exact h
  | q :: l, h => by
    rw [lq_put] at h
    cases hb : Nat.beq q.1 i with
    | true =>
      rw [hb] at h
      rcases List.mem_cons.mp h with e | e
      · rw [e]; exact List.mem_cons_self
      · refine List.mem_cons_of_mem _ ?_
        obtain ⟨h1, h2⟩ := List.mem_filter.mp e
        exact List.mem_filter.mpr ⟨List.mem_cons_of_mem _ h1, h2⟩
    | false =>
      rw [hb] at h
      have sub : x ∈ lq_put l i v → x ∈ (i, v) :: (q :: l).filter (lq_out i) := fun z => by
        rcases List.mem_cons.mp (lq_put_mem z) with e | e
        · rw [e]; exact List.mem_cons_self
        · refine List.mem_cons_of_mem _ ?_
          obtain ⟨h1, h2⟩ := List.mem_filter.mp e
          exact List.mem_filter.mpr ⟨List.mem_cons_of_mem _ h1, h2⟩
      cases hc : lq_out i q with
      | true =>
        rw [hc] at h
        rcases List.mem_cons.mp h with e | e
        · rw [e]; exact List.mem_cons_of_mem _ (List.mem_filter.mpr ⟨List.mem_cons_self, hc⟩)
        · exact sub e
      | false =>
        rw [hc] at h
        exact sub h
theorem lq_put_has {ls : Array Slot} {n i : Nat} {lv : List (Nat × Value)} {v : Value} (hl : lv_has ls n ((i, v) :: lv.filter (fun q => !(q.1 == i) && !(q.1 + 1 == i && q.2.category == 2)))) : lv_has ls n (lq_put lv i v) :=
  ⟨hl.1, hl.2.1, fun q hq => hl.2.2 q (lq_put_mem hq)⟩
theorem lq_put2_has {ls : Array Slot} {n i : Nat} {lv : List (Nat × Value)} {v : Value} (hl : lv_has ls n ((i, v) :: lv.filter (fun q => !(q.1 == i) && (!(q.1 == i + 1) && !(q.1 + 1 == i && q.2.category == 2))))) : lv_has ls n (lq_put2 lv i v) :=
  ⟨hl.1, hl.2.1, fun q hq => hl.2.2 q (by
    rcases List.mem_append.mp hq with e | e
    · exact List.mem_cons_of_mem _ e
    · rw [List.mem_singleton.mp e]; exact List.mem_cons_self)⟩
/-- fewer locals, in any order -/
theorem ev_lv {G : gl_G} {μ : mt_M} {pc : Nat} {lv lv2 : List (Nat × Value)} {st : List Value} {h : hp_T} {Z : Option Value → hp_T → Prop} (hs : ∀ q ∈ lv2, lq_at lv q.1 = some q.2) (k : ev_E G μ pc lv2 st h Z) : ev_E G μ pc lv st h Z :=
  ev_pure (fun _ _ _ _ _ _ _ _ _ _ _ _ _ _ _ ls _ _ hl k => k ls ⟨hl.1, hl.2.1, fun q hq => hl.2.2 q (lq_mem (hs q hq))⟩) k
theorem ev_iconst {G : gl_G} {μ : mt_M} {pc : Nat} {lv : List (Nat × Value)} {st : List Value} {h : hp_T} {Z : Option Value → hp_T → Prop} {n : Int} {v : Int32} (hd : decode (mt_b μ) pc = .ok (.iconst n, 1)) (hv : Int32.ofInt n = v) (k : ev_E G μ (pc + 1) lv (.int v :: st) h Z) : ev_E G μ pc lv (st) h Z :=
  ev_pure (fun _ _ _ _ _ _ _ _ _ C _ _ _ _ _ ls _ _ hl k => lv_iconst C.1 C.2.1 hd hv (k ls hl)) k
theorem ev_bipush {G : gl_G} {μ : mt_M} {pc : Nat} {lv : List (Nat × Value)} {st : List Value} {h : hp_T} {Z : Option Value → hp_T → Prop} {n : Int} {v : Int32} (hd : decode (mt_b μ) pc = .ok (.bipush n, 2)) (hv : (Int8.ofInt n).toInt32 = v) (k : ev_E G μ (pc + 2) lv (.int v :: st) h Z) : ev_E G μ pc lv (st) h Z :=
  ev_pure (fun _ _ _ _ _ _ _ _ _ C _ _ _ _ _ ls _ _ hl k => lv_bipush C.1 C.2.1 hd hv (k ls hl)) k
theorem ev_sipush {G : gl_G} {μ : mt_M} {pc : Nat} {lv : List (Nat × Value)} {st : List Value} {h : hp_T} {Z : Option Value → hp_T → Prop} {n : Int} {v : Int32} (hd : decode (mt_b μ) pc = .ok (.sipush n, 3)) (hv : (Int16.ofInt n).toInt32 = v) (k : ev_E G μ (pc + 3) lv (.int v :: st) h Z) : ev_E G μ pc lv (st) h Z :=
  ev_pure (fun _ _ _ _ _ _ _ _ _ C _ _ _ _ _ ls _ _ hl k => lv_sipush C.1 C.2.1 hd hv (k ls hl)) k
theorem ev_lconst {G : gl_G} {μ : mt_M} {pc : Nat} {lv : List (Nat × Value)} {st : List Value} {h : hp_T} {Z : Option Value → hp_T → Prop} {n : Fin 2} {v : Int64} (hd : decode (mt_b μ) pc = .ok (.lconst n, 1)) (hv : Int64.ofNat (n : Nat) = v) (k : ev_E G μ (pc + 1) lv (.long v :: st) h Z) : ev_E G μ pc lv (st) h Z :=
  ev_pure (fun _ _ _ _ _ _ _ _ _ C _ _ _ _ _ ls _ _ hl k => lv_lconst C.1 C.2.1 hd hv (k ls hl)) k
theorem ev_iload_n {G : gl_G} {μ : mt_M} {pc : Nat} {lv : List (Nat × Value)} {st : List Value} {h : hp_T} {Z : Option Value → hp_T → Prop} {n : Fin 4} {i : Nat} {x : Int32} (hd : decode (mt_b μ) pc = .ok (.iload_n n, 1)) (hi : (n : Nat) = i) (hq : lq_at lv i = some (.int x)) (k : ev_E G μ (pc + 1) lv (.int x :: st) h Z) : ev_E G μ pc lv (st) h Z :=
  ev_pure (fun _ _ _ _ _ _ _ _ _ C _ _ _ _ _ ls _ _ hl k => lv_iload_n C.1 C.2.1 hd hi (lq_has hl hq) (k ls hl)) k
theorem ev_iload {G : gl_G} {μ : mt_M} {pc : Nat} {lv : List (Nat × Value)} {st : List Value} {h : hp_T} {Z : Option Value → hp_T → Prop} {i : Nat} {x : Int32} (hd : decode (mt_b μ) pc = .ok (.iload i, 2)) (hq : lq_at lv i = some (.int x)) (k : ev_E G μ (pc + 2) lv (.int x :: st) h Z) : ev_E G μ pc lv (st) h Z :=
  ev_pure (fun _ _ _ _ _ _ _ _ _ C _ _ _ _ _ ls _ _ hl k => lv_iload C.1 C.2.1 hd (lq_has hl hq) (k ls hl)) k
theorem ev_lload_n {G : gl_G} {μ : mt_M} {pc : Nat} {lv : List (Nat × Value)} {st : List Value} {h : hp_T} {Z : Option Value → hp_T → Prop} {n : Fin 4} {i : Nat} {x : Int64} (hd : decode (mt_b μ) pc = .ok (.lload_n n, 1)) (hi : (n : Nat) = i) (hq : lq_at lv i = some (.long x)) (k : ev_E G μ (pc + 1) lv (.long x :: st) h Z) : ev_E G μ pc lv (st) h Z :=
  ev_pure (fun _ _ _ _ _ _ _ _ _ C _ _ _ _ _ ls _ _ hl k => lv_lload_n C.1 C.2.1 hd hi (lq_has hl hq) (k ls hl)) k
theorem ev_lload {G : gl_G} {μ : mt_M} {pc : Nat} {lv : List (Nat × Value)} {st : List Value} {h : hp_T} {Z : Option Value → hp_T → Prop} {i : Nat} {x : Int64} (hd : decode (mt_b μ) pc = .ok (.lload i, 2)) (hq : lq_at lv i = some (.long x)) (k : ev_E G μ (pc + 2) lv (.long x :: st) h Z) : ev_E G μ pc lv (st) h Z :=
  ev_pure (fun _ _ _ _ _ _ _ _ _ C _ _ _ _ _ ls _ _ hl k => lv_lload C.1 C.2.1 hd (lq_has hl hq) (k ls hl)) k
theorem ev_aload_n {G : gl_G} {μ : mt_M} {pc : Nat} {lv : List (Nat × Value)} {st : List Value} {h : hp_T} {Z : Option Value → hp_T → Prop} {n : Fin 4} {i : Nat} {x : Nat} (hd : decode (mt_b μ) pc = .ok (.aload_n n, 1)) (hi : (n : Nat) = i) (hq : lq_at lv i = some (.ref x)) (k : ev_E G μ (pc + 1) lv (.ref x :: st) h Z) : ev_E G μ pc lv (st) h Z :=
  ev_pure (fun _ _ _ _ _ _ _ _ _ C _ _ _ _ _ ls _ _ hl k => lv_aload_n C.1 C.2.1 hd hi (lq_has hl hq) (k ls hl)) k
theorem ev_aload {G : gl_G} {μ : mt_M} {pc : Nat} {lv : List (Nat × Value)} {st : List Value} {h : hp_T} {Z : Option Value → hp_T → Prop} {i : Nat} {x : Nat} (hd : decode (mt_b μ) pc = .ok (.aload i, 2)) (hq : lq_at lv i = some (.ref x)) (k : ev_E G μ (pc + 2) lv (.ref x :: st) h Z) : ev_E G μ pc lv (st) h Z :=
  ev_pure (fun _ _ _ _ _ _ _ _ _ C _ _ _ _ _ ls _ _ hl k => lv_aload C.1 C.2.1 hd (lq_has hl hq) (k ls hl)) k
theorem ev_istore_n {G : gl_G} {μ : mt_M} {pc : Nat} {lv : List (Nat × Value)} {st : List Value} {h : hp_T} {Z : Option Value → hp_T → Prop} {n : Fin 4} {i : Nat} {x : Int32} (hd : decode (mt_b μ) pc = .ok (.istore_n n, 1)) (hi : (n : Nat) = i) (hn : i < mt_n μ) (k : ev_E G μ (pc + 1) (lq_put lv i (.int x)) st h Z) : ev_E G μ pc lv (.int x :: st) h Z :=
  ev_pure (fun _ _ _ _ _ _ _ _ _ C _ _ _ _ _ ls _ _ hl k => lv_istore_n C.1 C.2.1 hd hi hl hn rfl (fun ls' hl' => k ls' (lq_put_has hl'))) k
theorem ev_istore {G : gl_G} {μ : mt_M} {pc : Nat} {lv : List (Nat × Value)} {st : List Value} {h : hp_T} {Z : Option Value → hp_T → Prop} {i : Nat} {x : Int32} (hd : decode (mt_b μ) pc = .ok (.istore i, 2)) (hn : i < mt_n μ) (k : ev_E G μ (pc + 2) (lq_put lv i (.int x)) st h Z) : ev_E G μ pc lv (.int x :: st) h Z :=
  ev_pure (fun _ _ _ _ _ _ _ _ _ C _ _ _ _ _ ls _ _ hl k => lv_istore C.1 C.2.1 hd hl hn rfl (fun ls' hl' => k ls' (lq_put_has hl'))) k
theorem ev_astore_n {G : gl_G} {μ : mt_M} {pc : Nat} {lv : List (Nat × Value)} {st : List Value} {h : hp_T} {Z : Option Value → hp_T → Prop} {n : Fin 4} {i : Nat} {x : Nat} (hd : decode (mt_b μ) pc = .ok (.astore_n n, 1)) (hi : (n : Nat) = i) (hn : i < mt_n μ) (k : ev_E G μ (pc + 1) (lq_put lv i (.ref x)) st h Z) : ev_E G μ pc lv (.ref x :: st) h Z :=
  ev_pure (fun _ _ _ _ _ _ _ _ _ C _ _ _ _ _ ls _ _ hl k => lv_astore_n C.1 C.2.1 hd hi hl hn rfl (fun ls' hl' => k ls' (lq_put_has hl'))) k
theorem ev_astore {G : gl_G} {μ : mt_M} {pc : Nat} {lv : List (Nat × Value)} {st : List Value} {h : hp_T} {Z : Option Value → hp_T → Prop} {i : Nat} {x : Nat} (hd : decode (mt_b μ) pc = .ok (.astore i, 2)) (hn : i < mt_n μ) (k : ev_E G μ (pc + 2) (lq_put lv i (.ref x)) st h Z) : ev_E G μ pc lv (.ref x :: st) h Z :=
  ev_pure (fun _ _ _ _ _ _ _ _ _ C _ _ _ _ _ ls _ _ hl k => lv_astore C.1 C.2.1 hd hl hn rfl (fun ls' hl' => k ls' (lq_put_has hl'))) k
theorem ev_lstore_n {G : gl_G} {μ : mt_M} {pc : Nat} {lv : List (Nat × Value)} {st : List Value} {h : hp_T} {Z : Option Value → hp_T → Prop} {n : Fin 4} {i : Nat} {x : Int64} (hd : decode (mt_b μ) pc = .ok (.lstore_n n, 1)) (hi : (n : Nat) = i) (hn : i + 1 < mt_n μ) (k : ev_E G μ (pc + 1) (lq_put2 lv i (.long x)) st h Z) : ev_E G μ pc lv (.long x :: st) h Z :=
  ev_pure (fun _ _ _ _ _ _ _ _ _ C _ _ _ _ _ ls _ _ hl k => lv_lstore_n C.1 C.2.1 hd hi hl hn rfl (fun ls' hl' => k ls' (lq_put2_has hl'))) k
theorem ev_lstore {G : gl_G} {μ : mt_M} {pc : Nat} {lv : List (Nat × Value)} {st : List Value} {h : hp_T} {Z : Option Value → hp_T → Prop} {i : Nat} {x : Int64} (hd : decode (mt_b μ) pc = .ok (.lstore i, 2)) (hn : i + 1 < mt_n μ) (k : ev_E G μ (pc + 2) (lq_put2 lv i (.long x)) st h Z) : ev_E G μ pc lv (.long x :: st) h Z :=
  ev_pure (fun _ _ _ _ _ _ _ _ _ C _ _ _ _ _ ls _ _ hl k => lv_lstore C.1 C.2.1 hd hl hn rfl (fun ls' hl' => k ls' (lq_put2_has hl'))) k
theorem ev_iinc {G : gl_G} {μ : mt_M} {pc : Nat} {lv : List (Nat × Value)} {st : List Value} {h : hp_T} {Z : Option Value → hp_T → Prop} {i : Nat} {n : Int} {x : Int32} (hd : decode (mt_b μ) pc = .ok (.iinc i n, 3)) (hq : lq_at lv i = some (.int x)) (hn : i < mt_n μ) (k : ev_E G μ (pc + 3) (lq_put lv i (.int (x + Int32.ofInt n))) st h Z) : ev_E G μ pc lv st h Z := by
  obtain ⟨j, hj⟩ := List.getElem?_of_mem (lq_mem hq)
  exact ev_pure (fun _ _ _ _ _ _ _ _ _ C _ _ _ _ _ ls _ _ hl k => lv_iinc C.1 C.2.1 hd hl hj rfl hn rfl (fun ls' hl' => k ls' (lq_put_has hl'))) k
theorem ev_iadd {G : gl_G} {μ : mt_M} {pc : Nat} {lv : List (Nat × Value)} {st : List Value} {h : hp_T} {Z : Option Value → hp_T → Prop} {x y : Int32} (hd : decode (mt_b μ) pc = .ok (.iadd, 1)) (k : ev_E G μ (pc + 1) lv (.int (x + y) :: st) h Z) : ev_E G μ pc lv (.int y :: .int x :: st) h Z :=
  ev_pure (fun _ _ _ _ _ _ _ _ _ C _ _ _ _ _ ls _ _ hl k => lv_iadd C.1 C.2.1 hd (k ls hl)) k
theorem ev_isub {G : gl_G} {μ : mt_M} {pc : Nat} {lv : List (Nat × Value)} {st : List Value} {h : hp_T} {Z : Option Value → hp_T → Prop} {x y : Int32} (hd : decode (mt_b μ) pc = .ok (.isub, 1)) (k : ev_E G μ (pc + 1) lv (.int (x - y) :: st) h Z) : ev_E G μ pc lv (.int y :: .int x :: st) h Z :=
  ev_pure (fun _ _ _ _ _ _ _ _ _ C _ _ _ _ _ ls _ _ hl k => lv_isub C.1 C.2.1 hd (k ls hl)) k
theorem ev_imul {G : gl_G} {μ : mt_M} {pc : Nat} {lv : List (Nat × Value)} {st : List Value} {h : hp_T} {Z : Option Value → hp_T → Prop} {x y : Int32} (hd : decode (mt_b μ) pc = .ok (.imul, 1)) (k : ev_E G μ (pc + 1) lv (.int (x * y) :: st) h Z) : ev_E G μ pc lv (.int y :: .int x :: st) h Z :=
  ev_pure (fun _ _ _ _ _ _ _ _ _ C _ _ _ _ _ ls _ _ hl k => lv_imul C.1 C.2.1 hd (k ls hl)) k
theorem ev_iand {G : gl_G} {μ : mt_M} {pc : Nat} {lv : List (Nat × Value)} {st : List Value} {h : hp_T} {Z : Option Value → hp_T → Prop} {x y : Int32} (hd : decode (mt_b μ) pc = .ok (.iand, 1)) (k : ev_E G μ (pc + 1) lv (.int (x &&& y) :: st) h Z) : ev_E G μ pc lv (.int y :: .int x :: st) h Z :=
  ev_pure (fun _ _ _ _ _ _ _ _ _ C _ _ _ _ _ ls _ _ hl k => lv_iand C.1 C.2.1 hd (k ls hl)) k
theorem ev_ior {G : gl_G} {μ : mt_M} {pc : Nat} {lv : List (Nat × Value)} {st : List Value} {h : hp_T} {Z : Option Value → hp_T → Prop} {x y : Int32} (hd : decode (mt_b μ) pc = .ok (.ior, 1)) (k : ev_E G μ (pc + 1) lv (.int (x ||| y) :: st) h Z) : ev_E G μ pc lv (.int y :: .int x :: st) h Z :=
  ev_pure (fun _ _ _ _ _ _ _ _ _ C _ _ _ _ _ ls _ _ hl k => lv_ior C.1 C.2.1 hd (k ls hl)) k
theorem ev_ixor {G : gl_G} {μ : mt_M} {pc : Nat} {lv : List (Nat × Value)} {st : List Value} {h : hp_T} {Z : Option Value → hp_T → Prop} {x y : Int32} (hd : decode (mt_b μ) pc = .ok (.ixor, 1)) (k : ev_E G μ (pc + 1) lv (.int (x ^^^ y) :: st) h Z) : ev_E G μ pc lv (.int y :: .int x :: st) h Z :=
  ev_pure (fun _ _ _ _ _ _ _ _ _ C _ _ _ _ _ ls _ _ hl k => lv_ixor C.1 C.2.1 hd (k ls hl)) k
theorem ev_ishl {G : gl_G} {μ : mt_M} {pc : Nat} {lv : List (Nat × Value)} {st : List Value} {h : hp_T} {Z : Option Value → hp_T → Prop} {x y : Int32} (hd : decode (mt_b μ) pc = .ok (.ishl, 1)) (k : ev_E G μ (pc + 1) lv (.int (x <<< (y &&& 31)) :: st) h Z) : ev_E G μ pc lv (.int y :: .int x :: st) h Z :=
  ev_pure (fun _ _ _ _ _ _ _ _ _ C _ _ _ _ _ ls _ _ hl k => lv_ishl C.1 C.2.1 hd (k ls hl)) k
theorem ev_ishr {G : gl_G} {μ : mt_M} {pc : Nat} {lv : List (Nat × Value)} {st : List Value} {h : hp_T} {Z : Option Value → hp_T → Prop} {x y : Int32} (hd : decode (mt_b μ) pc = .ok (.ishr, 1)) (k : ev_E G μ (pc + 1) lv (.int (x >>> (y &&& 31)) :: st) h Z) : ev_E G μ pc lv (.int y :: .int x :: st) h Z :=
  ev_pure (fun _ _ _ _ _ _ _ _ _ C _ _ _ _ _ ls _ _ hl k => lv_ishr C.1 C.2.1 hd (k ls hl)) k
theorem ev_idiv {G : gl_G} {μ : mt_M} {pc : Nat} {lv : List (Nat × Value)} {st : List Value} {h : hp_T} {Z : Option Value → hp_T → Prop} {x y : Int32} (hd : decode (mt_b μ) pc = .ok (.idiv, 1)) (hne : ¬ y = 0) (k : ev_E G μ (pc + 1) lv (.int (x / y) :: st) h Z) : ev_E G μ pc lv (.int y :: .int x :: st) h Z :=
  ev_pure (fun _ _ _ _ _ _ _ _ _ C _ _ _ _ _ ls _ _ hl k => lv_idiv C.1 C.2.1 hd hne (k ls hl)) k
theorem ev_irem {G : gl_G} {μ : mt_M} {pc : Nat} {lv : List (Nat × Value)} {st : List Value} {h : hp_T} {Z : Option Value → hp_T → Prop} {x y : Int32} (hd : decode (mt_b μ) pc = .ok (.irem, 1)) (hne : ¬ y = 0) (k : ev_E G μ (pc + 1) lv (.int (x - x / y * y) :: st) h Z) : ev_E G μ pc lv (.int y :: .int x :: st) h Z :=
  ev_pure (fun _ _ _ _ _ _ _ _ _ C _ _ _ _ _ ls _ _ hl k => lv_irem C.1 C.2.1 hd hne (k ls hl)) k
theorem ev_ineg {G : gl_G} {μ : mt_M} {pc : Nat} {lv : List (Nat × Value)} {st : List Value} {h : hp_T} {Z : Option Value → hp_T → Prop} {x : Int32} (hd : decode (mt_b μ) pc = .ok (.ineg, 1)) (k : ev_E G μ (pc + 1) lv (.int (-x) :: st) h Z) : ev_E G μ pc lv (.int x :: st) h Z :=
  ev_pure (fun _ _ _ _ _ _ _ _ _ C _ _ _ _ _ ls _ _ hl k => lv_ineg C.1 C.2.1 hd (k ls hl)) k
theorem ev_ladd {G : gl_G} {μ : mt_M} {pc : Nat} {lv : List (Nat × Value)} {st : List Value} {h : hp_T} {Z : Option Value → hp_T → Prop} {x y : Int64} (hd : decode (mt_b μ) pc = .ok (.ladd, 1)) (k : ev_E G μ (pc + 1) lv (.long (x + y) :: st) h Z) : ev_E G μ pc lv (.long y :: .long x :: st) h Z :=
  ev_pure (fun _ _ _ _ _ _ _ _ _ C _ _ _ _ _ ls _ _ hl k => lv_ladd C.1 C.2.1 hd (k ls hl)) k
theorem ev_lsub {G : gl_G} {μ : mt_M} {pc : Nat} {lv : List (Nat × Value)} {st : List Value} {h : hp_T} {Z : Option Value → hp_T → Prop} {x y : Int64} (hd : decode (mt_b μ) pc = .ok (.lsub, 1)) (k : ev_E G μ (pc + 1) lv (.long (x - y) :: st) h Z) : ev_E G μ pc lv (.long y :: .long x :: st) h Z :=
  ev_pure (fun _ _ _ _ _ _ _ _ _ C _ _ _ _ _ ls _ _ hl k => lv_lsub C.1 C.2.1 hd (k ls hl)) k
theorem ev_lmul {G : gl_G} {μ : mt_M} {pc : Nat} {lv : List (Nat × Value)} {st : List Value} {h : hp_T} {Z : Option Value → hp_T → Prop} {x y : Int64} (hd : decode (mt_b μ) pc = .ok (.lmul, 1)) (k : ev_E G μ (pc + 1) lv (.long (x * y) :: st) h Z) : ev_E G μ pc lv (.long y :: .long x :: st) h Z :=
  ev_pure (fun _ _ _ _ _ _ _ _ _ C _ _ _ _ _ ls _ _ hl k => lv_lmul C.1 C.2.1 hd (k ls hl)) k
theorem ev_land {G : gl_G} {μ : mt_M} {pc : Nat} {lv : List (Nat × Value)} {st : List Value} {h : hp_T} {Z : Option Value → hp_T → Prop} {x y : Int64} (hd : decode (mt_b μ) pc = .ok (.land, 1)) (k : ev_E G μ (pc + 1) lv (.long (x &&& y) :: st) h Z) : ev_E G μ pc lv (.long y :: .long x :: st) h Z :=
  ev_pure (fun _ _ _ _ _ _ _ _ _ C _ _ _ _ _ ls _ _ hl k => lv_land C.1 C.2.1 hd (k ls hl)) k
theorem ev_lor {G : gl_G} {μ : mt_M} {pc : Nat} {lv : List (Nat × Value)} {st : List Value} {h : hp_T} {Z : Option Value → hp_T → Prop} {x y : Int64} (hd : decode (mt_b μ) pc = .ok (.lor, 1)) (k : ev_E G μ (pc + 1) lv (.long (x ||| y) :: st) h Z) : ev_E G μ pc lv (.long y :: .long x :: st) h Z :=
  ev_pure (fun _ _ _ _ _ _ _ _ _ C _ _ _ _ _ ls _ _ hl k => lv_lor C.1 C.2.1 hd (k ls hl)) k
theorem ev_i2l {G : gl_G} {μ : mt_M} {pc : Nat} {lv : List (Nat × Value)} {st : List Value} {h : hp_T} {Z : Option Value → hp_T → Prop} {x : Int32} (hd : decode (mt_b μ) pc = .ok (.i2l, 1)) (k : ev_E G μ (pc + 1) lv (.long x.toInt64 :: st) h Z) : ev_E G μ pc lv (.int x :: st) h Z :=
  ev_pure (fun _ _ _ _ _ _ _ _ _ C _ _ _ _ _ ls _ _ hl k => lv_i2l C.1 C.2.1 hd rfl (k ls hl)) k
theorem ev_l2i {G : gl_G} {μ : mt_M} {pc : Nat} {lv : List (Nat × Value)} {st : List Value} {h : hp_T} {Z : Option Value → hp_T → Prop} {x : Int64} (hd : decode (mt_b μ) pc = .ok (.l2i, 1)) (k : ev_E G μ (pc + 1) lv (.int x.toInt32 :: st) h Z) : ev_E G μ pc lv (.long x :: st) h Z :=
  ev_pure (fun _ _ _ _ _ _ _ _ _ C _ _ _ _ _ ls _ _ hl k => lv_l2i C.1 C.2.1 hd rfl (k ls hl)) k
theorem ev_i2b {G : gl_G} {μ : mt_M} {pc : Nat} {lv : List (Nat × Value)} {st : List Value} {h : hp_T} {Z : Option Value → hp_T → Prop} {x : Int32} (hd : decode (mt_b μ) pc = .ok (.i2b, 1)) (k : ev_E G μ (pc + 1) lv (.int x.toInt8.toInt32 :: st) h Z) : ev_E G μ pc lv (.int x :: st) h Z :=
  ev_pure (fun _ _ _ _ _ _ _ _ _ C _ _ _ _ _ ls _ _ hl k => lv_i2b C.1 C.2.1 hd rfl (k ls hl)) k
theorem ev_i2c {G : gl_G} {μ : mt_M} {pc : Nat} {lv : List (Nat × Value)} {st : List Value} {h : hp_T} {Z : Option Value → hp_T → Prop} {x : Int32} (hd : decode (mt_b μ) pc = .ok (.i2c, 1)) (k : ev_E G μ (pc + 1) lv (.int (x.toUInt32 % 65536).toInt32 :: st) h Z) : ev_E G μ pc lv (.int x :: st) h Z :=
  ev_pure (fun _ _ _ _ _ _ _ _ _ C _ _ _ _ _ ls _ _ hl k => lv_i2c C.1 C.2.1 hd rfl (k ls hl)) k
theorem ev_iushr {G : gl_G} {μ : mt_M} {pc : Nat} {lv : List (Nat × Value)} {st : List Value} {h : hp_T} {Z : Option Value → hp_T → Prop} {x y : Int32} (hd : decode (mt_b μ) pc = .ok (.iushr, 1)) (k : ev_E G μ (pc + 1) lv (.int (x.toUInt32 >>> (y.toUInt32 &&& Int32.toUInt32 31)).toInt32 :: st) h Z) : ev_E G μ pc lv (.int y :: .int x :: st) h Z :=
  ev_pure (fun _ _ _ _ _ _ _ _ _ C _ _ _ _ _ ls _ _ hl k => lv_iushr C.1 C.2.1 hd rfl (k ls hl)) k
theorem ev_lcmp {G : gl_G} {μ : mt_M} {pc : Nat} {lv : List (Nat × Value)} {st : List Value} {h : hp_T} {Z : Option Value → hp_T → Prop} {x y : Int64} (hd : decode (mt_b μ) pc = .ok (.lcmp, 1)) (k : ev_E G μ (pc + 1) lv (.int (lg_cmp x y) :: st) h Z) : ev_E G μ pc lv (.long y :: .long x :: st) h Z :=
  ev_pure (fun _ _ _ _ _ _ _ _ _ C _ _ _ _ _ ls _ _ hl k => W.lcmp C.1 C.2.1 hd (k ls hl)) k
theorem ev_dup {G : gl_G} {μ : mt_M} {pc : Nat} {lv : List (Nat × Value)} {st : List Value} {h : hp_T} {Z : Option Value → hp_T → Prop} {va : Value} (hd : decode (mt_b μ) pc = .ok (.dup, 1)) (h1 : va.category = 1) (k : ev_E G μ (pc + 1) lv (va :: va :: st) h Z) : ev_E G μ pc lv (va :: st) h Z :=
  ev_pure (fun _ _ _ _ _ _ _ _ _ C _ _ _ _ _ ls _ _ hl k => lv_dup C.1 C.2.1 hd h1 (k ls hl)) k
theorem ev_pop {G : gl_G} {μ : mt_M} {pc : Nat} {lv : List (Nat × Value)} {st : List Value} {h : hp_T} {Z : Option Value → hp_T → Prop} {va : Value} (hd : decode (mt_b μ) pc = .ok (.pop, 1)) (h1 : va.category = 1) (k : ev_E G μ (pc + 1) lv (st) h Z) : ev_E G μ pc lv (va :: st) h Z :=
  ev_pure (fun _ _ _ _ _ _ _ _ _ C _ _ _ _ _ ls _ _ hl k => lv_pop C.1 C.2.1 hd h1 (k ls hl)) k
theorem ev_dup_x1 {G : gl_G} {μ : mt_M} {pc : Nat} {lv : List (Nat × Value)} {st : List Value} {h : hp_T} {Z : Option Value → hp_T → Prop} {va vb : Value} (hd : decode (mt_b μ) pc = .ok (.dup_x1, 1)) (h1 : va.category = 1) (h2 : vb.category = 1) (k : ev_E G μ (pc + 1) lv (va :: vb :: va :: st) h Z) : ev_E G μ pc lv (va :: vb :: st) h Z :=
  ev_pure (fun _ _ _ _ _ _ _ _ _ C _ _ _ _ _ ls _ _ hl k => lv_dup_x1 C.1 C.2.1 hd h1 h2 (k ls hl)) k
theorem ev_dup2_11 {G : gl_G} {μ : mt_M} {pc : Nat} {lv : List (Nat × Value)} {st : List Value} {h : hp_T} {Z : Option Value → hp_T → Prop} {va vb : Value} (hd : decode (mt_b μ) pc = .ok (.dup2, 1)) (h1 : va.category = 1) (h2 : vb.category = 1) (k : ev_E G μ (pc + 1) lv (va :: vb :: va :: vb :: st) h Z) : ev_E G μ pc lv (va :: vb :: st) h Z :=
  ev_pure (fun _ _ _ _ _ _ _ _ _ C _ _ _ _ _ ls _ _ hl k => lv_dup2_11 C.1 C.2.1 hd h1 h2 (k ls hl)) k
theorem ev_goto {G : gl_G} {μ : mt_M} {pc : Nat} {lv : List (Nat × Value)} {st : List Value} {h : hp_T} {Z : Option Value → hp_T → Prop} {off : Int} {tgt : Nat} (hd : decode (mt_b μ) pc = .ok (.goto off, 3)) (ht : (pc : Int) + off = (tgt : Int)) (k : ev_E G μ tgt lv st h Z) : ev_E G μ pc lv st h Z :=
  ev_pure (fun _ _ _ _ _ _ _ _ _ C _ _ _ _ _ ls _ _ hl k => lv_goto C.1 C.2.1 hd ht (k ls hl)) k
theorem ev_if_eq {G : gl_G} {μ : mt_M} {pc : Nat} {lv : List (Nat × Value)} {st : List Value} {h : hp_T} {Z : Option Value → hp_T → Prop} {x : Int32} {off : Int} {tgt : Nat} (hd : decode (mt_b μ) pc = .ok (.ifCond .eq off, 3)) (ht : (pc : Int) + off = (tgt : Int)) (kt : x = 0 → ev_E G μ tgt lv st h Z) (kf : ¬ (x = 0) → ev_E G μ (pc + 3) lv st h Z) : ev_E G μ pc lv (.int x :: st) h Z := by
  by_cases hc : x = 0
  · exact ev_pure (fun _ _ _ _ _ _ _ _ _ C _ _ _ _ _ ls _ _ hl k => lv_if_eq C.1 C.2.1 hd ht (fun _ => k ls hl) (fun z => absurd hc z)) (kt hc)
  · exact ev_pure (fun _ _ _ _ _ _ _ _ _ C _ _ _ _ _ ls _ _ hl k => lv_if_eq C.1 C.2.1 hd ht (fun z => absurd z hc) (fun _ => k ls hl)) (kf hc)
theorem ev_icmp_eq {G : gl_G} {μ : mt_M} {pc : Nat} {lv : List (Nat × Value)} {st : List Value} {h : hp_T} {Z : Option Value → hp_T → Prop} {x y : Int32} {off : Int} {tgt : Nat} (hd : decode (mt_b μ) pc = .ok (.if_icmp .eq off, 3)) (ht : (pc : Int) + off = (tgt : Int)) (kt : x = y → ev_E G μ tgt lv st h Z) (kf : ¬ (x = y) → ev_E G μ (pc + 3) lv st h Z) : ev_E G μ pc lv (.int y :: .int x :: st) h Z := by
  by_cases hc : x = y
  · exact ev_pure (fun _ _ _ _ _ _ _ _ _ C _ _ _ _ _ ls _ _ hl k => lv_icmp_eq C.1 C.2.1 hd ht (fun _ => k ls hl) (fun z => absurd hc z)) (kt hc)
  · exact ev_pure (fun _ _ _ _ _ _ _ _ _ C _ _ _ _ _ ls _ _ hl k => lv_icmp_eq C.1 C.2.1 hd ht (fun z => absurd z hc) (fun _ => k ls hl)) (kf hc)
theorem ev_if_ne {G : gl_G} {μ : mt_M} {pc : Nat} {lv : List (Nat × Value)} {st : List Value} {h : hp_T} {Z : Option Value → hp_T → Prop} {x : Int32} {off : Int} {tgt : Nat} (hd : decode (mt_b μ) pc = .ok (.ifCond .ne off, 3)) (ht : (pc : Int) + off = (tgt : Int)) (kt : ¬ x = 0 → ev_E G μ tgt lv st h Z) (kf : x = 0 → ev_E G μ (pc + 3) lv st h Z) : ev_E G μ pc lv (.int x :: st) h Z := by
  by_cases hc : x = 0
  · exact ev_pure (fun _ _ _ _ _ _ _ _ _ C _ _ _ _ _ ls _ _ hl k => lv_if_ne C.1 C.2.1 hd ht (fun z => absurd hc z) (fun _ => k ls hl)) (kf hc)
  · exact ev_pure (fun _ _ _ _ _ _ _ _ _ C _ _ _ _ _ ls _ _ hl k => lv_if_ne C.1 C.2.1 hd ht (fun _ => k ls hl) (fun z => absurd z hc)) (kt hc)
theorem ev_icmp_ne {G : gl_G} {μ : mt_M} {pc : Nat} {lv : List (Nat × Value)} {st : List Value} {h : hp_T} {Z : Option Value → hp_T → Prop} {x y : Int32} {off : Int} {tgt : Nat} (hd : decode (mt_b μ) pc = .ok (.if_icmp .ne off, 3)) (ht : (pc : Int) + off = (tgt : Int)) (kt : ¬ x = y → ev_E G μ tgt lv st h Z) (kf : x = y → ev_E G μ (pc + 3) lv st h Z) : ev_E G μ pc lv (.int y :: .int x :: st) h Z := by
  by_cases hc : x = y
  · exact ev_pure (fun _ _ _ _ _ _ _ _ _ C _ _ _ _ _ ls _ _ hl k => lv_icmp_ne C.1 C.2.1 hd ht (fun z => absurd hc z) (fun _ => k ls hl)) (kf hc)
  · exact ev_pure (fun _ _ _ _ _ _ _ _ _ C _ _ _ _ _ ls _ _ hl k => lv_icmp_ne C.1 C.2.1 hd ht (fun _ => k ls hl) (fun z => absurd z hc)) (kt hc)
theorem ev_if_lt {G : gl_G} {μ : mt_M} {pc : Nat} {lv : List (Nat × Value)} {st : List Value} {h : hp_T} {Z : Option Value → hp_T → Prop} {x : Int32} {off : Int} {tgt : Nat} (hd : decode (mt_b μ) pc = .ok (.ifCond .lt off, 3)) (ht : (pc : Int) + off = (tgt : Int)) (kt : x < 0 → ev_E G μ tgt lv st h Z) (kf : ¬ (x < 0) → ev_E G μ (pc + 3) lv st h Z) : ev_E G μ pc lv (.int x :: st) h Z := by
  by_cases hc : x < 0
  · exact ev_pure (fun _ _ _ _ _ _ _ _ _ C _ _ _ _ _ ls _ _ hl k => lv_if_lt C.1 C.2.1 hd ht (fun _ => k ls hl) (fun z => absurd hc z)) (kt hc)
  · exact ev_pure (fun _ _ _ _ _ _ _ _ _ C _ _ _ _ _ ls _ _ hl k => lv_if_lt C.1 C.2.1 hd ht (fun z => absurd z hc) (fun _ => k ls hl)) (kf hc)
theorem ev_icmp_lt {G : gl_G} {μ : mt_M} {pc : Nat} {lv : List (Nat × Value)} {st : List Value} {h : hp_T} {Z : Option Value → hp_T → Prop} {x y : Int32} {off : Int} {tgt : Nat} (hd : decode (mt_b μ) pc = .ok (.if_icmp .lt off, 3)) (ht : (pc : Int) + off = (tgt : Int)) (kt : x < y → ev_E G μ tgt lv st h Z) (kf : ¬ (x < y) → ev_E G μ (pc + 3) lv st h Z) : ev_E G μ pc lv (.int y :: .int x :: st) h Z := by
  by_cases hc : x < y
  · exact ev_pure (fun _ _ _ _ _ _ _ _ _ C _ _ _ _ _ ls _ _ hl k => lv_icmp_lt C.1 C.2.1 hd ht (fun _ => k ls hl) (fun z => absurd hc z)) (kt hc)
  · exact ev_pure (fun _ _ _ _ _ _ _ _ _ C _ _ _ _ _ ls _ _ hl k => lv_icmp_lt C.1 C.2.1 hd ht (fun z => absurd z hc) (fun _ => k ls hl)) (kf hc)
theorem ev_if_ge {G : gl_G} {μ : mt_M} {pc : Nat} {lv : List (Nat × Value)} {st : List Value} {h : hp_T} {Z : Option Value → hp_T → Prop} {x : Int32} {off : Int} {tgt : Nat} (hd : decode (mt_b μ) pc = .ok (.ifCond .ge off, 3)) (ht : (pc : Int) + off = (tgt : Int)) (kt : 0 ≤ x → ev_E G μ tgt lv st h Z) (kf : ¬ (0 ≤ x) → ev_E G μ (pc + 3) lv st h Z) : ev_E G μ pc lv (.int x :: st) h Z := by
  by_cases hc : 0 ≤ x
  · exact ev_pure (fun _ _ _ _ _ _ _ _ _ C _ _ _ _ _ ls _ _ hl k => lv_if_ge C.1 C.2.1 hd ht (fun _ => k ls hl) (fun z => absurd hc z)) (kt hc)
  · exact ev_pure (fun _ _ _ _ _ _ _ _ _ C _ _ _ _ _ ls _ _ hl k => lv_if_ge C.1 C.2.1 hd ht (fun z => absurd z hc) (fun _ => k ls hl)) (kf hc)
theorem ev_icmp_ge {G : gl_G} {μ : mt_M} {pc : Nat} {lv : List (Nat × Value)} {st : List Value} {h : hp_T} {Z : Option Value → hp_T → Prop} {x y : Int32} {off : Int} {tgt : Nat} (hd : decode (mt_b μ) pc = .ok (.if_icmp .ge off, 3)) (ht : (pc : Int) + off = (tgt : Int)) (kt : y ≤ x → ev_E G μ tgt lv st h Z) (kf : ¬ (y ≤ x) → ev_E G μ (pc + 3) lv st h Z) : ev_E G μ pc lv (.int y :: .int x :: st) h Z := by
  by_cases hc : y ≤ x
  · exact ev_pure (fun _ _ _ _ _ _ _ _ _ C _ _ _ _ _ ls _ _ hl k => lv_icmp_ge C.1 C.2.1 hd ht (fun _ => k ls hl) (fun z => absurd hc z)) (kt hc)
  · exact ev_pure (fun _ _ _ _ _ _ _ _ _ C _ _ _ _ _ ls _ _ hl k => lv_icmp_ge C.1 C.2.1 hd ht (fun z => absurd z hc) (fun _ => k ls hl)) (kf hc)
theorem ev_if_gt {G : gl_G} {μ : mt_M} {pc : Nat} {lv : List (Nat × Value)} {st : List Value} {h : hp_T} {Z : Option Value → hp_T → Prop} {x : Int32} {off : Int} {tgt : Nat} (hd : decode (mt_b μ) pc = .ok (.ifCond .gt off, 3)) (ht : (pc : Int) + off = (tgt : Int)) (kt : 0 < x → ev_E G μ tgt lv st h Z) (kf : ¬ (0 < x) → ev_E G μ (pc + 3) lv st h Z) : ev_E G μ pc lv (.int x :: st) h Z := by
  by_cases hc : 0 < x
  · exact ev_pure (fun _ _ _ _ _ _ _ _ _ C _ _ _ _ _ ls _ _ hl k => lv_if_gt C.1 C.2.1 hd ht (fun _ => k ls hl) (fun z => absurd hc z)) (kt hc)
  · exact ev_pure (fun _ _ _ _ _ _ _ _ _ C _ _ _ _ _ ls _ _ hl k => lv_if_gt C.1 C.2.1 hd ht (fun z => absurd z hc) (fun _ => k ls hl)) (kf hc)
theorem ev_icmp_gt {G : gl_G} {μ : mt_M} {pc : Nat} {lv : List (Nat × Value)} {st : List Value} {h : hp_T} {Z : Option Value → hp_T → Prop} {x y : Int32} {off : Int} {tgt : Nat} (hd : decode (mt_b μ) pc = .ok (.if_icmp .gt off, 3)) (ht : (pc : Int) + off = (tgt : Int)) (kt : y < x → ev_E G μ tgt lv st h Z) (kf : ¬ (y < x) → ev_E G μ (pc + 3) lv st h Z) : ev_E G μ pc lv (.int y :: .int x :: st) h Z := by
  by_cases hc : y < x
  · exact ev_pure (fun _ _ _ _ _ _ _ _ _ C _ _ _ _ _ ls _ _ hl k => lv_icmp_gt C.1 C.2.1 hd ht (fun _ => k ls hl) (fun z => absurd hc z)) (kt hc)
  · exact ev_pure (fun _ _ _ _ _ _ _ _ _ C _ _ _ _ _ ls _ _ hl k => lv_icmp_gt C.1 C.2.1 hd ht (fun z => absurd z hc) (fun _ => k ls hl)) (kf hc)
theorem ev_if_le {G : gl_G} {μ : mt_M} {pc : Nat} {lv : List (Nat × Value)} {st : List Value} {h : hp_T} {Z : Option Value → hp_T → Prop} {x : Int32} {off : Int} {tgt : Nat} (hd : decode (mt_b μ) pc = .ok (.ifCond .le off, 3)) (ht : (pc : Int) + off = (tgt : Int)) (kt : x ≤ 0 → ev_E G μ tgt lv st h Z) (kf : ¬ (x ≤ 0) → ev_E G μ (pc + 3) lv st h Z) : ev_E G μ pc lv (.int x :: st) h Z := by
  by_cases hc : x ≤ 0
  · exact ev_pure (fun _ _ _ _ _ _ _ _ _ C _ _ _ _ _ ls _ _ hl k => lv_if_le C.1 C.2.1 hd ht (fun _ => k ls hl) (fun z => absurd hc z)) (kt hc)
  · exact ev_pure (fun _ _ _ _ _ _ _ _ _ C _ _ _ _ _ ls _ _ hl k => lv_if_le C.1 C.2.1 hd ht (fun z => absurd z hc) (fun _ => k ls hl)) (kf hc)
theorem ev_icmp_le {G : gl_G} {μ : mt_M} {pc : Nat} {lv : List (Nat × Value)} {st : List Value} {h : hp_T} {Z : Option Value → hp_T → Prop} {x y : Int32} {off : Int} {tgt : Nat} (hd : decode (mt_b μ) pc = .ok (.if_icmp .le off, 3)) (ht : (pc : Int) + off = (tgt : Int)) (kt : x ≤ y → ev_E G μ tgt lv st h Z) (kf : ¬ (x ≤ y) → ev_E G μ (pc + 3) lv st h Z) : ev_E G μ pc lv (.int y :: .int x :: st) h Z := by
  by_cases hc : x ≤ y
  · exact ev_pure (fun _ _ _ _ _ _ _ _ _ C _ _ _ _ _ ls _ _ hl k => lv_icmp_le C.1 C.2.1 hd ht (fun _ => k ls hl) (fun z => absurd hc z)) (kt hc)
  · exact ev_pure (fun _ _ _ _ _ _ _ _ _ C _ _ _ _ _ ls _ _ hl k => lv_icmp_le C.1 C.2.1 hd ht (fun z => absurd z hc) (fun _ => k ls hl)) (kf hc)
theorem ev_tableOut {G : gl_G} {μ : mt_M} {pc : Nat} {lv : List (Nat × Value)} {st : List Value} {h : hp_T} {Z : Option Value → hp_T → Prop} {dflt lo hi : Int} {offs : Array Int} {len : Nat} {x : Int32} {tgt : Nat} (hd : decode (mt_b μ) pc = .ok (.tableswitch dflt lo hi offs, len)) (hx : x.toInt < lo ∨ hi < x.toInt) (ht : (pc : Int) + dflt = (tgt : Int)) (k : ev_E G μ tgt lv st h Z) : ev_E G μ pc lv (.int x :: st) h Z :=
  ev_pure (fun _ _ _ _ _ _ _ _ _ C _ _ _ _ _ ls _ _ hl k => lv_tableOut C.1 C.2.1 hd hx ht (k ls hl)) k
theorem ev_tableIn {G : gl_G} {μ : mt_M} {pc : Nat} {lv : List (Nat × Value)} {st : List Value} {h : hp_T} {Z : Option Value → hp_T → Prop} {dflt lo hi : Int} {offs : Array Int} {len : Nat} {x : Int32} {off : Int} {tgt : Nat} (hd : decode (mt_b μ) pc = .ok (.tableswitch dflt lo hi offs, len)) (h1 : ¬ x.toInt < lo) (h2 : ¬ hi < x.toInt) (ho : offs[(x.toInt - lo).toNat]? = some off) (ht : (pc : Int) + off = (tgt : Int)) (k : ev_E G μ tgt lv st h Z) : ev_E G μ pc lv (.int x :: st) h Z :=
  ev_pure (fun _ _ _ _ _ _ _ _ _ C _ _ _ _ _ ls _ _ hl k => lv_tableIn C.1 C.2.1 hd h1 h2 ho ht (k ls hl)) k
theorem ev_lookup {G : gl_G} {μ : mt_M} {pc : Nat} {lv : List (Nat × Value)} {st : List Value} {h : hp_T} {Z : Option Value → hp_T → Prop} {dflt : Int} {ps : Array (Int × Int)} {len : Nat} {x : Int32} {off : Int} {tgt : Nat} (hd : decode (mt_b μ) pc = .ok (.lookupswitch dflt ps, len)) (hp : (ps.toList.zip (ps.toList.drop 1)).all (fun (a, next) => a.1 < next.1) = true) (ho : Op.lookupswitch.offset ps.toList dflt x.toInt = off) (ht : (pc : Int) + off = (tgt : Int)) (k : ev_E G μ tgt lv st h Z) : ev_E G μ pc lv (.int x :: st) h Z :=
  ev_pure (fun _ _ _ _ _ _ _ _ _ C _ _ _ _ _ ls _ _ hl k => lv_lookup C.1 C.2.1 hd hp ho ht (k ls hl)) k
theorem ev_ldc {G : gl_G} {μ : mt_M} {pc : Nat} {lv : List (Nat × Value)} {st : List Value} {h : hp_T} {Z : Option Value → hp_T → Prop} {index : Nat} {v : Int32} (hw : Jvm.Cond.constant (mt_y μ).cls index v ∈ mt_w μ) (hd : decode (mt_b μ) pc = .ok (.ldc index, 2)) (k : ev_E G μ (pc + 2) lv (.int v :: st) h Z) : ev_E G μ pc lv st h Z :=
  ev_pure (fun _ _ _ _ _ _ _ _ _ C _ _ _ _ _ ls _ _ hl k => lv_ldc C.1 C.2.1 C.2.2.2.2.1 (C.2.2.2.2.2.1 _ hw) hd (k ls hl)) k
theorem ev_ldcw {G : gl_G} {μ : mt_M} {pc : Nat} {lv : List (Nat × Value)} {st : List Value} {h : hp_T} {Z : Option Value → hp_T → Prop} {index : Nat} {v : Int32} (hw : Jvm.Cond.constant (mt_y μ).cls index v ∈ mt_w μ) (hd : decode (mt_b μ) pc = .ok (.ldc_w index, 3)) (k : ev_E G μ (pc + 3) lv (.int v :: st) h Z) : ev_E G μ pc lv st h Z :=
  ev_pure (fun _ _ _ _ _ _ _ _ _ C _ _ _ _ _ ls _ _ hl k => lv_ldcw C.1 C.2.1 C.2.2.2.2.1 (C.2.2.2.2.2.1 _ hw) hd (k ls hl)) k
theorem ev_ldc2 {G : gl_G} {μ : mt_M} {pc : Nat} {lv : List (Nat × Value)} {st : List Value} {h : hp_T} {Z : Option Value → hp_T → Prop} {index : Nat} {v : Int64} (hw : Jvm.Cond.constantLong (mt_y μ).cls index v ∈ mt_w μ) (hd : decode (mt_b μ) pc = .ok (.ldc2_w index, 3)) (k : ev_E G μ (pc + 3) lv (.long v :: st) h Z) : ev_E G μ pc lv st h Z :=
  ev_pure (fun _ _ _ _ _ _ _ _ _ C _ _ _ _ _ ls _ _ hl k => lv_ldc2 C.1 C.2.1 C.2.2.2.2.1 (C.2.2.2.2.2.1 _ hw) hd (k ls hl)) k
end
section
/-- a step that may change the cells -/
theorem ev_step {G : gl_G} {μ : mt_M} {pc pc2 : Nat} {lv lv2 : List (Nat × Value)} {st st2 : List Value} {h h2 : hp_T} {Z : Option Value → hp_T → Prop} (z1 : h.1 ≤ h2.1) (z2 : h.2.1 ≤ h2.2.1)
    (hs : ∀ (p : Program) (e : Env) (R : Room) (s : State) (m : MethodId) (args : Array Value) (below : List Frame) (meth : Method) (c : Code), cx_ok G μ p R s m args meth c → ∀ (H : Heap) (locs : List Loc) (cells slots : Nat) (Q : State → Prop) (ls : Array Slot), hp_ok G h H → va_S (gl_A G) s.heap H locs → lv_has ls (mt_n μ) lv → cells + (h2.1 - h.1) ≤ R.cells → slots + (h2.2.1 - h.2.1) ≤ R.slots →
      (∀ (H2 : Heap) (locs2 : List Loc) (ls2 : Array Slot), hp_ok G h2 H2 → va_S (gl_A G) s.heap H2 locs2 → lv_has ls2 (mt_n μ) lv2 → W p (gl_l G) e R s m args below meth c H2 locs2 (cells + (h2.1 - h.1)) (slots + (h2.2.1 - h.2.1)) Q (F0 m pc2 ls2 st2)) → W p (gl_l G) e R s m args below meth c H locs cells slots Q (F0 m pc ls st))
    (k : ev_E G μ pc2 lv2 st2 h2 Z) : ev_E G μ pc lv st h Z := by
  obtain ⟨o, h', hZ, h1, h3, k⟩ := k
  refine ⟨o, h', hZ, Nat.le_trans z1 h1, Nat.le_trans z2 h3, fun p e R s m args below meth c C H locs cells slots ls hO hS hl hc hq => ?_⟩
  refine hs p e R s m args below meth c C H locs cells slots _ ls hO hS hl (by omega) (by omega) (fun H2 locs2 ls2 hO2 hS2 hl2 => ?_)
  exact k p e R s m args below meth c C H2 locs2 _ _ ls2 hO2 hS2 hl2 (by omega) (by omega)
section RET
variable {G : gl_G} {μ : mt_M} {pc : Nat} {lv : List (Nat × Value)} {st : List Value} {h : hp_T} {Z : Option Value → hp_T → Prop}
theorem ev_iret {v : Int32} (hd : decode (mt_b μ) pc = .ok (.ireturn, 1)) (hr : mt_r μ = some .int) (hz : Z (some (.int v)) h) : ev_E G μ pc lv [.int v] h Z := by
  refine ⟨_, h, hz, Nat.le_refl _, Nat.le_refl _, fun p e R s m args below meth c C H locs cells slots ls hO hS hl hc hq => ?_⟩
  refine W.widen (k := R.cells) (n := R.slots) (by omega) (by omega) ?_
  exact W.iret C.1 C.2.1 (C.2.2.2.1.trans hr) (fun t ht _ => ⟨rfl, by rw [ht]; exact hO, hS.F ht⟩) hS.2.2 hd C.2.2.2.2.2.2.1
theorem ev_zret {v : Int32} (hd : decode (mt_b μ) pc = .ok (.ireturn, 1)) (hr : mt_r μ = some .boolean) (hn : narrow .boolean (.int v) = .int v) (hz : Z (some (.int v)) h) : ev_E G μ pc lv [.int v] h Z := by
  refine ⟨_, h, hz, Nat.le_refl _, Nat.le_refl _, fun p e R s m args below meth c C H locs cells slots ls hO hS hl hc hq => ?_⟩
  refine W.widen (k := R.cells) (n := R.slots) (by omega) (by omega) ?_
  exact W.zret C.1 C.2.1 (C.2.2.2.1.trans hr) hn (fun t ht _ => ⟨rfl, by rw [ht]; exact hO, hS.F ht⟩) hS.2.2 hd C.2.2.2.2.2.2.1
theorem ev_vret (hd : decode (mt_b μ) pc = .ok (.return_, 1)) (hr : mt_r μ = none) (hz : Z none h) : ev_E G μ pc lv [] h Z := by
  refine ⟨_, h, hz, Nat.le_refl _, Nat.le_refl _, fun p e R s m args below meth c C H locs cells slots ls hO hS hl hc hq => ?_⟩
  refine W.widen (k := R.cells) (n := R.slots) (by omega) (by omega) ?_
  exact W.vret C.1 C.2.1 (C.2.2.2.1.trans hr) (fun t ht _ => ⟨rfl, by rw [ht]; exact hO, hS.F ht⟩) hS.2.2 hd C.2.2.2.2.2.2.1
theorem ev_lret {v : Int64} (hd : decode (mt_b μ) pc = .ok (.lreturn, 1)) (hr : mt_r μ = some .long) (hz : Z (some (.long v)) h) : ev_E G μ pc lv [.long v] h Z := by
  refine ⟨_, h, hz, Nat.le_refl _, Nat.le_refl _, fun p e R s m args below meth c C H locs cells slots ls hO hS hl hc hq => ?_⟩
  refine W.widen (k := R.cells) (n := R.slots) (by omega) (by omega) ?_
  exact W.lret C.1 C.2.1 (C.2.2.2.1.trans hr) (fun t ht _ => ⟨rfl, by rw [ht]; exact hO, hS.F ht⟩) hS.2.2 hd C.2.2.2.2.2.2.1
theorem ev_aret {a : Nat} {rt : FieldType} (hd : decode (mt_b μ) pc = .ok (.areturn, 1)) (hr : mt_r μ = some rt) (hrt : (∃ n, rt = .object n) ∨ ∃ t, rt = .array t) (hz : Z (some (.ref a)) h) : ev_E G μ pc lv [.ref a] h Z := by
  refine ⟨_, h, hz, Nat.le_refl _, Nat.le_refl _, fun p e R s m args below meth c C H locs cells slots ls hO hS hl hc hq => ?_⟩
  refine W.widen (k := R.cells) (n := R.slots) (by omega) (by omega) ?_
  exact W.aret C.1 C.2.1 (C.2.2.2.1.trans hr) hrt (Or.inr ⟨a, rfl⟩) (fun t ht _ => ⟨rfl, by rw [ht]; exact hO, hS.F ht⟩) hS.2.2 hd C.2.2.2.2.2.2.1
end RET
section FLD
variable {G : gl_G} {μ : mt_M} {pc : Nat} {lv : List (Nat × Value)} {st : List Value} {h : hp_T} {Z : Option Value → hp_T → Prop}
/-- which field an instruction speaks of: class ci's field k -/
def fa_at (μ : mt_M) (index ci k : Nat) : Prop := ∃ (C : String) (T : u_T) (N : Nat) (ty : Nat → FieldType), vwCl[ci]? = some (C, T, N) ∧ k < N ∧ (∀ w ∈ u_ws C T N, w ∈ mt_w μ) ∧ Cond.fieldLink (mt_y μ).cls index (T k).1 (T k).2.1 (T k).2.2.1 ∈ mt_w μ ∧
  (∀ k, k < N → parseFieldDescriptor (T k).2.2.1 = some (ty k)) ∧ (∀ a, a < N → ∀ b, b < N → a ≠ b → (T a).2.1 ≠ (T b).2.1)
theorem ev_get {index ci n a : Nat} {fs : List Value} {v : Value} (F : fa_at μ index ci n) (hd : decode (mt_b μ) pc = .ok (.getfield index, 3)) (he : h.2.2 a = some (.inr (ci, fs))) (hv : fs[n]? = some v) (kk : ev_E G μ (pc + 3) lv (v :: st) h Z) : ev_E G μ pc lv (.ref a :: st) h Z := by
  obtain ⟨C, T, N, ty, hc, hk, hin, hlink, -, -⟩ := F
  exact ev_pure (fun _ _ _ _ _ _ _ _ _ X _ _ _ _ _ ls hO _ hl k => va_get X.1 X.2.1 X.2.2.2.2.2.1 hin X.2.2.2.2.1 X.2.2.2.2.2.2.2.2.1 (hO.one he) 0 rfl hc n hk (X.2.2.2.2.2.1 _ hlink) (fun _ z => z) hv hd (k ls hl)) kk
/-- a field that isn't final: its type ty -/
def fa_put (μ : mt_M) (index ci k : Nat) (t : FieldType) : Prop := ∃ (C : String) (T : u_T) (N : Nat) (ty : Nat → FieldType), vwCl[ci]? = some (C, T, N) ∧ k < N ∧ (∀ w ∈ u_ws C T N, w ∈ mt_w μ) ∧ Cond.fieldLink (mt_y μ).cls index (T k).1 (T k).2.1 (T k).2.2.1 ∈ mt_w μ ∧
  (∀ k, k < N → parseFieldDescriptor (T k).2.2.1 = some (ty k)) ∧ (∀ a, a < N → ∀ b, b < N → a ≠ b → (T a).2.1 ≠ (T b).2.1) ∧ ty k = t ∧ ((T k).2.2.2 = false ∨ ((T k).2.2.2 = true ∧ (mt_y μ).name = "<init>" ∧ (T k).1 = (mt_y μ).cls))
theorem ev_put {index ci n a : Nat} {fs : List Value} {v : Value} {t : FieldType} (F : fa_put μ index ci n t) (hd : decode (mt_b μ) pc = .ok (.putfield index, 3)) (he : h.2.2 a = some (.inr (ci, fs))) (hl0 : n < fs.length) (hn : narrow t v = v) (hfit : fits t v = true) (kk : ev_E G μ (pc + 3) lv st (hp_up h a (.inr (ci, fs.set n v))) Z) : ev_E G μ pc lv (v :: .ref a :: st) h Z := by
  obtain ⟨C, T, N, ty, hc, hk, hin, hlink, hty, hnm, ht, hfin⟩ := F
  subst ht
  refine ev_step (h2 := hp_up h a (.inr (ci, fs.set n v))) (Nat.le_refl _) (Nat.le_refl _) (fun p e R s m args below meth c X H locs cells slots Q ls hO hS hl _ _ kk => ?_) kk
  obtain ⟨hx, hb, hml, hr, hown, hts, hlocks, hname, hK, hL, hbs, -, -, -⟩ := X
  have hap := va_apart (own := (mt_y μ).cls) hts hin ty hty hnm hK hc
  obtain ⟨⟨r, h1, cell, q1, q2, q3, q4⟩, hba⟩ := hO.2 a _ he
  have hr' : r = (C, T, N) := Option.some.inj (h1.symm.trans hc)
  subst hr'
  obtain ⟨hSl, hfc, kC, hkC, hkind⟩ := hK.1 ci _ hc
  obtain ⟨cf, kf, fi, f, hi, hsl⟩ := hSl n hk
  have hlay := hts _ (hin _ (u_in_lay hk))
  unfold u_lay at hlay
  have hst := (u_facts hfc hkC (u_lays hts hin hk) hi).1
  have last : ∀ (H' : Heap) (loc : Loc), loc.base = a → H'[a]? = some (cell.setSlot f.slot v) → H'.size = H.size → (∀ q, q ≠ a → H'[q]? = H[q]?) → W p (gl_l G) e R s m args below meth c H' (locs ++ [loc]) cells slots Q (F0 m (pc + 3) ls st) := by
    intro H' loc hloc e1 e2 e3
    obtain ⟨lb, li⟩ := loc
    cases hloc
    rw [hsl] at e1
    refine W.cs (show cells = cells + (h.1 - h.1) by omega) (show slots = slots + (h.2.1 - h.2.1) by omega) ?_
    exact kk H' _ ls (hO.set hba ⟨_, hc, t_OB.to (V := updV (vp_V fs) n v) ⟨_, e1, q2, q3, t_set q4 hap hk v⟩ (fun j _ => vp_updV_set hl0 v j)⟩ e2 e3) (hS.put e2 e3 hba) hl
  rcases hfin with hfin | ⟨hfin, hnm1, hcls⟩
  · rw [if_neg (by rw [hfin]; decide)] at hlay
    have h6 := u_store hfc hkC hkind hlay hi (hty n hk) hn hfit
    exact W.putK hx hb (f := f) ⟨hown, hts _ hlink, ⟨_, _, _, hi⟩, hst⟩ (by rw [q2]; exact h6) q1 q3 (by rw [hsl]; exact k2_hasslot (q4 n hk)) rfl rfl hd fun H' e1 e2 e3 => last H' _ rfl e1 e2 e3
  · rw [if_pos hfin] at hlay
    have hcf : m.cls = cf := by
      obtain ⟨_, _, c', _, _, _, -, -, hf', -, -, -, hown2, -⟩ := Cond.laysFinal_spec hlay
      have e1 : c' = cf := by have := hi.symm.trans hf'; simp at this; exact this.1.symm
      rw [hcls] at hown2
      rw [← e1]; exact Option.some.inj (hown.symm.trans hown2)
    have h6 := u_fits hfc hkC hkind (Or.inr hlay) hi (hty n hk) hn hfit
    exact W.putFinK hx hb hown (hts _ hlink) hi hst hcf (hname.trans hnm1) (by rw [q2]; exact h6) q1 q3 (by rw [hsl]; exact k2_hasslot (q4 n hk)) rfl rfl hd fun H' e1 e2 e3 => last H' _ rfl e1 e2 e3
/-- a new object -/
def fa_new (μ : mt_M) (index ci : Nat) (fs : List Value) : Prop := ∃ (C : String) (T : u_T) (N : Nat) (ty : Nat → FieldType), vwCl[ci]? = some (C, T, N) ∧ N = fs.length ∧ (∀ w ∈ u_ws C T N, w ∈ mt_w μ) ∧ Cond.classLink (mt_y μ).cls index C ∈ mt_w μ ∧ Cond.instantiable C N ∈ mt_w μ ∧ Cond.initialized C ∈ mt_w μ ∧
  (∀ k, k < N → parseFieldDescriptor (T k).2.2.1 = some (ty k)) ∧ (∀ j, j < N → defaultValue (ty j) = vp_V fs j)
theorem ev_new {index ci : Nat} {fs : List Value} (F : fa_new μ index ci fs) (hd : decode (mt_b μ) pc = .ok (.new index, 3)) (kk : ev_E G μ (pc + 3) lv (.ref h.1 :: st) (hp_add h fs.length (.inr (ci, fs))) Z) : ev_E G μ pc lv st h Z := by
  obtain ⟨C, T, N, ty, hc, hN, hin, hcl, hinst, hini, hty, hfs⟩ := F
  subst hN
  refine ev_step (h2 := hp_add h fs.length (.inr (ci, fs))) (Nat.le_succ _) (Nat.le_add_right _ _) (fun p e R s m args below meth c X H locs cells slots Q ls hO hS hl hc1 hs1 kk => ?_) kk
  obtain ⟨hx, hb, hml, hr, hown, hts, hlocks, hname, hK, hL, hbs, -, -, -⟩ := X
  have hKn := hK.1 ci _ hc
  have z1 : (hp_add h fs.length (.inr (ci, fs))).1 - h.1 = 1 := show h.1 + 1 - h.1 = 1 by omega
  have z2 : (hp_add h fs.length (.inr (ci, fs))).2.1 - h.2.1 = fs.length := show h.2.1 + fs.length - h.2.1 = fs.length by omega
  rw [z1] at hc1 kk
  rw [z2] at hs1 kk
  have hsz := hO.1
  have hSz := hS.1
  refine W.newcK hx hb hown (hts _ hcl) (hts _ hinst) (hts _ hini) rfl hd hc1 hs1 hKn.2.1 hO.1 (fun H1 kC hkC e1 zz o1 => ?_)
  exact kk H1 locs ls (hO.push (by omega) ⟨_, hc, (u_born ty hts hin hKn hkC e1 hty).to hfs⟩ (by omega) (fun q hq => o1 q (by omega))) ⟨by omega, fun x a1 a2 => (o1 x (by omega)).trans (hS.2.1 x a1 a2), hS.2.2⟩ hl
end FLD
end
section
section ARR
variable {G : gl_G} {μ : mt_M} {pc : Nat} {lv : List (Nat × Value)} {st : List Value} {h : hp_T} {Z : Option Value → hp_T → Prop}
/-- the array class of a type of numbers, by the globals -/
theorem gl_arr {s : State} {D : va_G} {cl : List vw_C} {tys : List (ClassId × FieldType)} (hK : va_K D cl tys s) {t0 : Nat} {cA cB : ClassId} {atype : ArrayType} (ht : tys[t0]? = some (cA, newarray.typeOf atype)) (hB : s.vm.findClass ("[" ++ (newarray.typeOf atype).toString) = some cB) : cB = cA := by
  have h2 := (hK.2 t0 _ ht).2
  have h3 : s.vm.findClass ("[" ++ (newarray.typeOf atype).toString) = some cA := by cases atype <;> exact h2
  exact Option.some.inj (hB.symm.trans h3)
theorem ev_newa {atype : ArrayType} {t0 N : Nat} {cA : ClassId} {n : Int32} {a0 : vp_A} (ha : ∀ cA : ClassId, vp_cell cA a0 = arrV cA N (fun _ => defaultValue (newarray.typeOf atype))) (hw : Cond.arrayClass (newarray.typeOf atype) ∈ mt_w μ) (ht : (gl_t G)[t0]? = some (cA, newarray.typeOf atype)) (hn : ¬ n < 0) (hN : n.toNatClampNeg = N) (hbytes : N * componentBytes (newarray.typeOf atype) ≤ 536870912)
    (hd : decode (mt_b μ) pc = .ok (.newarray atype, 2)) (kk : ev_E G μ (pc + 2) lv (.ref h.1 :: st) (hp_add h N (.inl (cA, a0))) Z) : ev_E G μ pc lv (.int n :: st) h Z := by
  refine ev_step (h2 := hp_add h N (.inl (cA, a0))) (Nat.le_succ _) (Nat.le_add_right _ _) (fun p e R s m args below meth c X H locs cells slots Q ls hO hS hl hc1 hs1 kk => ?_) kk
  obtain ⟨hx, hb, hml, hr, hown, hts, hlocks, hname, hK, hL, hbs, -, -, -⟩ := X
  have z1 : (hp_add h N (.inl (cA, a0))).1 - h.1 = 1 := show h.1 + 1 - h.1 = 1 by omega
  have z2 : (hp_add h N (.inl (cA, a0))).2.1 - h.2.1 = N := show h.2.1 + N - h.2.1 = N by omega
  rw [z1] at hc1 kk
  rw [z2] at hs1 kk
  have hsz := hO.1
  have hSz := hS.1
  refine va_newaK hx hb (hts _ hw) rfl hd rfl hn hN hbytes hc1 hs1 hO.1 (fun H1 cB e1 zz o1 _ hNm => ?_)
  have hAB := gl_arr hK ht hNm
  subst hAB
  refine kk H1 locs ls (hO.push (by omega) ?_ (by omega) (fun q hq => o1 q (by omega))) ⟨by omega, fun x a1 a2 => (o1 x (by omega)).trans (hS.2.1 x a1 a2), hS.2.2⟩ hl
  show H1[h.1]? = some (vp_cell cB a0)
  rw [ha]
  exact e1
theorem ev_alen {t0 a : Nat} {cA : ClassId} {x : vp_A} {ty : FieldType} (ht : (gl_t G)[t0]? = some (cA, ty)) (he : h.2.2 a = some (.inl (cA, x))) (hd : decode (mt_b μ) pc = .ok (.arraylength, 1)) (kk : ev_E G μ (pc + 1) lv (.int (nI x.1) :: st) h Z) : ev_E G μ pc lv (.ref a :: st) h Z :=
  ev_pure (fun _ _ _ _ _ _ _ _ _ X _ _ _ _ _ ls hO _ hl k => va_alen X.1 X.2.1 X.2.2.2.2.2.2.2.2.1 (hO.one he) 0 t0 rfl ht rfl hd (k ls hl)) kk
theorem ev_iald {t0 a n : Nat} {cA : ClassId} {f : Nat → Int32} {i : Int32} (ht : (gl_t G)[t0]? = some (cA, .int)) (he : h.2.2 a = some (.inl (cA, n, .inl f))) (hi : vp_in i n) (hd : decode (mt_b μ) pc = .ok (.iaload, 1)) (kk : ev_E G μ (pc + 1) lv (.int (f i.toNatClampNeg) :: st) h Z) : ev_E G μ pc lv (.int i :: .ref a :: st) h Z :=
  ev_pure (fun _ _ _ _ _ _ _ _ _ X _ _ _ _ _ ls hO _ hl k => va_iald X.1 X.2.1 X.2.2.2.2.2.2.2.2.1 (hO.one he) 0 t0 rfl ht hi hd (k ls hl)) kk
theorem ev_zald {t0 a n : Nat} {cA : ClassId} {f : Nat → Int32} {i : Int32} (ht : (gl_t G)[t0]? = some (cA, .boolean)) (he : h.2.2 a = some (.inl (cA, n, .inl f))) (hi : vp_in i n) (hd : decode (mt_b μ) pc = .ok (.baload, 1)) (kk : ev_E G μ (pc + 1) lv (.int (f i.toNatClampNeg) :: st) h Z) : ev_E G μ pc lv (.int i :: .ref a :: st) h Z :=
  ev_pure (fun _ _ _ _ _ _ _ _ _ X _ _ _ _ _ ls hO _ hl k => va_zald X.1 X.2.1 X.2.2.2.2.2.2.2.2.1 (hO.one he) 0 t0 rfl ht hi hd (k ls hl)) kk
theorem ev_lald {t0 a n : Nat} {cA : ClassId} {f : Nat → Int64} {i : Int32} (ht : (gl_t G)[t0]? = some (cA, .long)) (he : h.2.2 a = some (.inl (cA, n, .inr (.inl f)))) (hi : vp_in i n) (hd : decode (mt_b μ) pc = .ok (.laload, 1)) (kk : ev_E G μ (pc + 1) lv (.long (f i.toNatClampNeg) :: st) h Z) : ev_E G μ pc lv (.int i :: .ref a :: st) h Z :=
  ev_pure (fun _ _ _ _ _ _ _ _ _ X _ _ _ _ _ ls hO _ hl k => va_lald X.1 X.2.1 X.2.2.2.2.2.2.2.2.1 (hO.one he) 0 t0 rfl ht hi hd (k ls hl)) kk
/-- a store, by the array that it leaves -/
theorem ev_iast {t0 a n : Nat} {cA : ClassId} {f : Nat → Int32} {i x : Int32} (ht : (gl_t G)[t0]? = some (cA, .int)) (he : h.2.2 a = some (.inl (cA, n, .inl f))) (hi : vp_in i n) (hd : decode (mt_b μ) pc = .ok (.iastore, 1)) (kk : ev_E G μ (pc + 1) lv st (hp_up h a (.inl (cA, n, .inl (upd f i.toNatClampNeg x)))) Z) : ev_E G μ pc lv (.int x :: .int i :: .ref a :: st) h Z := by
  refine ev_step (h2 := hp_up h a (.inl (cA, n, .inl (upd f i.toNatClampNeg x)))) (Nat.le_refl _) (Nat.le_refl _) (fun p e R s m args below meth c X H locs cells slots Q ls hO hS hl _ _ kk => ?_) kk
  obtain ⟨hx, hb, hml, hr, hown, hts, hlocks, hname, hK, hL, hbs, -, -, -⟩ := X
  obtain ⟨hat, hba⟩ := hO.2 a _ he
  refine W.iast hx hb hat ((hK.2 t0 _ ht).1 n (fun j => .int (f j))) (fun q => by cases q) (by show ¬ (i < 0 ∨ (arrV _ _ _).slots.size ≤ _); rw [arrV_size]; exact hi) rfl rfl hd fun H1 e z oq => ?_
  refine W.cs (show cells = cells + (h.1 - h.1) by omega) (show slots = slots + (h.2.1 - h.2.1) by omega) ?_
  refine kk H1 _ ls (hO.set hba ?_ z oq) (hS.put z oq hba) hl
  show H1[a]? = some (vp_cell _ _)
  rw [e]
  rw [vp_cell_i, vp_cell_i, arrV_store]
  congr 2
  funext q
  by_cases hq : q = i.toNatClampNeg
  · subst hq
    simp [updV, upd]
  · simp [updV, upd, hq]
theorem ev_zast {t0 a n : Nat} {cA : ClassId} {f : Nat → Int32} {i x : Int32} (ht : (gl_t G)[t0]? = some (cA, .boolean)) (he : h.2.2 a = some (.inl (cA, n, .inl f))) (hi : vp_in i n) (hd : decode (mt_b μ) pc = .ok (.bastore, 1)) (kk : ev_E G μ (pc + 1) lv st (hp_up h a (.inl (cA, n, .inl (upd f i.toNatClampNeg (vp_nar .boolean x))))) Z) : ev_E G μ pc lv (.int x :: .int i :: .ref a :: st) h Z := by
  refine ev_step (h2 := hp_up h a (.inl (cA, n, .inl (upd f i.toNatClampNeg (vp_nar .boolean x))))) (Nat.le_refl _) (Nat.le_refl _) (fun p e R s m args below meth c X H locs cells slots Q ls hO hS hl _ _ kk => ?_) kk
  obtain ⟨hx, hb, hml, hr, hown, hts, hlocks, hname, hK, hL, hbs, -, -, -⟩ := X
  obtain ⟨hat, hba⟩ := hO.2 a _ he
  refine W.zast hx hb hat ((hK.2 t0 _ ht).1 n (fun j => .int (f j))) (fun q => by cases q) (by show ¬ (i < 0 ∨ (arrV _ _ _).slots.size ≤ _); rw [arrV_size]; exact hi) rfl rfl hd fun H1 e z oq => ?_
  refine W.cs (show cells = cells + (h.1 - h.1) by omega) (show slots = slots + (h.2.1 - h.2.1) by omega) ?_
  refine kk H1 _ ls (hO.set hba ?_ z oq) (hS.put z oq hba) hl
  show H1[a]? = some (vp_cell _ _)
  rw [e]
  rw [vp_cell_i, vp_cell_i, arrV_store]
  congr 2
  funext q
  by_cases hq : q = i.toNatClampNeg
  · subst hq
    simp [updV, upd, vp_nar]
    try rfl
  · simp [updV, upd, hq]
end ARR
end
section
section CALL
/-- behind a call that comes back with o and h' -/
theorem wr_call {p : Program} {l : Launch} {e : Env} {R : Room} {s : State} {m : MethodId} {args : Array Value} {below : List Frame} {meth : Method} {c : Code} {H : Heap} {locs : List Loc} {cells slots mc ms : Nat} {Q : State → Prop} {G : gl_G} {pc : Nat} {ls : Array Slot} {st0 rest : List Value} {o : Option Value} {h' : hp_T} {a : Array Value}
    (hr : va_Run p l e R s m args below meth c H locs cells slots mc ms (F0 m pc ls st0) rest (ct_Q G o h' a) (gl_A G)) (hS : va_S (gl_A G) s.heap H locs)
    (kk : ∀ (H1 : Heap) (locs1 : List Loc), hp_ok G h' H1 → va_S (gl_A G) s.heap H1 locs1 → W p l e R s m args below meth c H1 locs1 (cells + mc) (slots + ms) Q (F0 m (pc + 3) ls (o.toList ++ rest))) : W p l e R s m args below meth c H locs cells slots Q (F0 m pc ls st0) := by
  intro T hT X
  obtain ⟨v, st₀, t, T', L, h0, X', hL, e1, e2, ⟨hv, hO, hz, hk⟩, st⟩ := hr T hT X
  cases hv
  rw [h0] at hz hk
  obtain ⟨t2, a1, b1⟩ := kk T'.heap (locs ++ L) (by rw [e1]; exact hO) ⟨Nat.le_trans hS.1 (by rw [e1]; exact hz), fun q h1 h2 => by rw [e1, hk q (Nat.lt_of_lt_of_le h1 hS.1) h2]; exact hS.2.1 q h1 h2, fun q hq => by
    rcases List.mem_append.mp hq with z | z
    · exact hS.2.2 q z
    · exact hL q z⟩ T' rfl X'
  exact ⟨t2, st t2 a1, b1⟩
theorem ct_blind {G : gl_G} (hG : gl_ok G) (av : List Value) (h : hp_T) : FrameBlind (ct_P G av h) := fun a U g mk q => by
  obtain ⟨q0, qO, qb, qK, qL⟩ := q
  exact ⟨q0, qO, qb, va_K.moved (u := U) (U := U.calling g mk a) (Vm.Alike.refl U.vm) qK, hG U (U.calling g mk a) (State.WarmedH.refl U) (fun _ _ _ => rfl) qL⟩
theorem ct_here {G : gl_G} {μ : mt_M} {p : Program} {R : Room} {s : State} {m : MethodId} {args : Array Value} {meth : Method} {c : Code} (X : cx_ok G μ p R s m args meth c) {H : Heap} {locs : List Loc} {h : hp_T} (hO : hp_ok G h H) (hS : va_S (gl_A G) s.heap H locs) (av : List Value) : ∀ U : State, U.heap = H → s.WarmedH U.vm → ct_P G av h av.toArray U := by
  intro U hU hW
  obtain ⟨hx, hb, hml, hr, hown, hts, hlocks, hname, hK, hL, hbs, -, -, hG⟩ := X
  exact ⟨rfl, by rw [hU]; exact hO, by rw [hU]; exact Nat.le_trans hbs hS.1, va_K.moved hW.alike hK, hG s U hW (fun q h1 h2 => by rw [hU]; exact hS.2.1 q h1 h2) hL⟩
/-- what a caller's words and room must say of its callee -/
def ca_ok (μ ν : mt_M) (n : Nat) : Prop := (∃ ws', mt_w ν = Cond.code (mt_y ν) (mt_b ν) (mt_n ν) (mt_r ν) :: ws') ∧ ((mt_y ν).cls ≠ "java/lang/invoke/MethodHandle" ∧ (mt_y ν).cls ≠ "java/lang/invoke/VarHandle" ∧ (parseMethodDescriptor (mt_y ν).desc).map (fun d => d.parameters.length) = some n) ∧ (mt_f ν + 1 ≤ mt_f μ ∧ 8 + (mt_n ν + 11) + mt_l ν ≤ mt_l μ)
def ca_V (μ ν : mt_M) (index n : Nat) : Prop := GoodIn (mt_w μ) (wsV (mt_y μ).cls index (mt_y ν).cls (mt_y ν) (mt_w ν)) ∧ ca_ok μ ν n
def ca_S (μ ν : mt_M) (index n : Nat) : Prop := GoodIn (mt_w μ) (va_wsS (mt_y μ).cls index (mt_y ν) (mt_w ν)) ∧ ca_ok μ ν n
def ca_I (μ ν : mt_M) (index n : Nat) : Prop := GoodIn (mt_w μ) (mt_w ν) ∧ ca_ok μ ν n ∧ mt_r ν = none ∧ (mt_y ν).name = "<init>" ∧ Cond.initialized (mt_y ν).cls ∈ mt_w μ ∧ Cond.methodLink (mt_y μ).cls index (mt_y ν) ∈ mt_w μ ∧ Cond.instanceMethod (mt_y ν) ∈ mt_w μ
variable {G : gl_G} {μ ν : mt_M} {pc : Nat} {lv : List (Nat × Value)} {rest As : List Value} {h : hp_T} {Z Z1 : Option Value → hp_T → Prop} {index n : Nat}
theorem ev_callV {b ci : Nat} {fs : List Value} {T : u_T} {N : Nat} (F : ca_V μ ν index n) (hd : decode (mt_b μ) pc = .ok (.invokevirtual index, 3)) (hc : vwCl[ci]? = some ((mt_y ν).cls, T, N)) (he : h.2.2 b = some (.inr (ci, fs))) (hn : As.length = n) (hroom : (rest.map fun v => v.category).sum ≤ 8) (hM : ct_E G ν (.ref b :: As) h Z1) (kk : ∀ o h1, Z1 o h1 → ev_E G μ (pc + 3) lv (o.toList ++ rest) h1 Z) : ev_E G μ pc lv (As.reverse ++ .ref b :: rest) h Z := by
  obtain ⟨o1, h1, z1, le1, le2, M⟩ := hM
  obtain ⟨hgood, ⟨ws', hw⟩, hdd, hR⟩ := F
  refine ev_step (h2 := h1) le1 le2 (fun p e R s m args below meth c X H locs cells slots Q ls hO hS hl hc1 hs1 k => ?_) (kk o1 h1 z1)
  have X' := X
  obtain ⟨hx, hb, hml, hr, hown, hts, hlocks, hname, hK, hL, hbs, hRf, hRl, hG⟩ := X
  rw [← hRf, ← hRl] at hR
  refine wr_call (va_runV (As := As) (rest := rest) (Ts := mt_w μ) ⟨hx, hb, hml, hown, hts⟩ (M hG) (cwV n hts hgood hw rfl rfl ⟨rfl, hdd⟩ hR) ⟨ct_blind hG _ _, va_recv hK (hO.one he) hc (q0 := 0) rfl, ct_here X' hO hS (.ref b :: As)⟩ rfl hn hl.1 rfl (lv_room hroom) hd ⟨hc1, hs1⟩) hS (fun H1 locs1 hO1 hS1 => ?_)
  exact k H1 locs1 ls hO1 hS1 hl
theorem ev_callS (F : ca_S μ ν index n) (hd : decode (mt_b μ) pc = .ok (.invokestatic index, 3)) (hn : As.length = n) (hroom : (rest.map fun v => v.category).sum ≤ 8) (hM : ct_E G ν As h Z1) (kk : ∀ o h1, Z1 o h1 → ev_E G μ (pc + 3) lv (o.toList ++ rest) h1 Z) : ev_E G μ pc lv (As.reverse ++ rest) h Z := by
  obtain ⟨o1, h1, z1, le1, le2, M⟩ := hM
  obtain ⟨hgood, ⟨ws', hw⟩, hdd, hR⟩ := F
  refine ev_step (h2 := h1) le1 le2 (fun p e R s m args below meth c X H locs cells slots Q ls hO hS hl hc1 hs1 k => ?_) (kk o1 h1 z1)
  have X' := X
  obtain ⟨hx, hb, hml, hr, hown, hts, hlocks, hname, hK, hL, hbs, hRf, hRl, hG⟩ := X
  rw [← hRf, ← hRl] at hR
  refine wr_call (va_runS (As := As) (rest := rest) (Ts := mt_w μ) ⟨hx, hb, hml, hown, hts⟩ (M hG) (va_cwS n hts hgood hw rfl rfl hdd hR) ⟨ct_blind hG _ _, ct_here X' hO hS As⟩ rfl hn hl.1 rfl (lv_room hroom) hd ⟨hc1, hs1⟩) hS (fun H1 locs1 hO1 hS1 => ?_)
  exact k H1 locs1 ls hO1 hS1 hl
/-- a private static of a nest mate -/
theorem ev_callSN {host : String} (hN : ∀ U : State, gl_L G U → va_Nw (.methodLinkNest (mt_y μ).cls index (mt_y ν) host) U) (hgood : GoodIn (mt_w μ) (mt_w ν)) (F : ca_ok μ ν n) (hini : Cond.initialized (mt_y ν).cls ∈ mt_w μ) (hstt : Cond.static (mt_y ν) ∈ mt_w μ) (hd : decode (mt_b μ) pc = .ok (.invokestatic index, 3)) (hn : As.length = n) (hroom : (rest.map fun v => v.category).sum ≤ 8) (hM : ct_E G ν As h Z1) (kk : ∀ o h1, Z1 o h1 → ev_E G μ (pc + 3) lv (o.toList ++ rest) h1 Z) : ev_E G μ pc lv (As.reverse ++ rest) h Z := by
  obtain ⟨o1, h1, z1, le1, le2, M⟩ := hM
  obtain ⟨⟨ws', hw⟩, hdd, hR⟩ := F
  refine ev_step (h2 := h1) le1 le2 (fun p e R s m args below meth c X H locs cells slots Q ls hO hS hl hc1 hs1 k => ?_) (kk o1 h1 z1)
  have X' := X
  obtain ⟨hx, hb, hml, hr, hown, hts, hlocks, hname, hK, hL, hbs, hRf, hRl, hG⟩ := X
  rw [← hRf, ← hRl] at hR
  refine wr_call (va_runSN (As := As) (rest := rest) (Ts := mt_w μ) ⟨hx, hb, hml, hown, hts⟩ (M hG) ⟨va_cnB n hts hgood hw rfl rfl (hN s hL) (hts _ hini) hdd hR, hts _ hstt, trivial⟩ ⟨ct_blind hG _ _, ct_here X' hO hS As⟩ rfl hn hl.1 rfl (lv_room hroom) hd ⟨hc1, hs1⟩) hS (fun H1 locs1 hO1 hS1 => ?_)
  exact k H1 locs1 ls hO1 hS1 hl
theorem ev_callI {b : Nat} (F : ca_I μ ν index n) (hd : decode (mt_b μ) pc = .ok (.invokespecial index, 3)) (hn : As.length = n) (hroom : (rest.map fun v => v.category).sum ≤ 8) (hM : ct_E G ν (.ref b :: As) h Z1) (kk : ∀ o h1, Z1 o h1 → ev_E G μ (pc + 3) lv (o.toList ++ rest) h1 Z) : ev_E G μ pc lv (As.reverse ++ .ref b :: rest) h Z := by
  obtain ⟨o1, h1, z1, le1, le2, M⟩ := hM
  obtain ⟨hgood, ⟨⟨ws', hw⟩, hdd, hR⟩, hr0, hnm, hini, hlink, hinst⟩ := F
  rw [hr0] at hw
  refine ev_step (h2 := h1) le1 le2 (fun p e R s m args below meth c X H locs cells slots Q ls hO hS hl hc1 hs1 k => ?_) (kk o1 h1 z1)
  have X' := X
  obtain ⟨hx, hb, hml, hr, hown, hts, hlocks, hname, hK, hL, hbs, hRf, hRl, hG⟩ := X
  rw [← hRf, ← hRl] at hR
  refine wr_call (va_runI (As := As) (rest := rest) (Ts := mt_w μ) ⟨hx, hb, hml, hown, hts⟩ (M hG) (cwI n hts hgood hw rfl rfl (hts _ hini) (hts _ hlink) (hts _ hinst) hnm hdd hR) ⟨ct_blind hG _ _, ct_here X' hO hS (.ref b :: As)⟩ rfl hn hl.1 rfl (lv_room hroom) hd ⟨hc1, hs1⟩) hS (fun H1 locs1 hO1 hS1 => ?_)
  exact k H1 locs1 ls hO1 hS1 hl
/-- Object's constructor -/
theorem ev_objInit {a : Nat} (hlink : Cond.methodLink (mt_y μ).cls index objectInit ∈ mt_w μ) (hinst : Cond.instanceMethod objectInit ∈ mt_w μ) (hcode : Cond.code objectInit ⟨#[0xb1]⟩ 1 none ∈ mt_w μ) (hf : 1 ≤ mt_f μ) (hlo : (rest.map fun v => v.category).sum + 12 ≤ mt_l μ) (hd : decode (mt_b μ) pc = .ok (.invokespecial index, 3)) (kk : ev_E G μ (pc + 3) lv rest h Z) : ev_E G μ pc lv (.ref a :: rest) h Z := by
  refine ev_pure (fun p e R s m args below meth c X H locs cells slots Q ls hO hS hl k => ?_) kk
  obtain ⟨hx, hb, hml, hr, hown, hts, hlocks, hname, hK, hL, hbs, hRf, hRl, hG⟩ := X
  refine W.objInit hx hb hown (hts _ hlink) (hts _ hinst) (hts _ hcode) rfl (by rw [hml]; exact hl.1) rfl hd (by rw [hRf]; exact hf) (by rw [hRl]; show 2 * 0 + _ + 12 ≤ _; omega) ?_
  exact W.eq (g2 := F0 m (pc + 3) ls rest) rfl (k ls hl)
end CALL
end
