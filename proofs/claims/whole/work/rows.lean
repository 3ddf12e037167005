section
-- ===== PART A: goes FIRST, ahead of the names: the tables' words, and 'selects' of the private methods out of them =====
/-- a private method of a class that the tables say can be made, by its rows of tables_1 -/
def lw_okq (q : MethodName × Nat) : Prop := (q.1.cls ≠ "java/lang/invoke/MethodHandle" ∧ q.1.cls ≠ "java/lang/invoke/VarHandle") ∧ Cond.instantiable q.1.cls q.2 ∈ tables_1 ∧ Cond.privateMethod q.1 ∈ tables_1 ∧ Cond.instanceMethod q.1 ∈ tables_1
theorem lw_p0 : lw_okq (⟨"MailHeads$Head", "takeLine", "(LMailHeads$Row;II)Z"⟩, 3) := ⟨⟨by decide +kernel, by decide +kernel⟩, List.mem_of_getElem? (i := 46) (by decide +kernel), List.mem_of_getElem? (i := 284) (by decide +kernel), List.mem_of_getElem? (i := 285) (by decide +kernel)⟩
theorem lw_p1 : lw_okq (⟨"MailHeads$Head", "takeFolded", "(LMailHeads$Row;II)V"⟩, 3) := ⟨⟨by decide +kernel, by decide +kernel⟩, List.mem_of_getElem? (i := 46) (by decide +kernel), List.mem_of_getElem? (i := 291) (by decide +kernel), List.mem_of_getElem? (i := 292) (by decide +kernel)⟩
theorem lw_p2 : lw_okq (⟨"MailHeads$Head", "putBytes", "(LMailHeads$Row;II)V"⟩, 3) := ⟨⟨by decide +kernel, by decide +kernel⟩, List.mem_of_getElem? (i := 46) (by decide +kernel), List.mem_of_getElem? (i := 295) (by decide +kernel), List.mem_of_getElem? (i := 296) (by decide +kernel)⟩
theorem lw_p3 : lw_okq (⟨"MailHeads$Head", "closeValue", "()V"⟩, 3) := ⟨⟨by decide +kernel, by decide +kernel⟩, List.mem_of_getElem? (i := 46) (by decide +kernel), List.mem_of_getElem? (i := 309) (by decide +kernel), List.mem_of_getElem? (i := 310) (by decide +kernel)⟩
theorem lw_p4 : lw_okq (⟨"MailHeads", "textsFor", "(I)LMailHeads$Texts;"⟩, 9) := ⟨⟨by decide +kernel, by decide +kernel⟩, List.mem_of_getElem? (i := 24) (by decide +kernel), List.mem_of_getElem? (i := 400) (by decide +kernel), List.mem_of_getElem? (i := 401) (by decide +kernel)⟩
theorem lw_p5 : lw_okq (⟨"MailHeads", "textFor", "(II)I"⟩, 9) := ⟨⟨by decide +kernel, by decide +kernel⟩, List.mem_of_getElem? (i := 24) (by decide +kernel), List.mem_of_getElem? (i := 416) (by decide +kernel), List.mem_of_getElem? (i := 417) (by decide +kernel)⟩
theorem lw_p6 : lw_okq (⟨"MailHeads$ContentType", "firstOf", "(LMailHeads$Row;I)I"⟩, 7) := ⟨⟨by decide +kernel, by decide +kernel⟩, List.mem_of_getElem? (i := 185) (by decide +kernel), List.mem_of_getElem? (i := 442) (by decide +kernel), List.mem_of_getElem? (i := 443) (by decide +kernel)⟩
theorem lw_p7 : lw_okq (⟨"MailHeads$ContentType", "putCharset", "(I)I"⟩, 7) := ⟨⟨by decide +kernel, by decide +kernel⟩, List.mem_of_getElem? (i := 185) (by decide +kernel), List.mem_of_getElem? (i := 449) (by decide +kernel), List.mem_of_getElem? (i := 450) (by decide +kernel)⟩
theorem lw_p8 : lw_okq (⟨"MailHeads$ContentType", "quoteFrom", "(II)I"⟩, 7) := ⟨⟨by decide +kernel, by decide +kernel⟩, List.mem_of_getElem? (i := 185) (by decide +kernel), List.mem_of_getElem? (i := 453) (by decide +kernel), List.mem_of_getElem? (i := 454) (by decide +kernel)⟩
theorem lw_p9 : lw_okq (⟨"MailHeads$ContentType", "putBytes", "(II)V"⟩, 7) := ⟨⟨by decide +kernel, by decide +kernel⟩, List.mem_of_getElem? (i := 185) (by decide +kernel), List.mem_of_getElem? (i := 464) (by decide +kernel), List.mem_of_getElem? (i := 465) (by decide +kernel)⟩
theorem lw_p10 : lw_okq (⟨"MailHeads$ContentType", "hexadecimal", "(II)I"⟩, 7) := ⟨⟨by decide +kernel, by decide +kernel⟩, List.mem_of_getElem? (i := 185) (by decide +kernel), List.mem_of_getElem? (i := 468) (by decide +kernel), List.mem_of_getElem? (i := 469) (by decide +kernel)⟩
theorem lw_p11 : lw_okq (⟨"MailHeads", "valueOf", "(I)I"⟩, 9) := ⟨⟨by decide +kernel, by decide +kernel⟩, List.mem_of_getElem? (i := 24) (by decide +kernel), List.mem_of_getElem? (i := 496) (by decide +kernel), List.mem_of_getElem? (i := 497) (by decide +kernel)⟩
theorem lw_p12 : lw_okq (⟨"java/lang/Throwable", "fillInStackTrace", "(I)Ljava/lang/Throwable;"⟩, 6) := ⟨⟨by decide +kernel, by decide +kernel⟩, List.mem_of_getElem? (i := 536) (by decide +kernel), List.mem_of_getElem? (i := 534) (by decide +kernel), List.mem_of_getElem? (i := 535) (by decide +kernel)⟩
theorem lw_p13 : lw_okq (⟨"MailHeads$Words", "cutWord", "(IIZ)I"⟩, 5) := ⟨⟨by decide +kernel, by decide +kernel⟩, List.mem_of_getElem? (i := 97) (by decide +kernel), List.mem_of_getElem? (i := 573) (by decide +kernel), List.mem_of_getElem? (i := 574) (by decide +kernel)⟩
theorem lw_p14 : lw_okq (⟨"MailHeads$Words", "cutComment", "(IIZ)I"⟩, 5) := ⟨⟨by decide +kernel, by decide +kernel⟩, List.mem_of_getElem? (i := 97) (by decide +kernel), List.mem_of_getElem? (i := 581) (by decide +kernel), List.mem_of_getElem? (i := 582) (by decide +kernel)⟩
theorem lw_p15 : lw_okq (⟨"MailHeads$Words", "putWithin", "(II)V"⟩, 5) := ⟨⟨by decide +kernel, by decide +kernel⟩, List.mem_of_getElem? (i := 97) (by decide +kernel), List.mem_of_getElem? (i := 585) (by decide +kernel), List.mem_of_getElem? (i := 586) (by decide +kernel)⟩
def lw_privs_1 : List (MethodName × Nat) := [(⟨"MailHeads$Head", "takeLine", "(LMailHeads$Row;II)Z"⟩, 3), (⟨"MailHeads$Head", "takeFolded", "(LMailHeads$Row;II)V"⟩, 3), (⟨"MailHeads$Head", "putBytes", "(LMailHeads$Row;II)V"⟩, 3), (⟨"MailHeads$Head", "closeValue", "()V"⟩, 3), (⟨"MailHeads", "textsFor", "(I)LMailHeads$Texts;"⟩, 9), (⟨"MailHeads", "textFor", "(II)I"⟩, 9), (⟨"MailHeads$ContentType", "firstOf", "(LMailHeads$Row;I)I"⟩, 7), (⟨"MailHeads$ContentType", "putCharset", "(I)I"⟩, 7), (⟨"MailHeads$ContentType", "quoteFrom", "(II)I"⟩, 7), (⟨"MailHeads$ContentType", "putBytes", "(II)V"⟩, 7), (⟨"MailHeads$ContentType", "hexadecimal", "(II)I"⟩, 7), (⟨"MailHeads", "valueOf", "(I)I"⟩, 9), (⟨"java/lang/Throwable", "fillInStackTrace", "(I)Ljava/lang/Throwable;"⟩, 6), (⟨"MailHeads$Words", "cutWord", "(IIZ)I"⟩, 5), (⟨"MailHeads$Words", "cutComment", "(IIZ)I"⟩, 5), (⟨"MailHeads$Words", "putWithin", "(II)V"⟩, 5)]
theorem lw_r1 : ∀ q ∈ lw_privs_1, lw_okq q := List.forall_mem_cons.mpr ⟨lw_p0, List.forall_mem_cons.mpr ⟨lw_p1, List.forall_mem_cons.mpr ⟨lw_p2, List.forall_mem_cons.mpr ⟨lw_p3, List.forall_mem_cons.mpr ⟨lw_p4, List.forall_mem_cons.mpr ⟨lw_p5, List.forall_mem_cons.mpr ⟨lw_p6, List.forall_mem_cons.mpr ⟨lw_p7, List.forall_mem_cons.mpr ⟨lw_p8, List.forall_mem_cons.mpr ⟨lw_p9, List.forall_mem_cons.mpr ⟨lw_p10, List.forall_mem_cons.mpr ⟨lw_p11, List.forall_mem_cons.mpr ⟨lw_p12, List.forall_mem_cons.mpr ⟨lw_p13, List.forall_mem_cons.mpr ⟨lw_p14, List.forall_mem_cons.mpr ⟨lw_p15, fun _ h => absurd h List.not_mem_nil⟩⟩⟩⟩⟩⟩⟩⟩⟩⟩⟩⟩⟩⟩⟩⟩
theorem lw_p16 : lw_okq (⟨"MailHeads$Words", "close", "(I)V"⟩, 5) := ⟨⟨by decide +kernel, by decide +kernel⟩, List.mem_of_getElem? (i := 97) (by decide +kernel), List.mem_of_getElem? (i := 590) (by decide +kernel), List.mem_of_getElem? (i := 591) (by decide +kernel)⟩
theorem lw_p17 : lw_okq (⟨"MailHeads$Words", "cutEnclosed", "(IIII)I"⟩, 5) := ⟨⟨by decide +kernel, by decide +kernel⟩, List.mem_of_getElem? (i := 97) (by decide +kernel), List.mem_of_getElem? (i := 600) (by decide +kernel), List.mem_of_getElem? (i := 601) (by decide +kernel)⟩
theorem lw_p18 : lw_okq (⟨"MailHeads$Words", "isSign", "(I)Z"⟩, 5) := ⟨⟨by decide +kernel, by decide +kernel⟩, List.mem_of_getElem? (i := 97) (by decide +kernel), List.mem_of_getElem? (i := 604) (by decide +kernel), List.mem_of_getElem? (i := 605) (by decide +kernel)⟩
theorem lw_p19 : lw_okq (⟨"MailHeads$Words", "cutAtom", "(II)I"⟩, 5) := ⟨⟨by decide +kernel, by decide +kernel⟩, List.mem_of_getElem? (i := 97) (by decide +kernel), List.mem_of_getElem? (i := 692) (by decide +kernel), List.mem_of_getElem? (i := 693) (by decide +kernel)⟩
theorem lw_p20 : lw_okq (⟨"MailHeads$Addresses", "beginGathering", "()V"⟩, 8) := ⟨⟨by decide +kernel, by decide +kernel⟩, List.mem_of_getElem? (i := 125) (by decide +kernel), List.mem_of_getElem? (i := 703) (by decide +kernel), List.mem_of_getElem? (i := 704) (by decide +kernel)⟩
theorem lw_p21 : lw_okq (⟨"MailHeads$Addresses", "takeGathered", "(I)V"⟩, 8) := ⟨⟨by decide +kernel, by decide +kernel⟩, List.mem_of_getElem? (i := 125) (by decide +kernel), List.mem_of_getElem? (i := 711) (by decide +kernel), List.mem_of_getElem? (i := 712) (by decide +kernel)⟩
theorem lw_p22 : lw_okq (⟨"MailHeads$Addresses", "takeColon", "()V"⟩, 8) := ⟨⟨by decide +kernel, by decide +kernel⟩, List.mem_of_getElem? (i := 125) (by decide +kernel), List.mem_of_getElem? (i := 715) (by decide +kernel), List.mem_of_getElem? (i := 716) (by decide +kernel)⟩
theorem lw_p23 : lw_okq (⟨"MailHeads$Addresses", "isName", "(I)Z"⟩, 8) := ⟨⟨by decide +kernel, by decide +kernel⟩, List.mem_of_getElem? (i := 125) (by decide +kernel), List.mem_of_getElem? (i := 720) (by decide +kernel), List.mem_of_getElem? (i := 721) (by decide +kernel)⟩
theorem lw_p24 : lw_okq (⟨"MailHeads$Addresses", "kindAt", "(I)I"⟩, 8) := ⟨⟨by decide +kernel, by decide +kernel⟩, List.mem_of_getElem? (i := 125) (by decide +kernel), List.mem_of_getElem? (i := 724) (by decide +kernel), List.mem_of_getElem? (i := 725) (by decide +kernel)⟩
theorem lw_p25 : lw_okq (⟨"MailHeads$Addresses", "putName", "(LMailHeads$Texts;I)V"⟩, 8) := ⟨⟨by decide +kernel, by decide +kernel⟩, List.mem_of_getElem? (i := 125) (by decide +kernel), List.mem_of_getElem? (i := 728) (by decide +kernel), List.mem_of_getElem? (i := 729) (by decide +kernel)⟩
theorem lw_p26 : lw_okq (⟨"MailHeads$Addresses", "takeMailbox", "()Z"⟩, 8) := ⟨⟨by decide +kernel, by decide +kernel⟩, List.mem_of_getElem? (i := 125) (by decide +kernel), List.mem_of_getElem? (i := 742) (by decide +kernel), List.mem_of_getElem? (i := 743) (by decide +kernel)⟩
theorem lw_p27 : lw_okq (⟨"MailHeads$Addresses", "firstOpen", "()I"⟩, 8) := ⟨⟨by decide +kernel, by decide +kernel⟩, List.mem_of_getElem? (i := 125) (by decide +kernel), List.mem_of_getElem? (i := 746) (by decide +kernel), List.mem_of_getElem? (i := 747) (by decide +kernel)⟩
theorem lw_p28 : lw_okq (⟨"MailHeads$Addresses", "behindRoute", "(II)I"⟩, 8) := ⟨⟨by decide +kernel, by decide +kernel⟩, List.mem_of_getElem? (i := 125) (by decide +kernel), List.mem_of_getElem? (i := 750) (by decide +kernel), List.mem_of_getElem? (i := 751) (by decide +kernel)⟩
theorem lw_p29 : lw_okq (⟨"MailHeads$Addresses", "dottedEnd", "(IIZ)I"⟩, 8) := ⟨⟨by decide +kernel, by decide +kernel⟩, List.mem_of_getElem? (i := 125) (by decide +kernel), List.mem_of_getElem? (i := 754) (by decide +kernel), List.mem_of_getElem? (i := 755) (by decide +kernel)⟩
theorem lw_p30 : lw_okq (⟨"MailHeads$Addresses", "isDomainBehind", "(II)Z"⟩, 8) := ⟨⟨by decide +kernel, by decide +kernel⟩, List.mem_of_getElem? (i := 125) (by decide +kernel), List.mem_of_getElem? (i := 758) (by decide +kernel), List.mem_of_getElem? (i := 759) (by decide +kernel)⟩
theorem lw_p31 : lw_okq (⟨"MailHeads$Addresses", "putWords", "(II)V"⟩, 8) := ⟨⟨by decide +kernel, by decide +kernel⟩, List.mem_of_getElem? (i := 125) (by decide +kernel), List.mem_of_getElem? (i := 762) (by decide +kernel), List.mem_of_getElem? (i := 763) (by decide +kernel)⟩
def lw_privs_2 : List (MethodName × Nat) := [(⟨"MailHeads$Words", "close", "(I)V"⟩, 5), (⟨"MailHeads$Words", "cutEnclosed", "(IIII)I"⟩, 5), (⟨"MailHeads$Words", "isSign", "(I)Z"⟩, 5), (⟨"MailHeads$Words", "cutAtom", "(II)I"⟩, 5), (⟨"MailHeads$Addresses", "beginGathering", "()V"⟩, 8), (⟨"MailHeads$Addresses", "takeGathered", "(I)V"⟩, 8), (⟨"MailHeads$Addresses", "takeColon", "()V"⟩, 8), (⟨"MailHeads$Addresses", "isName", "(I)Z"⟩, 8), (⟨"MailHeads$Addresses", "kindAt", "(I)I"⟩, 8), (⟨"MailHeads$Addresses", "putName", "(LMailHeads$Texts;I)V"⟩, 8), (⟨"MailHeads$Addresses", "takeMailbox", "()Z"⟩, 8), (⟨"MailHeads$Addresses", "firstOpen", "()I"⟩, 8), (⟨"MailHeads$Addresses", "behindRoute", "(II)I"⟩, 8), (⟨"MailHeads$Addresses", "dottedEnd", "(IIZ)I"⟩, 8), (⟨"MailHeads$Addresses", "isDomainBehind", "(II)Z"⟩, 8), (⟨"MailHeads$Addresses", "putWords", "(II)V"⟩, 8)]
theorem lw_r2 : ∀ q ∈ lw_privs_2, lw_okq q := List.forall_mem_cons.mpr ⟨lw_p16, List.forall_mem_cons.mpr ⟨lw_p17, List.forall_mem_cons.mpr ⟨lw_p18, List.forall_mem_cons.mpr ⟨lw_p19, List.forall_mem_cons.mpr ⟨lw_p20, List.forall_mem_cons.mpr ⟨lw_p21, List.forall_mem_cons.mpr ⟨lw_p22, List.forall_mem_cons.mpr ⟨lw_p23, List.forall_mem_cons.mpr ⟨lw_p24, List.forall_mem_cons.mpr ⟨lw_p25, List.forall_mem_cons.mpr ⟨lw_p26, List.forall_mem_cons.mpr ⟨lw_p27, List.forall_mem_cons.mpr ⟨lw_p28, List.forall_mem_cons.mpr ⟨lw_p29, List.forall_mem_cons.mpr ⟨lw_p30, List.forall_mem_cons.mpr ⟨lw_p31, fun _ h => absurd h List.not_mem_nil⟩⟩⟩⟩⟩⟩⟩⟩⟩⟩⟩⟩⟩⟩⟩⟩
theorem lw_p32 : lw_okq (⟨"MailHeads$Identities", "takeBetween", "(LMailHeads$Texts;III)V"⟩, 1) := ⟨⟨by decide +kernel, by decide +kernel⟩, List.mem_of_getElem? (i := 160) (by decide +kernel), List.mem_of_getElem? (i := 782) (by decide +kernel), List.mem_of_getElem? (i := 783) (by decide +kernel)⟩
theorem lw_p33 : lw_okq (⟨"MailHeads$DateReader", "takeNumber", "(II)I"⟩, 2) := ⟨⟨by decide +kernel, by decide +kernel⟩, List.mem_of_getElem? (i := 172) (by decide +kernel), List.mem_of_getElem? (i := 803) (by decide +kernel), List.mem_of_getElem? (i := 804) (by decide +kernel)⟩
theorem lw_p34 : lw_okq (⟨"MailHeads$DateReader", "digits", "(II)I"⟩, 2) := ⟨⟨by decide +kernel, by decide +kernel⟩, List.mem_of_getElem? (i := 172) (by decide +kernel), List.mem_of_getElem? (i := 809) (by decide +kernel), List.mem_of_getElem? (i := 810) (by decide +kernel)⟩
theorem lw_p35 : lw_okq (⟨"MailHeads$DateReader", "takeMonth", "()I"⟩, 2) := ⟨⟨by decide +kernel, by decide +kernel⟩, List.mem_of_getElem? (i := 172) (by decide +kernel), List.mem_of_getElem? (i := 815) (by decide +kernel), List.mem_of_getElem? (i := 816) (by decide +kernel)⟩
theorem lw_p36 : lw_okq (⟨"MailHeads$DateReader", "threeLetters", "(Ljava/lang/String;)I"⟩, 2) := ⟨⟨by decide +kernel, by decide +kernel⟩, List.mem_of_getElem? (i := 172) (by decide +kernel), List.mem_of_getElem? (i := 820) (by decide +kernel), List.mem_of_getElem? (i := 821) (by decide +kernel)⟩
theorem lw_p37 : lw_okq (⟨"MailHeads$DateReader", "isLetter", "(II)Z"⟩, 2) := ⟨⟨by decide +kernel, by decide +kernel⟩, List.mem_of_getElem? (i := 172) (by decide +kernel), List.mem_of_getElem? (i := 845) (by decide +kernel), List.mem_of_getElem? (i := 846) (by decide +kernel)⟩
theorem lw_p38 : lw_okq (⟨"MailHeads$DateReader", "takeYear", "()I"⟩, 2) := ⟨⟨by decide +kernel, by decide +kernel⟩, List.mem_of_getElem? (i := 172) (by decide +kernel), List.mem_of_getElem? (i := 850) (by decide +kernel), List.mem_of_getElem? (i := 851) (by decide +kernel)⟩
theorem lw_p39 : lw_okq (⟨"MailHeads$DateReader", "takeColon", "()Z"⟩, 2) := ⟨⟨by decide +kernel, by decide +kernel⟩, List.mem_of_getElem? (i := 172) (by decide +kernel), List.mem_of_getElem? (i := 854) (by decide +kernel), List.mem_of_getElem? (i := 855) (by decide +kernel)⟩
theorem lw_p40 : lw_okq (⟨"MailHeads$DateReader", "zoneSeconds", "()I"⟩, 2) := ⟨⟨by decide +kernel, by decide +kernel⟩, List.mem_of_getElem? (i := 172) (by decide +kernel), List.mem_of_getElem? (i := 878) (by decide +kernel), List.mem_of_getElem? (i := 879) (by decide +kernel)⟩
theorem lw_p41 : lw_okq (⟨"MailHeads$DateReader", "signedZone", "(I)I"⟩, 2) := ⟨⟨by decide +kernel, by decide +kernel⟩, List.mem_of_getElem? (i := 172) (by decide +kernel), List.mem_of_getElem? (i := 885) (by decide +kernel), List.mem_of_getElem? (i := 886) (by decide +kernel)⟩
theorem lw_p42 : lw_okq (⟨"MailHeads$ContentType", "takePart", "(I)V"⟩, 7) := ⟨⟨by decide +kernel, by decide +kernel⟩, List.mem_of_getElem? (i := 185) (by decide +kernel), List.mem_of_getElem? (i := 903) (by decide +kernel), List.mem_of_getElem? (i := 904) (by decide +kernel)⟩
theorem lw_p43 : lw_okq (⟨"MailHeads$ContentType", "takeParameter", "(I)V"⟩, 7) := ⟨⟨by decide +kernel, by decide +kernel⟩, List.mem_of_getElem? (i := 185) (by decide +kernel), List.mem_of_getElem? (i := 909) (by decide +kernel), List.mem_of_getElem? (i := 910) (by decide +kernel)⟩
theorem lw_p44 : lw_okq (⟨"MailHeadsModel", "readyWord", "(II)V"⟩, 45) := ⟨⟨by decide +kernel, by decide +kernel⟩, List.mem_of_getElem? (i := 915) (by decide +kernel), List.mem_of_getElem? (i := 1066) (by decide +kernel), List.mem_of_getElem? (i := 1067) (by decide +kernel)⟩
theorem lw_p45 : lw_okq (⟨"MailHeadsModel", "colonOf", "(II)I"⟩, 45) := ⟨⟨by decide +kernel, by decide +kernel⟩, List.mem_of_getElem? (i := 915) (by decide +kernel), List.mem_of_getElem? (i := 1078) (by decide +kernel), List.mem_of_getElem? (i := 1079) (by decide +kernel)⟩
theorem lw_p46 : lw_okq (⟨"MailHeadsModel", "keep", "(II)V"⟩, 45) := ⟨⟨by decide +kernel, by decide +kernel⟩, List.mem_of_getElem? (i := 915) (by decide +kernel), List.mem_of_getElem? (i := 1085) (by decide +kernel), List.mem_of_getElem? (i := 1086) (by decide +kernel)⟩
theorem lw_p47 : lw_okq (⟨"MailHeadsModel", "addField", "(III)V"⟩, 45) := ⟨⟨by decide +kernel, by decide +kernel⟩, List.mem_of_getElem? (i := 915) (by decide +kernel), List.mem_of_getElem? (i := 1089) (by decide +kernel), List.mem_of_getElem? (i := 1090) (by decide +kernel)⟩
def lw_privs_3 : List (MethodName × Nat) := [(⟨"MailHeads$Identities", "takeBetween", "(LMailHeads$Texts;III)V"⟩, 1), (⟨"MailHeads$DateReader", "takeNumber", "(II)I"⟩, 2), (⟨"MailHeads$DateReader", "digits", "(II)I"⟩, 2), (⟨"MailHeads$DateReader", "takeMonth", "()I"⟩, 2), (⟨"MailHeads$DateReader", "threeLetters", "(Ljava/lang/String;)I"⟩, 2), (⟨"MailHeads$DateReader", "isLetter", "(II)Z"⟩, 2), (⟨"MailHeads$DateReader", "takeYear", "()I"⟩, 2), (⟨"MailHeads$DateReader", "takeColon", "()Z"⟩, 2), (⟨"MailHeads$DateReader", "zoneSeconds", "()I"⟩, 2), (⟨"MailHeads$DateReader", "signedZone", "(I)I"⟩, 2), (⟨"MailHeads$ContentType", "takePart", "(I)V"⟩, 7), (⟨"MailHeads$ContentType", "takeParameter", "(I)V"⟩, 7), (⟨"MailHeadsModel", "readyWord", "(II)V"⟩, 45), (⟨"MailHeadsModel", "colonOf", "(II)I"⟩, 45), (⟨"MailHeadsModel", "keep", "(II)V"⟩, 45), (⟨"MailHeadsModel", "addField", "(III)V"⟩, 45)]
theorem lw_r3 : ∀ q ∈ lw_privs_3, lw_okq q := List.forall_mem_cons.mpr ⟨lw_p32, List.forall_mem_cons.mpr ⟨lw_p33, List.forall_mem_cons.mpr ⟨lw_p34, List.forall_mem_cons.mpr ⟨lw_p35, List.forall_mem_cons.mpr ⟨lw_p36, List.forall_mem_cons.mpr ⟨lw_p37, List.forall_mem_cons.mpr ⟨lw_p38, List.forall_mem_cons.mpr ⟨lw_p39, List.forall_mem_cons.mpr ⟨lw_p40, List.forall_mem_cons.mpr ⟨lw_p41, List.forall_mem_cons.mpr ⟨lw_p42, List.forall_mem_cons.mpr ⟨lw_p43, List.forall_mem_cons.mpr ⟨lw_p44, List.forall_mem_cons.mpr ⟨lw_p45, List.forall_mem_cons.mpr ⟨lw_p46, List.forall_mem_cons.mpr ⟨lw_p47, fun _ h => absurd h List.not_mem_nil⟩⟩⟩⟩⟩⟩⟩⟩⟩⟩⟩⟩⟩⟩⟩⟩
theorem lw_p48 : lw_okq (⟨"MailHeadsModel", "isField", "(I)Z"⟩, 45) := ⟨⟨by decide +kernel, by decide +kernel⟩, List.mem_of_getElem? (i := 915) (by decide +kernel), List.mem_of_getElem? (i := 1108) (by decide +kernel), List.mem_of_getElem? (i := 1109) (by decide +kernel)⟩
theorem lw_p49 : lw_okq (⟨"MailHeadsModel", "cut", "(IZ)V"⟩, 45) := ⟨⟨by decide +kernel, by decide +kernel⟩, List.mem_of_getElem? (i := 915) (by decide +kernel), List.mem_of_getElem? (i := 1130) (by decide +kernel), List.mem_of_getElem? (i := 1131) (by decide +kernel)⟩
theorem lw_p50 : lw_okq (⟨"MailHeadsModel", "takeEnclosed", "(II)V"⟩, 45) := ⟨⟨by decide +kernel, by decide +kernel⟩, List.mem_of_getElem? (i := 915) (by decide +kernel), List.mem_of_getElem? (i := 1137) (by decide +kernel), List.mem_of_getElem? (i := 1138) (by decide +kernel)⟩
theorem lw_p51 : lw_okq (⟨"MailHeadsModel", "beginWord", "(II)V"⟩, 45) := ⟨⟨by decide +kernel, by decide +kernel⟩, List.mem_of_getElem? (i := 915) (by decide +kernel), List.mem_of_getElem? (i := 1141) (by decide +kernel), List.mem_of_getElem? (i := 1142) (by decide +kernel)⟩
theorem lw_p52 : lw_okq (⟨"MailHeadsModel", "put", "(I)V"⟩, 45) := ⟨⟨by decide +kernel, by decide +kernel⟩, List.mem_of_getElem? (i := 915) (by decide +kernel), List.mem_of_getElem? (i := 1145) (by decide +kernel), List.mem_of_getElem? (i := 1146) (by decide +kernel)⟩
theorem lw_p53 : lw_okq (⟨"MailHeadsModel", "endWord", "()V"⟩, 45) := ⟨⟨by decide +kernel, by decide +kernel⟩, List.mem_of_getElem? (i := 915) (by decide +kernel), List.mem_of_getElem? (i := 1149) (by decide +kernel), List.mem_of_getElem? (i := 1150) (by decide +kernel)⟩
theorem lw_p54 : lw_okq (⟨"MailHeadsModel", "isSign", "(I)Z"⟩, 45) := ⟨⟨by decide +kernel, by decide +kernel⟩, List.mem_of_getElem? (i := 915) (by decide +kernel), List.mem_of_getElem? (i := 1153) (by decide +kernel), List.mem_of_getElem? (i := 1154) (by decide +kernel)⟩
theorem lw_p55 : lw_okq (⟨"MailHeadsModel", "takeAtom", "()V"⟩, 45) := ⟨⟨by decide +kernel, by decide +kernel⟩, List.mem_of_getElem? (i := 915) (by decide +kernel), List.mem_of_getElem? (i := 1157) (by decide +kernel), List.mem_of_getElem? (i := 1158) (by decide +kernel)⟩
theorem lw_p56 : lw_okq (⟨"MailHeadsModel", "look", "()I"⟩, 45) := ⟨⟨by decide +kernel, by decide +kernel⟩, List.mem_of_getElem? (i := 915) (by decide +kernel), List.mem_of_getElem? (i := 1161) (by decide +kernel), List.mem_of_getElem? (i := 1162) (by decide +kernel)⟩
theorem lw_p57 : lw_okq (⟨"MailHeadsModel", "forget", "(III)V"⟩, 45) := ⟨⟨by decide +kernel, by decide +kernel⟩, List.mem_of_getElem? (i := 915) (by decide +kernel), List.mem_of_getElem? (i := 1165) (by decide +kernel), List.mem_of_getElem? (i := 1166) (by decide +kernel)⟩
theorem lw_p58 : lw_okq (⟨"MailHeadsModel", "is", "(II)Z"⟩, 45) := ⟨⟨by decide +kernel, by decide +kernel⟩, List.mem_of_getElem? (i := 915) (by decide +kernel), List.mem_of_getElem? (i := 1169) (by decide +kernel), List.mem_of_getElem? (i := 1170) (by decide +kernel)⟩
theorem lw_p59 : lw_okq (⟨"MailHeadsModel", "beginGroup", "(II)V"⟩, 45) := ⟨⟨by decide +kernel, by decide +kernel⟩, List.mem_of_getElem? (i := 915) (by decide +kernel), List.mem_of_getElem? (i := 1173) (by decide +kernel), List.mem_of_getElem? (i := 1174) (by decide +kernel)⟩
theorem lw_p60 : lw_okq (⟨"MailHeadsModel", "isName", "(II)Z"⟩, 45) := ⟨⟨by decide +kernel, by decide +kernel⟩, List.mem_of_getElem? (i := 915) (by decide +kernel), List.mem_of_getElem? (i := 1177) (by decide +kernel), List.mem_of_getElem? (i := 1178) (by decide +kernel)⟩
theorem lw_p61 : lw_okq (⟨"MailHeadsModel", "next", "(II)I"⟩, 45) := ⟨⟨by decide +kernel, by decide +kernel⟩, List.mem_of_getElem? (i := 915) (by decide +kernel), List.mem_of_getElem? (i := 1181) (by decide +kernel), List.mem_of_getElem? (i := 1182) (by decide +kernel)⟩
theorem lw_p62 : lw_okq (⟨"MailHeadsModel", "makeName", "(III)V"⟩, 45) := ⟨⟨by decide +kernel, by decide +kernel⟩, List.mem_of_getElem? (i := 915) (by decide +kernel), List.mem_of_getElem? (i := 1185) (by decide +kernel), List.mem_of_getElem? (i := 1186) (by decide +kernel)⟩
theorem lw_p63 : lw_okq (⟨"MailHeadsModel", "beginPart", "(I)V"⟩, 45) := ⟨⟨by decide +kernel, by decide +kernel⟩, List.mem_of_getElem? (i := 915) (by decide +kernel), List.mem_of_getElem? (i := 1189) (by decide +kernel), List.mem_of_getElem? (i := 1190) (by decide +kernel)⟩
def lw_privs_4 : List (MethodName × Nat) := [(⟨"MailHeadsModel", "isField", "(I)Z"⟩, 45), (⟨"MailHeadsModel", "cut", "(IZ)V"⟩, 45), (⟨"MailHeadsModel", "takeEnclosed", "(II)V"⟩, 45), (⟨"MailHeadsModel", "beginWord", "(II)V"⟩, 45), (⟨"MailHeadsModel", "put", "(I)V"⟩, 45), (⟨"MailHeadsModel", "endWord", "()V"⟩, 45), (⟨"MailHeadsModel", "isSign", "(I)Z"⟩, 45), (⟨"MailHeadsModel", "takeAtom", "()V"⟩, 45), (⟨"MailHeadsModel", "look", "()I"⟩, 45), (⟨"MailHeadsModel", "forget", "(III)V"⟩, 45), (⟨"MailHeadsModel", "is", "(II)Z"⟩, 45), (⟨"MailHeadsModel", "beginGroup", "(II)V"⟩, 45), (⟨"MailHeadsModel", "isName", "(II)Z"⟩, 45), (⟨"MailHeadsModel", "next", "(II)I"⟩, 45), (⟨"MailHeadsModel", "makeName", "(III)V"⟩, 45), (⟨"MailHeadsModel", "beginPart", "(I)V"⟩, 45)]
theorem lw_r4 : ∀ q ∈ lw_privs_4, lw_okq q := List.forall_mem_cons.mpr ⟨lw_p48, List.forall_mem_cons.mpr ⟨lw_p49, List.forall_mem_cons.mpr ⟨lw_p50, List.forall_mem_cons.mpr ⟨lw_p51, List.forall_mem_cons.mpr ⟨lw_p52, List.forall_mem_cons.mpr ⟨lw_p53, List.forall_mem_cons.mpr ⟨lw_p54, List.forall_mem_cons.mpr ⟨lw_p55, List.forall_mem_cons.mpr ⟨lw_p56, List.forall_mem_cons.mpr ⟨lw_p57, List.forall_mem_cons.mpr ⟨lw_p58, List.forall_mem_cons.mpr ⟨lw_p59, List.forall_mem_cons.mpr ⟨lw_p60, List.forall_mem_cons.mpr ⟨lw_p61, List.forall_mem_cons.mpr ⟨lw_p62, List.forall_mem_cons.mpr ⟨lw_p63, fun _ h => absurd h List.not_mem_nil⟩⟩⟩⟩⟩⟩⟩⟩⟩⟩⟩⟩⟩⟩⟩⟩
theorem lw_p64 : lw_okq (⟨"MailHeadsModel", "roomAt", "(I)I"⟩, 45) := ⟨⟨by decide +kernel, by decide +kernel⟩, List.mem_of_getElem? (i := 915) (by decide +kernel), List.mem_of_getElem? (i := 1193) (by decide +kernel), List.mem_of_getElem? (i := 1194) (by decide +kernel)⟩
theorem lw_p65 : lw_okq (⟨"MailHeadsModel", "add", "(II)V"⟩, 45) := ⟨⟨by decide +kernel, by decide +kernel⟩, List.mem_of_getElem? (i := 915) (by decide +kernel), List.mem_of_getElem? (i := 1200) (by decide +kernel), List.mem_of_getElem? (i := 1201) (by decide +kernel)⟩
theorem lw_p66 : lw_okq (⟨"MailHeadsModel", "addWord", "(II)V"⟩, 45) := ⟨⟨by decide +kernel, by decide +kernel⟩, List.mem_of_getElem? (i := 915) (by decide +kernel), List.mem_of_getElem? (i := 1204) (by decide +kernel), List.mem_of_getElem? (i := 1205) (by decide +kernel)⟩
theorem lw_p67 : lw_okq (⟨"MailHeadsModel", "endPart", "(I)V"⟩, 45) := ⟨⟨by decide +kernel, by decide +kernel⟩, List.mem_of_getElem? (i := 915) (by decide +kernel), List.mem_of_getElem? (i := 1208) (by decide +kernel), List.mem_of_getElem? (i := 1209) (by decide +kernel)⟩
theorem lw_p68 : lw_okq (⟨"MailHeadsModel", "takeMailbox", "(IIZI)V"⟩, 45) := ⟨⟨by decide +kernel, by decide +kernel⟩, List.mem_of_getElem? (i := 915) (by decide +kernel), List.mem_of_getElem? (i := 1212) (by decide +kernel), List.mem_of_getElem? (i := 1213) (by decide +kernel)⟩
theorem lw_p69 : lw_okq (⟨"MailHeadsModel", "behindRoute", "(II)I"⟩, 45) := ⟨⟨by decide +kernel, by decide +kernel⟩, List.mem_of_getElem? (i := 915) (by decide +kernel), List.mem_of_getElem? (i := 1216) (by decide +kernel), List.mem_of_getElem? (i := 1217) (by decide +kernel)⟩
theorem lw_p70 : lw_okq (⟨"MailHeadsModel", "isSpec", "(II)Z"⟩, 45) := ⟨⟨by decide +kernel, by decide +kernel⟩, List.mem_of_getElem? (i := 915) (by decide +kernel), List.mem_of_getElem? (i := 1220) (by decide +kernel), List.mem_of_getElem? (i := 1221) (by decide +kernel)⟩
theorem lw_p71 : lw_okq (⟨"MailHeadsModel", "rowEnd", "(IIZ)I"⟩, 45) := ⟨⟨by decide +kernel, by decide +kernel⟩, List.mem_of_getElem? (i := 915) (by decide +kernel), List.mem_of_getElem? (i := 1224) (by decide +kernel), List.mem_of_getElem? (i := 1225) (by decide +kernel)⟩
theorem lw_p72 : lw_okq (⟨"MailHeadsModel", "isRowWord", "(IIZ)Z"⟩, 45) := ⟨⟨by decide +kernel, by decide +kernel⟩, List.mem_of_getElem? (i := 915) (by decide +kernel), List.mem_of_getElem? (i := 1228) (by decide +kernel), List.mem_of_getElem? (i := 1229) (by decide +kernel)⟩
theorem lw_p73 : lw_okq (⟨"MailHeadsModel", "makeComment", "(II)V"⟩, 45) := ⟨⟨by decide +kernel, by decide +kernel⟩, List.mem_of_getElem? (i := 915) (by decide +kernel), List.mem_of_getElem? (i := 1232) (by decide +kernel), List.mem_of_getElem? (i := 1233) (by decide +kernel)⟩
theorem lw_p74 : lw_okq (⟨"MailHeadsModel", "makeWords", "(III)V"⟩, 45) := ⟨⟨by decide +kernel, by decide +kernel⟩, List.mem_of_getElem? (i := 915) (by decide +kernel), List.mem_of_getElem? (i := 1236) (by decide +kernel), List.mem_of_getElem? (i := 1237) (by decide +kernel)⟩
theorem lw_p75 : lw_okq (⟨"MailHeadsModel", "isDigits", "(III)Z"⟩, 45) := ⟨⟨by decide +kernel, by decide +kernel⟩, List.mem_of_getElem? (i := 915) (by decide +kernel), List.mem_of_getElem? (i := 1253) (by decide +kernel), List.mem_of_getElem? (i := 1254) (by decide +kernel)⟩
theorem lw_p76 : lw_okq (⟨"MailHeadsModel", "longOf", "(I)I"⟩, 45) := ⟨⟨by decide +kernel, by decide +kernel⟩, List.mem_of_getElem? (i := 915) (by decide +kernel), List.mem_of_getElem? (i := 1257) (by decide +kernel), List.mem_of_getElem? (i := 1258) (by decide +kernel)⟩
theorem lw_p77 : lw_okq (⟨"MailHeadsModel", "number", "(I)I"⟩, 45) := ⟨⟨by decide +kernel, by decide +kernel⟩, List.mem_of_getElem? (i := 915) (by decide +kernel), List.mem_of_getElem? (i := 1264) (by decide +kernel), List.mem_of_getElem? (i := 1265) (by decide +kernel)⟩
theorem lw_p78 : lw_okq (⟨"MailHeadsModel", "numberOf", "(II)I"⟩, 45) := ⟨⟨by decide +kernel, by decide +kernel⟩, List.mem_of_getElem? (i := 915) (by decide +kernel), List.mem_of_getElem? (i := 1268) (by decide +kernel), List.mem_of_getElem? (i := 1269) (by decide +kernel)⟩
theorem lw_p79 : lw_okq (⟨"MailHeadsModel", "step", "()V"⟩, 45) := ⟨⟨by decide +kernel, by decide +kernel⟩, List.mem_of_getElem? (i := 915) (by decide +kernel), List.mem_of_getElem? (i := 1273) (by decide +kernel), List.mem_of_getElem? (i := 1274) (by decide +kernel)⟩
def lw_privs_5 : List (MethodName × Nat) := [(⟨"MailHeadsModel", "roomAt", "(I)I"⟩, 45), (⟨"MailHeadsModel", "add", "(II)V"⟩, 45), (⟨"MailHeadsModel", "addWord", "(II)V"⟩, 45), (⟨"MailHeadsModel", "endPart", "(I)V"⟩, 45), (⟨"MailHeadsModel", "takeMailbox", "(IIZI)V"⟩, 45), (⟨"MailHeadsModel", "behindRoute", "(II)I"⟩, 45), (⟨"MailHeadsModel", "isSpec", "(II)Z"⟩, 45), (⟨"MailHeadsModel", "rowEnd", "(IIZ)I"⟩, 45), (⟨"MailHeadsModel", "isRowWord", "(IIZ)Z"⟩, 45), (⟨"MailHeadsModel", "makeComment", "(II)V"⟩, 45), (⟨"MailHeadsModel", "makeWords", "(III)V"⟩, 45), (⟨"MailHeadsModel", "isDigits", "(III)Z"⟩, 45), (⟨"MailHeadsModel", "longOf", "(I)I"⟩, 45), (⟨"MailHeadsModel", "number", "(I)I"⟩, 45), (⟨"MailHeadsModel", "numberOf", "(II)I"⟩, 45), (⟨"MailHeadsModel", "step", "()V"⟩, 45)]
theorem lw_r5 : ∀ q ∈ lw_privs_5, lw_okq q := List.forall_mem_cons.mpr ⟨lw_p64, List.forall_mem_cons.mpr ⟨lw_p65, List.forall_mem_cons.mpr ⟨lw_p66, List.forall_mem_cons.mpr ⟨lw_p67, List.forall_mem_cons.mpr ⟨lw_p68, List.forall_mem_cons.mpr ⟨lw_p69, List.forall_mem_cons.mpr ⟨lw_p70, List.forall_mem_cons.mpr ⟨lw_p71, List.forall_mem_cons.mpr ⟨lw_p72, List.forall_mem_cons.mpr ⟨lw_p73, List.forall_mem_cons.mpr ⟨lw_p74, List.forall_mem_cons.mpr ⟨lw_p75, List.forall_mem_cons.mpr ⟨lw_p76, List.forall_mem_cons.mpr ⟨lw_p77, List.forall_mem_cons.mpr ⟨lw_p78, List.forall_mem_cons.mpr ⟨lw_p79, fun _ h => absurd h List.not_mem_nil⟩⟩⟩⟩⟩⟩⟩⟩⟩⟩⟩⟩⟩⟩⟩⟩
theorem lw_p80 : lw_okq (⟨"MailHeadsModel", "monthOf", "(I)I"⟩, 45) := ⟨⟨by decide +kernel, by decide +kernel⟩, List.mem_of_getElem? (i := 915) (by decide +kernel), List.mem_of_getElem? (i := 1277) (by decide +kernel), List.mem_of_getElem? (i := 1278) (by decide +kernel)⟩
theorem lw_p81 : lw_okq (⟨"MailHeadsModel", "isThree", "(III)Z"⟩, 45) := ⟨⟨by decide +kernel, by decide +kernel⟩, List.mem_of_getElem? (i := 915) (by decide +kernel), List.mem_of_getElem? (i := 1282) (by decide +kernel), List.mem_of_getElem? (i := 1283) (by decide +kernel)⟩
theorem lw_p82 : lw_okq (⟨"MailHeadsModel", "yearOf", "(I)I"⟩, 45) := ⟨⟨by decide +kernel, by decide +kernel⟩, List.mem_of_getElem? (i := 915) (by decide +kernel), List.mem_of_getElem? (i := 1297) (by decide +kernel), List.mem_of_getElem? (i := 1298) (by decide +kernel)⟩
theorem lw_p83 : lw_okq (⟨"MailHeadsModel", "two", "(I)I"⟩, 45) := ⟨⟨by decide +kernel, by decide +kernel⟩, List.mem_of_getElem? (i := 915) (by decide +kernel), List.mem_of_getElem? (i := 1307) (by decide +kernel), List.mem_of_getElem? (i := 1308) (by decide +kernel)⟩
theorem lw_p84 : lw_okq (⟨"MailHeadsModel", "dayNumber", "(III)J"⟩, 45) := ⟨⟨by decide +kernel, by decide +kernel⟩, List.mem_of_getElem? (i := 915) (by decide +kernel), List.mem_of_getElem? (i := 1311) (by decide +kernel), List.mem_of_getElem? (i := 1312) (by decide +kernel)⟩
theorem lw_p85 : lw_okq (⟨"MailHeadsModel", "zoneOf", "(I)I"⟩, 45) := ⟨⟨by decide +kernel, by decide +kernel⟩, List.mem_of_getElem? (i := 915) (by decide +kernel), List.mem_of_getElem? (i := 1321) (by decide +kernel), List.mem_of_getElem? (i := 1322) (by decide +kernel)⟩
theorem lw_p86 : lw_okq (⟨"MailHeadsModel", "makeSmall", "(II)V"⟩, 45) := ⟨⟨by decide +kernel, by decide +kernel⟩, List.mem_of_getElem? (i := 915) (by decide +kernel), List.mem_of_getElem? (i := 1337) (by decide +kernel), List.mem_of_getElem? (i := 1338) (by decide +kernel)⟩
theorem lw_p87 : lw_okq (⟨"MailHeadsModel", "takeParameter", "(I)V"⟩, 45) := ⟨⟨by decide +kernel, by decide +kernel⟩, List.mem_of_getElem? (i := 915) (by decide +kernel), List.mem_of_getElem? (i := 1341) (by decide +kernel), List.mem_of_getElem? (i := 1342) (by decide +kernel)⟩
theorem lw_p88 : lw_okq (⟨"MailHeadsModel", "parameterOf", "(II)I"⟩, 45) := ⟨⟨by decide +kernel, by decide +kernel⟩, List.mem_of_getElem? (i := 915) (by decide +kernel), List.mem_of_getElem? (i := 1349) (by decide +kernel), List.mem_of_getElem? (i := 1350) (by decide +kernel)⟩
theorem lw_p89 : lw_okq (⟨"MailHeadsModel", "isNamed", "(II)Z"⟩, 45) := ⟨⟨by decide +kernel, by decide +kernel⟩, List.mem_of_getElem? (i := 915) (by decide +kernel), List.mem_of_getElem? (i := 1353) (by decide +kernel), List.mem_of_getElem? (i := 1354) (by decide +kernel)⟩
theorem lw_p90 : lw_okq (⟨"MailHeadsModel", "takeValue", "(I)V"⟩, 45) := ⟨⟨by decide +kernel, by decide +kernel⟩, List.mem_of_getElem? (i := 915) (by decide +kernel), List.mem_of_getElem? (i := 1357) (by decide +kernel), List.mem_of_getElem? (i := 1358) (by decide +kernel)⟩
theorem lw_p91 : lw_okq (⟨"MailHeadsModel", "behindCharset", "(I)I"⟩, 45) := ⟨⟨by decide +kernel, by decide +kernel⟩, List.mem_of_getElem? (i := 915) (by decide +kernel), List.mem_of_getElem? (i := 1361) (by decide +kernel), List.mem_of_getElem? (i := 1362) (by decide +kernel)⟩
def lw_privs_6 : List (MethodName × Nat) := [(⟨"MailHeadsModel", "monthOf", "(I)I"⟩, 45), (⟨"MailHeadsModel", "isThree", "(III)Z"⟩, 45), (⟨"MailHeadsModel", "yearOf", "(I)I"⟩, 45), (⟨"MailHeadsModel", "two", "(I)I"⟩, 45), (⟨"MailHeadsModel", "dayNumber", "(III)J"⟩, 45), (⟨"MailHeadsModel", "zoneOf", "(I)I"⟩, 45), (⟨"MailHeadsModel", "makeSmall", "(II)V"⟩, 45), (⟨"MailHeadsModel", "takeParameter", "(I)V"⟩, 45), (⟨"MailHeadsModel", "parameterOf", "(II)I"⟩, 45), (⟨"MailHeadsModel", "isNamed", "(II)Z"⟩, 45), (⟨"MailHeadsModel", "takeValue", "(I)V"⟩, 45), (⟨"MailHeadsModel", "behindCharset", "(I)I"⟩, 45)]
theorem lw_r6 : ∀ q ∈ lw_privs_6, lw_okq q := List.forall_mem_cons.mpr ⟨lw_p80, List.forall_mem_cons.mpr ⟨lw_p81, List.forall_mem_cons.mpr ⟨lw_p82, List.forall_mem_cons.mpr ⟨lw_p83, List.forall_mem_cons.mpr ⟨lw_p84, List.forall_mem_cons.mpr ⟨lw_p85, List.forall_mem_cons.mpr ⟨lw_p86, List.forall_mem_cons.mpr ⟨lw_p87, List.forall_mem_cons.mpr ⟨lw_p88, List.forall_mem_cons.mpr ⟨lw_p89, List.forall_mem_cons.mpr ⟨lw_p90, List.forall_mem_cons.mpr ⟨lw_p91, fun _ h => absurd h List.not_mem_nil⟩⟩⟩⟩⟩⟩⟩⟩⟩⟩⟩⟩
def lw_privs : List (MethodName × Nat) := lw_privs_1 ++ (lw_privs_2 ++ (lw_privs_3 ++ (lw_privs_4 ++ (lw_privs_5 ++ (lw_privs_6)))))
def lw_tbl : List Cond := k2_sels lw_privs ++ tables_1
theorem lw_privs_ok : ∀ q ∈ lw_privs, lw_okq q := by
  show ∀ q ∈ lw_privs_1 ++ (lw_privs_2 ++ (lw_privs_3 ++ (lw_privs_4 ++ (lw_privs_5 ++ (lw_privs_6))))), lw_okq q
  exact List.forall_mem_append.mpr ⟨lw_r1, List.forall_mem_append.mpr ⟨lw_r2, List.forall_mem_append.mpr ⟨lw_r3, List.forall_mem_append.mpr ⟨lw_r4, List.forall_mem_append.mpr ⟨lw_r5, lw_r6⟩⟩⟩⟩⟩
end
section
def cR_Mail : String := "MailHeads"
def cF_Mail : u_T := fun k => match k with
  | 0 => ("MailHeads", "ready", "[I", true)
  | 1 => ("MailHeads", "tape", "LMailHeads$Row;", true)
  | 2 => ("MailHeads", "head", "LMailHeads$Head;", true)
  | 3 => ("MailHeads", "words", "LMailHeads$Words;", true)
  | 4 => ("MailHeads", "lastAddresses", "LMailHeads$Addresses;", true)
  | 5 => ("MailHeads", "lastIdentities", "LMailHeads$Identities;", true)
  | 6 => ("MailHeads", "dateReader", "LMailHeads$DateReader;", true)
  | 7 => ("MailHeads", "lastType", "LMailHeads$ContentType;", true)
  | _ => ("MailHeads", "nothing", "LMailHeads$Texts;", true)
def cT_Mail : Nat → FieldType := fun k => match k with
  | 0 => .array (.int)
  | 1 => .object "MailHeads$Row"
  | 2 => .object "MailHeads$Head"
  | 3 => .object "MailHeads$Words"
  | 4 => .object "MailHeads$Addresses"
  | 5 => .object "MailHeads$Identities"
  | 6 => .object "MailHeads$DateReader"
  | 7 => .object "MailHeads$ContentType"
  | _ => .object "MailHeads$Texts"
theorem cN_Mail : ∀ a, a < 9 → ∀ b, b < 9 → a ≠ b → (cF_Mail a).2.1 ≠ (cF_Mail b).2.1 := by decide +kernel
theorem cP_Mail : ∀ k, k < 9 → parseFieldDescriptor (cF_Mail k).2.2.1 = some (cT_Mail k) := by decide +kernel
def cR_Row : String := "MailHeads$Row"
def cF_Row : u_T := fun k => match k with
  | 0 => ("MailHeads$Row", "cells", "[I", false)
  | _ => ("MailHeads$Row", "count", "I", false)
def cT_Row : Nat → FieldType := fun k => match k with
  | 0 => .array (.int)
  | _ => .int
theorem cN_Row : ∀ a, a < 2 → ∀ b, b < 2 → a ≠ b → (cF_Row a).2.1 ≠ (cF_Row b).2.1 := by decide +kernel
theorem cP_Row : ∀ k, k < 2 → parseFieldDescriptor (cF_Row k).2.2.1 = some (cT_Row k) := by decide +kernel
def cR_Head : String := "MailHeads$Head"
def cF_Head : u_T := fun k => match k with
  | 0 => ("MailHeads$Head", "texts", "LMailHeads$Texts;", true)
  | 1 => ("MailHeads$Head", "badLines", "I", false)
  | _ => ("MailHeads$Head", "valueOpen", "Z", false)
def cT_Head : Nat → FieldType := fun k => match k with
  | 0 => .object "MailHeads$Texts"
  | 1 => .int
  | _ => .boolean
theorem cN_Head : ∀ a, a < 3 → ∀ b, b < 3 → a ≠ b → (cF_Head a).2.1 ≠ (cF_Head b).2.1 := by decide +kernel
theorem cP_Head : ∀ k, k < 3 → parseFieldDescriptor (cF_Head k).2.2.1 = some (cT_Head k) := by decide +kernel
def cR_Texts : String := "MailHeads$Texts"
def cF_Texts : u_T := fun k => match k with
  | 0 => ("MailHeads$Texts", "bytes", "LMailHeads$Row;", true)
  | _ => ("MailHeads$Texts", "bounds", "LMailHeads$Row;", true)
def cT_Texts : Nat → FieldType := fun k => match k with
  | 0 => .object "MailHeads$Row"
  | _ => .object "MailHeads$Row"
theorem cN_Texts : ∀ a, a < 2 → ∀ b, b < 2 → a ≠ b → (cF_Texts a).2.1 ≠ (cF_Texts b).2.1 := by decide +kernel
theorem cP_Texts : ∀ k, k < 2 → parseFieldDescriptor (cF_Texts k).2.2.1 = some (cT_Texts k) := by decide +kernel
def cR_Words : String := "MailHeads$Words"
def cF_Words : u_T := fun k => match k with
  | 0 => ("MailHeads$Words", "texts", "LMailHeads$Texts;", true)
  | 1 => ("MailHeads$Words", "kinds", "LMailHeads$Row;", true)
  | 2 => ("MailHeads$Words", "source", "LMailHeads$Texts;", false)
  | 3 => ("MailHeads$Words", "value", "I", false)
  | _ => ("MailHeads$Words", "signs", "Ljava/lang/String;", false)
def cT_Words : Nat → FieldType := fun k => match k with
  | 0 => .object "MailHeads$Texts"
  | 1 => .object "MailHeads$Row"
  | 2 => .object "MailHeads$Texts"
  | 3 => .int
  | _ => .object "java/lang/String"
theorem cN_Words : ∀ a, a < 5 → ∀ b, b < 5 → a ≠ b → (cF_Words a).2.1 ≠ (cF_Words b).2.1 := by decide +kernel
theorem cP_Words : ∀ k, k < 5 → parseFieldDescriptor (cF_Words k).2.2.1 = some (cT_Words k) := by decide +kernel
def cR_Addresses : String := "MailHeads$Addresses"
def cF_Addresses : u_T := fun k => match k with
  | 0 => ("MailHeads$Addresses", "words", "LMailHeads$Words;", true)
  | 1 => ("MailHeads$Addresses", "texts", "LMailHeads$Texts;", true)
  | 2 => ("MailHeads$Addresses", "groups", "LMailHeads$Row;", true)
  | 3 => ("MailHeads$Addresses", "groupNames", "LMailHeads$Texts;", true)
  | 4 => ("MailHeads$Addresses", "gathered", "LMailHeads$Row;", true)
  | 5 => ("MailHeads$Addresses", "badOnes", "I", false)
  | 6 => ("MailHeads$Addresses", "groupNow", "I", false)
  | _ => ("MailHeads$Addresses", "comment", "I", false)
def cT_Addresses : Nat → FieldType := fun k => match k with
  | 0 => .object "MailHeads$Words"
  | 1 => .object "MailHeads$Texts"
  | 2 => .object "MailHeads$Row"
  | 3 => .object "MailHeads$Texts"
  | 4 => .object "MailHeads$Row"
  | 5 => .int
  | 6 => .int
  | _ => .int
theorem cN_Addresses : ∀ a, a < 8 → ∀ b, b < 8 → a ≠ b → (cF_Addresses a).2.1 ≠ (cF_Addresses b).2.1 := by decide +kernel
theorem cP_Addresses : ∀ k, k < 8 → parseFieldDescriptor (cF_Addresses k).2.2.1 = some (cT_Addresses k) := by decide +kernel
def cR_Identities : String := "MailHeads$Identities"
def cF_Identities : u_T := fun k => match k with
  | _ => ("MailHeads$Identities", "texts", "LMailHeads$Texts;", true)
def cT_Identities : Nat → FieldType := fun k => match k with
  | _ => .object "MailHeads$Texts"
theorem cN_Identities : ∀ a, a < 1 → ∀ b, b < 1 → a ≠ b → (cF_Identities a).2.1 ≠ (cF_Identities b).2.1 := by decide +kernel
theorem cP_Identities : ∀ k, k < 1 → parseFieldDescriptor (cF_Identities k).2.2.1 = some (cT_Identities k) := by decide +kernel
def cR_DateReader : String := "MailHeads$DateReader"
def cF_DateReader : u_T := fun k => match k with
  | 0 => ("MailHeads$DateReader", "words", "LMailHeads$Words;", true)
  | _ => ("MailHeads$DateReader", "place", "I", false)
def cT_DateReader : Nat → FieldType := fun k => match k with
  | 0 => .object "MailHeads$Words"
  | _ => .int
theorem cN_DateReader : ∀ a, a < 2 → ∀ b, b < 2 → a ≠ b → (cF_DateReader a).2.1 ≠ (cF_DateReader b).2.1 := by decide +kernel
theorem cP_DateReader : ∀ k, k < 2 → parseFieldDescriptor (cF_DateReader k).2.2.1 = some (cT_DateReader k) := by decide +kernel
def cR_ContentType : String := "MailHeads$ContentType"
def cF_ContentType : u_T := fun k => match k with
  | 0 => ("MailHeads$ContentType", "words", "LMailHeads$Words;", true)
  | 1 => ("MailHeads$ContentType", "parts", "LMailHeads$Texts;", true)
  | 2 => ("MailHeads$ContentType", "names", "LMailHeads$Texts;", true)
  | 3 => ("MailHeads$ContentType", "values", "LMailHeads$Texts;", true)
  | 4 => ("MailHeads$ContentType", "pieces", "LMailHeads$Row;", true)
  | 5 => ("MailHeads$ContentType", "codes", "LMailHeads$Row;", true)
  | _ => ("MailHeads$ContentType", "hand", "LMailHeads$Texts;", true)
def cT_ContentType : Nat → FieldType := fun k => match k with
  | 0 => .object "MailHeads$Words"
  | 1 => .object "MailHeads$Texts"
  | 2 => .object "MailHeads$Texts"
  | 3 => .object "MailHeads$Texts"
  | 4 => .object "MailHeads$Row"
  | 5 => .object "MailHeads$Row"
  | _ => .object "MailHeads$Texts"
theorem cN_ContentType : ∀ a, a < 7 → ∀ b, b < 7 → a ≠ b → (cF_ContentType a).2.1 ≠ (cF_ContentType b).2.1 := by decide +kernel
theorem cP_ContentType : ∀ k, k < 7 → parseFieldDescriptor (cF_ContentType k).2.2.1 = some (cT_ContentType k) := by decide +kernel
def cR_Model : String := "MailHeadsModel"
def cF_Model : u_T := fun k => match k with
  | 0 => ("MailHeadsModel", "thrown", "I", false)
  | 1 => ("MailHeadsModel", "ready", "[I", true)
  | 2 => ("MailHeadsModel", "tape", "[I", true)
  | 3 => ("MailHeadsModel", "tapeLong", "I", false)
  | 4 => ("MailHeadsModel", "fields", "I", false)
  | 5 => ("MailHeadsModel", "bad", "I", false)
  | 6 => ("MailHeadsModel", "nameAt", "[I", true)
  | 7 => ("MailHeadsModel", "nameLong", "[I", true)
  | 8 => ("MailHeadsModel", "valueAt", "[I", true)
  | 9 => ("MailHeadsModel", "valueLong", "[I", true)
  | 10 => ("MailHeadsModel", "kept", "[I", true)
  | 11 => ("MailHeadsModel", "keptLong", "I", false)
  | 12 => ("MailHeadsModel", "words", "I", false)
  | 13 => ("MailHeadsModel", "kind", "[I", true)
  | 14 => ("MailHeadsModel", "sign", "[I", true)
  | 15 => ("MailHeadsModel", "from", "[I", true)
  | 16 => ("MailHeadsModel", "to", "[I", true)
  | 17 => ("MailHeadsModel", "bytes", "[I", true)
  | 18 => ("MailHeadsModel", "bytesLong", "I", false)
  | 19 => ("MailHeadsModel", "made", "[I", true)
  | 20 => ("MailHeadsModel", "madeLong", "[I", true)
  | 21 => ("MailHeadsModel", "many", "[I", true)
  | 22 => ("MailHeadsModel", "partAt", "[I", true)
  | 23 => ("MailHeadsModel", "partLong", "[I", true)
  | 24 => ("MailHeadsModel", "groups", "I", false)
  | 25 => ("MailHeadsModel", "badOnes", "I", false)
  | 26 => ("MailHeadsModel", "groupOf", "[I", true)
  | 27 => ("MailHeadsModel", "parameters", "I", false)
  | 28 => ("MailHeadsModel", "parameterFrom", "[I", true)
  | 29 => ("MailHeadsModel", "parameterTo", "[I", true)
  | 30 => ("MailHeadsModel", "piece", "[I", true)
  | 31 => ("MailHeadsModel", "coded", "[Z", true)
  | 32 => ("MailHeadsModel", "valueFrom", "[I", true)
  | 33 => ("MailHeadsModel", "valueTo", "[I", true)
  | 34 => ("MailHeadsModel", "typeBytes", "[I", true)
  | 35 => ("MailHeadsModel", "hand", "[I", true)
  | 36 => ("MailHeadsModel", "charset", "[I", true)
  | 37 => ("MailHeadsModel", "handLong", "I", false)
  | 38 => ("MailHeadsModel", "charsetLong", "I", false)
  | 39 => ("MailHeadsModel", "p", "I", false)
  | 40 => ("MailHeadsModel", "valueEnd", "I", false)
  | 41 => ("MailHeadsModel", "ofType", "Z", false)
  | 42 => ("MailHeadsModel", "localEnd", "I", false)
  | 43 => ("MailHeadsModel", "domainFrom", "I", false)
  | _ => ("MailHeadsModel", "w", "I", false)
def cT_Model : Nat → FieldType := fun k => match k with
  | 0 => .int
  | 1 => .array (.int)
  | 2 => .array (.int)
  | 3 => .int
  | 4 => .int
  | 5 => .int
  | 6 => .array (.int)
  | 7 => .array (.int)
  | 8 => .array (.int)
  | 9 => .array (.int)
  | 10 => .array (.int)
  | 11 => .int
  | 12 => .int
  | 13 => .array (.int)
  | 14 => .array (.int)
  | 15 => .array (.int)
  | 16 => .array (.int)
  | 17 => .array (.int)
  | 18 => .int
  | 19 => .array (.int)
  | 20 => .array (.int)
  | 21 => .array (.int)
  | 22 => .array (.int)
  | 23 => .array (.int)
  | 24 => .int
  | 25 => .int
  | 26 => .array (.int)
  | 27 => .int
  | 28 => .array (.int)
  | 29 => .array (.int)
  | 30 => .array (.int)
  | 31 => .array (.boolean)
  | 32 => .array (.int)
  | 33 => .array (.int)
  | 34 => .array (.int)
  | 35 => .array (.int)
  | 36 => .array (.int)
  | 37 => .int
  | 38 => .int
  | 39 => .int
  | 40 => .int
  | 41 => .boolean
  | 42 => .int
  | 43 => .int
  | _ => .int
theorem cN_Model : ∀ a, a < 45 → ∀ b, b < 45 → a ≠ b → (cF_Model a).2.1 ≠ (cF_Model b).2.1 := by decide +kernel
theorem cP_Model : ∀ k, k < 45 → parseFieldDescriptor (cF_Model k).2.2.1 = some (cT_Model k) := by decide +kernel
/-- the classes whose objects the worlds hold, by number -/
abbrev vwCl : List vw_C := [(cR_Mail, cF_Mail, 9), (cR_Row, cF_Row, 2), (cR_Head, cF_Head, 3), (cR_Texts, cF_Texts, 2), (cR_Words, cF_Words, 5), (cR_Addresses, cF_Addresses, 8), (cR_Identities, cF_Identities, 1), (cR_DateReader, cF_DateReader, 2), (cR_ContentType, cF_ContentType, 7), (cR_Model, cF_Model, 45)]
end
section
/-! THE MODEL HEAP: how many cells the machine's heap has, how many slots were made so far (a ghost), and what the cells hold that are ours. -/
abbrev hp_T : Type := Nat × Nat × (Nat → Option va_E)
def hp_up (h : hp_T) (a : Nat) (e : va_E) : hp_T := (h.1, h.2.1, fun q => if q = a then some e else h.2.2 q)
def hp_add (h : hp_T) (n : Nat) (e : va_E) : hp_T := (h.1 + 1, h.2.1 + n, fun q => if q = h.1 then some e else h.2.2 q)
theorem hp_up_self (h : hp_T) (a : Nat) (e : va_E) : (hp_up h a e).2.2 a = some e := if_pos rfl
theorem hp_up_ne {h : hp_T} {a q : Nat} {e : va_E} (n : q ≠ a) : (hp_up h a e).2.2 q = h.2.2 q := if_neg n
theorem hp_add_self (h : hp_T) (n : Nat) (e : va_E) : (hp_add h n e).2.2 h.1 = some e := if_pos rfl
theorem hp_add_ne {h : hp_T} {n q : Nat} {e : va_E} (z : q ≠ h.1) : (hp_add h n e).2.2 q = h.2.2 q := if_neg z
/-- the globals: the launch, where our cells begin, classes and slots by number, array classes, what is below -/
abbrev gl_G : Type := Launch × Nat × va_G × List (ClassId × FieldType) × (State → Prop)
abbrev gl_l (G : gl_G) : Launch := G.1
abbrev gl_b (G : gl_G) : Nat := G.2.1
abbrev gl_D (G : gl_G) : va_G := G.2.2.1
abbrev gl_t (G : gl_G) : List (ClassId × FieldType) := G.2.2.2.1
abbrev gl_L (G : gl_G) : State → Prop := G.2.2.2.2
abbrev gl_A (G : gl_G) : Nat → Prop := fun q => gl_b G ≤ q
def gl_ok (G : gl_G) : Prop := ∀ U V : State, U.WarmedH V.vm → (∀ q : Nat, q < U.heap.size → ¬ gl_b G ≤ q → V.heap[q]? = U.heap[q]?) → gl_L G U → gl_L G V
/-- a method: its name, bytes, locals, answer, words; frames and words of the stack that it nests -/
abbrev mt_M : Type := MethodName × ByteArray × Nat × Option FieldType × List Cond × Nat × Nat
abbrev mt_y (μ : mt_M) : MethodName := μ.1
abbrev mt_b (μ : mt_M) : ByteArray := μ.2.1
abbrev mt_n (μ : mt_M) : Nat := μ.2.2.1
abbrev mt_r (μ : mt_M) : Option FieldType := μ.2.2.2.1
abbrev mt_w (μ : mt_M) : List Cond := μ.2.2.2.2.1
abbrev mt_f (μ : mt_M) : Nat := μ.2.2.2.2.2.1
abbrev mt_l (μ : mt_M) : Nat := μ.2.2.2.2.2.2
/-- the machine's heap holds the model's cells -/
def hp_ok (G : gl_G) (h : hp_T) (H : Heap) : Prop := H.size = h.1 ∧ ∀ (a : Nat) (e : va_E), h.2.2 a = some e → va_at (gl_D G) vwCl (a, e) H ∧ gl_b G ≤ a
theorem hp_ok.one {G : gl_G} {h : hp_T} {H : Heap} (k : hp_ok G h H) {a : Nat} {e : va_E} (he : h.2.2 a = some e) : va_P (gl_D G) vwCl [(a, e)] H := by
  intro i q hq
  cases i with
  | zero => cases hq; exact (k.2 a e he).1
  | succ i => simp at hq
theorem hp_ok.lt {G : gl_G} {h : hp_T} {H : Heap} (k : hp_ok G h H) {a : Nat} {e : va_E} (he : h.2.2 a = some e) : a < h.1 := by
  rw [← k.1]; exact (k.2 a e he).1.lt
theorem hp_ok.set {G : gl_G} {h : hp_T} {H H1 : Heap} (k : hp_ok G h H) {a : Nat} {e : va_E} (ha : gl_b G ≤ a) (h1 : va_at (gl_D G) vwCl (a, e) H1) (z : H1.size = H.size) (o : ∀ q : Nat, q ≠ a → H1[q]? = H[q]?) : hp_ok G (hp_up h a e) H1 := by
  refine ⟨z.trans k.1, fun q x hx => ?_⟩
  by_cases hq : q = a
  · subst hq
    rw [hp_up_self] at hx
    cases hx
    exact ⟨h1, ha⟩
  · rw [hp_up_ne hq] at hx
    exact ⟨(k.2 q x hx).1.kept (o q hq), (k.2 q x hx).2⟩
theorem hp_ok.push {G : gl_G} {h : hp_T} {H H1 : Heap} (k : hp_ok G h H) {n : Nat} {e : va_E} (hb : gl_b G ≤ h.1) (h1 : va_at (gl_D G) vwCl (h.1, e) H1) (z : H1.size = H.size + 1) (o : ∀ q : Nat, q < H.size → H1[q]? = H[q]?) : hp_ok G (hp_add h n e) H1 := by
  refine ⟨by rw [z, k.1]; rfl, fun q x hx => ?_⟩
  by_cases hq : q = h.1
  · subst hq
    rw [hp_add_self] at hx
    cases hx
    exact ⟨h1, hb⟩
  · rw [hp_add_ne hq] at hx
    exact ⟨(k.2 q x hx).1.kept (o q (k.2 q x hx).1.lt), (k.2 q x hx).2⟩
/-- what a walk of the method μ has at hand -/
def cx_ok (G : gl_G) (μ : mt_M) (p : Program) (R : Room) (s : State) (m : MethodId) (args : Array Value) (meth : Method) (c : Code) : Prop :=
  p.tables.exec = Jvm.exec ∧ c.code = mt_b μ ∧ c.maxLocals = mt_n μ ∧ meth.sig.returnType = mt_r μ ∧ s.vm.findClass (mt_y μ).cls = some m.cls ∧ (∀ w ∈ mt_w μ, w.before args s = true) ∧ meth.locks = false ∧ meth.name = (mt_y μ).name ∧
  va_K (gl_D G) vwCl (gl_t G) s ∧ gl_L G s ∧ gl_b G ≤ s.heap.size ∧ R.frames = mt_f μ ∧ R.locals = mt_l μ ∧ gl_ok G
/-- the end of a method: the answer o, the cells h' -/
def ct_Q (G : gl_G) (o : Option Value) (h' : hp_T) : Array Value → State → Outcome → State → Prop := fun _ st oc t => oc = .returned o ∧ hp_ok G h' t.heap ∧ va_F (gl_A G) st t
def ct_P (G : gl_G) (av : List Value) (h : hp_T) : Array Value → State → Prop := va_Pc av (fun U => hp_ok G h U.heap ∧ gl_b G ≤ U.heap.size ∧ va_K (gl_D G) vwCl (gl_t G) U ∧ gl_L G U)
def ct_R (μ : mt_M) (mc ms : Nat) : Room := { frames := mt_f μ, cells := mc, slots := ms, locals := mt_l μ }
/-- THE CONTRACT: called with av over the cells h, the method answers o and leaves h' -/
def ct_D (G : gl_G) (μ : mt_M) (av : List Value) (h : hp_T) (o : Option Value) (h' : hp_T) : Prop :=
  h.1 ≤ h'.1 ∧ h.2.1 ≤ h'.2.1 ∧ (gl_ok G → Met (gl_l G) (mt_y μ) (mt_w μ) (ct_R μ (h'.1 - h.1) (h'.2.1 - h.2.1)) (ct_P G av h) (ct_Q G o h') (h'.1 - h.1) (h'.2.1 - h.2.1) (gl_A G))
def ct_E (G : gl_G) (μ : mt_M) (av : List Value) (h : hp_T) (Z : Option Value → hp_T → Prop) : Prop := ∃ o h', Z o h' ∧ ct_D G μ av h o h'
/-- FROM HERE: at pc with the locals lv, the operands st, the cells h: the method answers o and leaves h' -/
def ev_D (G : gl_G) (μ : mt_M) (pc : Nat) (lv : List (Nat × Value)) (st : List Value) (h : hp_T) (o : Option Value) (h' : hp_T) : Prop :=
  h.1 ≤ h'.1 ∧ h.2.1 ≤ h'.2.1 ∧ ∀ (p : Program) (e : Env) (R : Room) (s : State) (m : MethodId) (args : Array Value) (below : List Frame) (meth : Method) (c : Code), cx_ok G μ p R s m args meth c →
    ∀ (H : Heap) (locs : List Loc) (cells slots : Nat) (ls : Array Slot), hp_ok G h H → va_S (gl_A G) s.heap H locs → lv_has ls (mt_n μ) lv → cells + (h'.1 - h.1) ≤ R.cells → slots + (h'.2.1 - h.2.1) ≤ R.slots →
      W p (gl_l G) e R s m args below meth c H locs cells slots (MQ below (ct_Q G o h') args s R.cells R.slots (gl_A G)) (F0 m pc ls st)
def ev_E (G : gl_G) (μ : mt_M) (pc : Nat) (lv : List (Nat × Value)) (st : List Value) (h : hp_T) (Z : Option Value → hp_T → Prop) : Prop := ∃ o h', Z o h' ∧ ev_D G μ pc lv st h o h'
theorem ev_to {G : gl_G} {μ : mt_M} {pc : Nat} {lv : List (Nat × Value)} {st : List Value} {h : hp_T} {Z Z' : Option Value → hp_T → Prop} (k : ev_E G μ pc lv st h Z) (hz : ∀ o h', Z o h' → Z' o h') : ev_E G μ pc lv st h Z' := by
  obtain ⟨o, h', a, b⟩ := k
  exact ⟨o, h', hz o h' a, b⟩
theorem ct_to {G : gl_G} {μ : mt_M} {av : List Value} {h : hp_T} {Z Z' : Option Value → hp_T → Prop} (k : ct_E G μ av h Z) (hz : ∀ o h', Z o h' → Z' o h') : ct_E G μ av h Z' := by
  obtain ⟨o, h', a, b⟩ := k
  exact ⟨o, h', hz o h' a, b⟩
/-- a method's contract out of its walk -/
theorem ct_of {G : gl_G} {μ : mt_M} {av : List Value} {h : hp_T} {Z : Option Value → hp_T → Prop} {ws' : List Cond} (hy : plainName (mt_y μ).cls = true) (hw : mt_w μ = Cond.code (mt_y μ) (mt_b μ) (mt_n μ) (mt_r μ) :: ws') (hn : (lg_sl av).length ≤ mt_n μ) (k : ev_E G μ 0 (lv_args 0 av) [] h Z) : ct_E G μ av h Z := by
  obtain ⟨o, h', hz, h1, h2, k⟩ := k
  refine ⟨o, h', hz, h1, h2, fun hG => ?_⟩
  refine Met.ofW (cc := mt_b μ) (maxL := mt_n μ) (ret := mt_r μ) hy hw ?_
  intro p e s m args below meth c s₁ B hml hv
  obtain ⟨rfl, hO, hbs, hK, hL⟩ := hv
  have hts := atoms_spec (ws := mt_w μ) B.pre
  have hown : s.vm.findClass (mt_y μ).cls = some m.cls := findClass_of_methodNamed B.named
  have hl := lv_entry av (n := mt_n μ) hn
  rw [lg_entry_eq]
  refine k p e (ct_R μ (h'.1 - h.1) (h'.2.1 - h.2.1)) s m _ below meth c ⟨B.exec, B.bytes, hml, B.returns, hown, hts, B.notSynchronized, (name_of_methodNamed B.named B.method).1, hK, hL, hbs, rfl, rfl, hG⟩ s.heap [] 0 0 _ hO va_S.rf hl ?_ ?_
  · exact Nat.le_of_eq (Nat.zero_add _)
  · exact Nat.le_of_eq (Nat.zero_add _)
/-- a step that leaves the cells -/
theorem ev_pure {G : gl_G} {μ : mt_M} {pc pc2 : Nat} {lv lv2 : List (Nat × Value)} {st st2 : List Value} {h : hp_T} {Z : Option Value → hp_T → Prop}
    (hs : ∀ (p : Program) (e : Env) (R : Room) (s : State) (m : MethodId) (args : Array Value) (below : List Frame) (meth : Method) (c : Code), cx_ok G μ p R s m args meth c → ∀ (H : Heap) (locs : List Loc) (cells slots : Nat) (Q : State → Prop) (ls : Array Slot), hp_ok G h H → va_S (gl_A G) s.heap H locs → lv_has ls (mt_n μ) lv →
      (∀ ls2 : Array Slot, lv_has ls2 (mt_n μ) lv2 → W p (gl_l G) e R s m args below meth c H locs cells slots Q (F0 m pc2 ls2 st2)) → W p (gl_l G) e R s m args below meth c H locs cells slots Q (F0 m pc ls st))
    (k : ev_E G μ pc2 lv2 st2 h Z) : ev_E G μ pc lv st h Z := by
  obtain ⟨o, h', hZ, h1, h2, k⟩ := k
  exact ⟨o, h', hZ, h1, h2, fun p e R s m args below meth c C H locs cells slots ls hO hS hl hc hq => hs p e R s m args below meth c C H locs cells slots _ ls hO hS hl (fun ls2 hl2 => k p e R s m args below meth c C H locs cells slots ls2 hO hS hl2 hc hq)⟩
end
section
/-! locals by their numbers -/
def lq_at : List (Nat × Value) → Nat → Option Value
  | [], _ => none
  | (j, v) :: l, i => bif Nat.beq j i then some v else lq_at l i
theorem lq_mem {i : Nat} {v : Value} : ∀ {lv : List (Nat × Value)}, lq_at lv i = some v → (i, v) ∈ lv
  | [], h => by cases h
  | (j, w) :: l, h => by
    unfold lq_at at h
    cases hb : Nat.beq j i with
    | true =>
      rw [hb] at h
      have hji : j = i := Nat.eq_of_beq_eq_true hb
      subst hji
      cases h
      exact List.mem_cons_self
    | false =>
      rw [hb] at h
      exact List.mem_cons_of_mem _ (lq_mem h)
theorem lq_has {ls : Array Slot} {n i : Nat} {lv : List (Nat × Value)} {v : Value} (hl : lv_has ls n lv) (h : lq_at lv i = some v) : ls[i]? = some (.val v) := hl.2.2 (i, v) (lq_mem h)
def lq_out (i : Nat) : Nat × Value → Bool := fun q => !(q.1 == i) && !(q.1 + 1 == i && q.2.category == 2)
def lq_out2 (i : Nat) : Nat × Value → Bool := fun q => !(q.1 == i) && (!(q.1 == i + 1) && !(q.1 + 1 == i && q.2.category == 2))
/-- store in place, at the end where it is new -/
def lq_put : List (Nat × Value) → Nat → Value → List (Nat × Value)
  | [], i, v => [(i, v)]
  | q :: l, i, v => bif Nat.beq q.1 i then (i, v) :: l.filter (lq_out i) else bif lq_out i q then q :: lq_put l i v else lq_put l i v
def lq_put2 (lv : List (Nat × Value)) (i : Nat) (v : Value) : List (Nat × Value) := lv.filter (lq_out2 i) ++ [(i, v)]
theorem lq_put_mem {i : Nat} {v : Value} {x : Nat × Value} : ∀ {lv : List (Nat × Value)}, x ∈ lq_put lv i v → x ∈ (i, v) :: lv.filter (lq_out i)
  | [], h => by
    rw [lq_put] at h
    exact h
  | q :: l, h => by
    rw [lq_put] at h
    cases hb : Nat.beq q.1 i with
    | true =>
      rw [hb] at h
      rcases List.mem_cons.mp h with e | e
      · rw [e]; exact List.mem_cons_self
      · refine List.mem_cons_of_mem _ ?_
        obtain ⟨h1, h2⟩ := List.mem_filter.mp e
        exact List.mem_filter.mpr ⟨List.mem_cons_of_mem _ h1, h2⟩
    | false =>
      rw [hb] at h
      have sub : x ∈ lq_put l i v → x ∈ (i, v) :: (q :: l).filter (lq_out i) := fun z => by
        rcases List.mem_cons.mp (lq_put_mem z) with e | e
        · rw [e]; exact List.mem_cons_self
        · refine List.mem_cons_of_mem _ ?_
          obtain ⟨h1, h2⟩ := List.mem_filter.mp e
          exact List.mem_filter.mpr ⟨List.mem_cons_of_mem _ h1, h2⟩
      cases hc : lq_out i q with
      | true =>
        rw [hc] at h
        rcases List.mem_cons.mp h with e | e
        · rw [e]; exact List.mem_cons_of_mem _ (List.mem_filter.mpr ⟨List.mem_cons_self, hc⟩)
        · exact sub e
      | false =>
        rw [hc] at h
        exact sub h
theorem lq_put_has {ls : Array Slot} {n i : Nat} {lv : List (Nat × Value)} {v : Value} (hl : lv_has ls n ((i, v) :: lv.filter (fun q => !(q.1 == i) && !(q.1 + 1 == i && q.2.category == 2)))) : lv_has ls n (lq_put lv i v) :=
  ⟨hl.1, hl.2.1, fun q hq => hl.2.2 q (lq_put_mem hq)⟩
theorem lq_put2_has {ls : Array Slot} {n i : Nat} {lv : List (Nat × Value)} {v : Value} (hl : lv_has ls n ((i, v) :: lv.filter (fun q => !(q.1 == i) && (!(q.1 == i + 1) && !(q.1 + 1 == i && q.2.category == 2))))) : lv_has ls n (lq_put2 lv i v) :=
  ⟨hl.1, hl.2.1, fun q hq => hl.2.2 q (by
    rcases List.mem_append.mp hq with e | e
    · exact List.mem_cons_of_mem _ e
    · rw [List.mem_singleton.mp e]; exact List.mem_cons_self)⟩
/-- fewer locals, in any order -/
theorem ev_lv {G : gl_G} {μ : mt_M} {pc : Nat} {lv lv2 : List (Nat × Value)} {st : List Value} {h : hp_T} {Z : Option Value → hp_T → Prop} (hs : ∀ q ∈ lv2, lq_at lv q.1 = some q.2) (k : ev_E G μ pc lv2 st h Z) : ev_E G μ pc lv st h Z :=
  ev_pure (fun _ _ _ _ _ _ _ _ _ _ _ _ _ _ _ ls _ _ hl k => k ls ⟨hl.1, hl.2.1, fun q hq => hl.2.2 q (lq_mem (hs q hq))⟩) k
theorem ev_iconst {G : gl_G} {μ : mt_M} {pc : Nat} {lv : List (Nat × Value)} {st : List Value} {h : hp_T} {Z : Option Value → hp_T → Prop} {n : Int} {v : Int32} (hd : decode (mt_b μ) pc = .ok (.iconst n, 1)) (hv : Int32.ofInt n = v) (k : ev_E G μ (pc + 1) lv (.int v :: st) h Z) : ev_E G μ pc lv (st) h Z :=
  ev_pure (fun _ _ _ _ _ _ _ _ _ C _ _ _ _ _ ls _ _ hl k => lv_iconst C.1 C.2.1 hd hv (k ls hl)) k
theorem ev_bipush {G : gl_G} {μ : mt_M} {pc : Nat} {lv : List (Nat × Value)} {st : List Value} {h : hp_T} {Z : Option Value → hp_T → Prop} {n : Int} {v : Int32} (hd : decode (mt_b μ) pc = .ok (.bipush n, 2)) (hv : (Int8.ofInt n).toInt32 = v) (k : ev_E G μ (pc + 2) lv (.int v :: st) h Z) : ev_E G μ pc lv (st) h Z :=
  ev_pure (fun _ _ _ _ _ _ _ _ _ C _ _ _ _ _ ls _ _ hl k => lv_bipush C.1 C.2.1 hd hv (k ls hl)) k
theorem ev_sipush {G : gl_G} {μ : mt_M} {pc : Nat} {lv : List (Nat × Value)} {st : List Value} {h : hp_T} {Z : Option Value → hp_T → Prop} {n : Int} {v : Int32} (hd : decode (mt_b μ) pc = .ok (.sipush n, 3)) (hv : (Int16.ofInt n).toInt32 = v) (k : ev_E G μ (pc + 3) lv (.int v :: st) h Z) : ev_E G μ pc lv (st) h Z :=
  ev_pure (fun _ _ _ _ _ _ _ _ _ C _ _ _ _ _ ls _ _ hl k => lv_sipush C.1 C.2.1 hd hv (k ls hl)) k
theorem ev_lconst {G : gl_G} {μ : mt_M} {pc : Nat} {lv : List (Nat × Value)} {st : List Value} {h : hp_T} {Z : Option Value → hp_T → Prop} {n : Fin 2} {v : Int64} (hd : decode (mt_b μ) pc = .ok (.lconst n, 1)) (hv : Int64.ofNat (n : Nat) = v) (k : ev_E G μ (pc + 1) lv (.long v :: st) h Z) : ev_E G μ pc lv (st) h Z :=
  ev_pure (fun _ _ _ _ _ _ _ _ _ C _ _ _ _ _ ls _ _ hl k => lv_lconst C.1 C.2.1 hd hv (k ls hl)) k
theorem ev_iload_n {G : gl_G} {μ : mt_M} {pc : Nat} {lv : List (Nat × Value)} {st : List Value} {h : hp_T} {Z : Option Value → hp_T → Prop} {n : Fin 4} {i : Nat} {x : Int32} (hd : decode (mt_b μ) pc = .ok (.iload_n n, 1)) (hi : (n : Nat) = i) (hq : lq_at lv i = some (.int x)) (k : ev_E G μ (pc + 1) lv (.int x :: st) h Z) : ev_E G μ pc lv (st) h Z :=
  ev_pure (fun _ _ _ _ _ _ _ _ _ C _ _ _ _ _ ls _ _ hl k => lv_iload_n C.1 C.2.1 hd hi (lq_has hl hq) (k ls hl)) k
theorem ev_iload {G : gl_G} {μ : mt_M} {pc : Nat} {lv : List (Nat × Value)} {st : List Value} {h : hp_T} {Z : Option Value → hp_T → Prop} {i : Nat} {x : Int32} (hd : decode (mt_b μ) pc = .ok (.iload i, 2)) (hq : lq_at lv i = some (.int x)) (k : ev_E G μ (pc + 2) lv (.int x :: st) h Z) : ev_E G μ pc lv (st) h Z :=
  ev_pure (fun _ _ _ _ _ _ _ _ _ C _ _ _ _ _ ls _ _ hl k => lv_iload C.1 C.2.1 hd (lq_has hl hq) (k ls hl)) k
theorem ev_lload_n {G : gl_G} {μ : mt_M} {pc : Nat} {lv : List (Nat × Value)} {st : List Value} {h : hp_T} {Z : Option Value → hp_T → Prop} {n : Fin 4} {i : Nat} {x : Int64} (hd : decode (mt_b μ) pc = .ok (.lload_n n, 1)) (hi : (n : Nat) = i) (hq : lq_at lv i = some (.long x)) (k : ev_E G μ (pc + 1) lv (.long x :: st) h Z) : ev_E G μ pc lv (st) h Z :=
  ev_pure (fun _ _ _ _ _ _ _ _ _ C _ _ _ _ _ ls _ _ hl k => lv_lload_n C.1 C.2.1 hd hi (lq_has hl hq) (k ls hl)) k
theorem ev_lload {G : gl_G} {μ : mt_M} {pc : Nat} {lv : List (Nat × Value)} {st : List Value} {h : hp_T} {Z : Option Value → hp_T → Prop} {i : Nat} {x : Int64} (hd : decode (mt_b μ) pc = .ok (.lload i, 2)) (hq : lq_at lv i = some (.long x)) (k : ev_E G μ (pc + 2) lv (.long x :: st) h Z) : ev_E G μ pc lv (st) h Z :=
  ev_pure (fun _ _ _ _ _ _ _ _ _ C _ _ _ _ _ ls _ _ hl k => lv_lload C.1 C.2.1 hd (lq_has hl hq) (k ls hl)) k
theorem ev_aload_n {G : gl_G} {μ : mt_M} {pc : Nat} {lv : List (Nat × Value)} {st : List Value} {h : hp_T} {Z : Option Value → hp_T → Prop} {n : Fin 4} {i : Nat} {x : Nat} (hd : decode (mt_b μ) pc = .ok (.aload_n n, 1)) (hi : (n : Nat) = i) (hq : lq_at lv i = some (.ref x)) (k : ev_E G μ (pc + 1) lv (.ref x :: st) h Z) : ev_E G μ pc lv (st) h Z :=
  ev_pure (fun _ _ _ _ _ _ _ _ _ C _ _ _ _ _ ls _ _ hl k => lv_aload_n C.1 C.2.1 hd hi (lq_has hl hq) (k ls hl)) k
theorem ev_aload {G : gl_G} {μ : mt_M} {pc : Nat} {lv : List (Nat × Value)} {st : List Value} {h : hp_T} {Z : Option Value → hp_T → Prop} {i : Nat} {x : Nat} (hd : decode (mt_b μ) pc = .ok (.aload i, 2)) (hq : lq_at lv i = some (.ref x)) (k : ev_E G μ (pc + 2) lv (.ref x :: st) h Z) : ev_E G μ pc lv (st) h Z :=
  ev_pure (fun _ _ _ _ _ _ _ _ _ C _ _ _ _ _ ls _ _ hl k => lv_aload C.1 C.2.1 hd (lq_has hl hq) (k ls hl)) k
theorem ev_istore_n {G : gl_G} {μ : mt_M} {pc : Nat} {lv : List (Nat × Value)} {st : List Value} {h : hp_T} {Z : Option Value → hp_T → Prop} {n : Fin 4} {i : Nat} {x : Int32} (hd : decode (mt_b μ) pc = .ok (.istore_n n, 1)) (hi : (n : Nat) = i) (hn : i < mt_n μ) (k : ev_E G μ (pc + 1) (lq_put lv i (.int x)) st h Z) : ev_E G μ pc lv (.int x :: st) h Z :=
  ev_pure (fun _ _ _ _ _ _ _ _ _ C _ _ _ _ _ ls _ _ hl k => lv_istore_n C.1 C.2.1 hd hi hl hn rfl (fun ls' hl' => k ls' (lq_put_has hl'))) k
theorem ev_istore {G : gl_G} {μ : mt_M} {pc : Nat} {lv : List (Nat × Value)} {st : List Value} {h : hp_T} {Z : Option Value → hp_T → Prop} {i : Nat} {x : Int32} (hd : decode (mt_b μ) pc = .ok (.istore i, 2)) (hn : i < mt_n μ) (k : ev_E G μ (pc + 2) (lq_put lv i (.int x)) st h Z) : ev_E G μ pc lv (.int x :: st) h Z :=
  ev_pure (fun _ _ _ _ _ _ _ _ _ C _ _ _ _ _ ls _ _ hl k => lv_istore C.1 C.2.1 hd hl hn rfl (fun ls' hl' => k ls' (lq_put_has hl'))) k
theorem ev_astore_n {G : gl_G} {μ : mt_M} {pc : Nat} {lv : List (Nat × Value)} {st : List Value} {h : hp_T} {Z : Option Value → hp_T → Prop} {n : Fin 4} {i : Nat} {x : Nat} (hd : decode (mt_b μ) pc = .ok (.astore_n n, 1)) (hi : (n : Nat) = i) (hn : i < mt_n μ) (k : ev_E G μ (pc + 1) (lq_put lv i (.ref x)) st h Z) : ev_E G μ pc lv (.ref x :: st) h Z :=
  ev_pure (fun _ _ _ _ _ _ _ _ _ C _ _ _ _ _ ls _ _ hl k => lv_astore_n C.1 C.2.1 hd hi hl hn rfl (fun ls' hl' => k ls' (lq_put_has hl'))) k
theorem ev_astore {G : gl_G} {μ : mt_M} {pc : Nat} {lv : List (Nat × Value)} {st : List Value} {h : hp_T} {Z : Option Value → hp_T → Prop} {i : Nat} {x : Nat} (hd : decode (mt_b μ) pc = .ok (.astore i, 2)) (hn : i < mt_n μ) (k : ev_E G μ (pc + 2) (lq_put lv i (.ref x)) st h Z) : ev_E G μ pc lv (.ref x :: st) h Z :=
  ev_pure (fun _ _ _ _ _ _ _ _ _ C _ _ _ _ _ ls _ _ hl k => lv_astore C.1 C.2.1 hd hl hn rfl (fun ls' hl' => k ls' (lq_put_has hl'))) k
theorem ev_lstore_n {G : gl_G} {μ : mt_M} {pc : Nat} {lv : List (Nat × Value)} {st : List Value} {h : hp_T} {Z : Option Value → hp_T → Prop} {n : Fin 4} {i : Nat} {x : Int64} (hd : decode (mt_b μ) pc = .ok (.lstore_n n, 1)) (hi : (n : Nat) = i) (hn : i + 1 < mt_n μ) (k : ev_E G μ (pc + 1) (lq_put2 lv i (.long x)) st h Z) : ev_E G μ pc lv (.long x :: st) h Z :=
  ev_pure (fun _ _ _ _ _ _ _ _ _ C _ _ _ _ _ ls _ _ hl k => lv_lstore_n C.1 C.2.1 hd hi hl hn rfl (fun ls' hl' => k ls' (lq_put2_has hl'))) k
theorem ev_lstore {G : gl_G} {μ : mt_M} {pc : Nat} {lv : List (Nat × Value)} {st : List Value} {h : hp_T} {Z : Option Value → hp_T → Prop} {i : Nat} {x : Int64} (hd : decode (mt_b μ) pc = .ok (.lstore i, 2)) (hn : i + 1 < mt_n μ) (k : ev_E G μ (pc + 2) (lq_put2 lv i (.long x)) st h Z) : ev_E G μ pc lv (.long x :: st) h Z :=
  ev_pure (fun _ _ _ _ _ _ _ _ _ C _ _ _ _ _ ls _ _ hl k => lv_lstore C.1 C.2.1 hd hl hn rfl (fun ls' hl' => k ls' (lq_put2_has hl'))) k
theorem ev_iinc {G : gl_G} {μ : mt_M} {pc : Nat} {lv : List (Nat × Value)} {st : List Value} {h : hp_T} {Z : Option Value → hp_T → Prop} {i : Nat} {n : Int} {x : Int32} (hd : decode (mt_b μ) pc = .ok (.iinc i n, 3)) (hq : lq_at lv i = some (.int x)) (hn : i < mt_n μ) (k : ev_E G μ (pc + 3) (lq_put lv i (.int (x + Int32.ofInt n))) st h Z) : ev_E G μ pc lv st h Z := by
  obtain ⟨j, hj⟩ := List.getElem?_of_mem (lq_mem hq)
  exact ev_pure (fun _ _ _ _ _ _ _ _ _ C _ _ _ _ _ ls _ _ hl k => lv_iinc C.1 C.2.1 hd hl hj rfl hn rfl (fun ls' hl' => k ls' (lq_put_has hl'))) k
theorem ev_iadd {G : gl_G} {μ : mt_M} {pc : Nat} {lv : List (Nat × Value)} {st : List Value} {h : hp_T} {Z : Option Value → hp_T → Prop} {x y : Int32} (hd : decode (mt_b μ) pc = .ok (.iadd, 1)) (k : ev_E G μ (pc + 1) lv (.int (x + y) :: st) h Z) : ev_E G μ pc lv (.int y :: .int x :: st) h Z :=
  ev_pure (fun _ _ _ _ _ _ _ _ _ C _ _ _ _ _ ls _ _ hl k => lv_iadd C.1 C.2.1 hd (k ls hl)) k
theorem ev_isub {G : gl_G} {μ : mt_M} {pc : Nat} {lv : List (Nat × Value)} {st : List Value} {h : hp_T} {Z : Option Value → hp_T → Prop} {x y : Int32} (hd : decode (mt_b μ) pc = .ok (.isub, 1)) (k : ev_E G μ (pc + 1) lv (.int (x - y) :: st) h Z) : ev_E G μ pc lv (.int y :: .int x :: st) h Z :=
  ev_pure (fun _ _ _ _ _ _ _ _ _ C _ _ _ _ _ ls _ _ hl k => lv_isub C.1 C.2.1 hd (k ls hl)) k
theorem ev_imul {G : gl_G} {μ : mt_M} {pc : Nat} {lv : List (Nat × Value)} {st : List Value} {h : hp_T} {Z : Option Value → hp_T → Prop} {x y : Int32} (hd : decode (mt_b μ) pc = .ok (.imul, 1)) (k : ev_E G μ (pc + 1) lv (.int (x * y) :: st) h Z) : ev_E G μ pc lv (.int y :: .int x :: st) h Z :=
  ev_pure (fun _ _ _ _ _ _ _ _ _ C _ _ _ _ _ ls _ _ hl k => lv_imul C.1 C.2.1 hd (k ls hl)) k
theorem ev_iand {G : gl_G} {μ : mt_M} {pc : Nat} {lv : List (Nat × Value)} {st : List Value} {h : hp_T} {Z : Option Value → hp_T → Prop} {x y : Int32} (hd : decode (mt_b μ) pc = .ok (.iand, 1)) (k : ev_E G μ (pc + 1) lv (.int (x &&& y) :: st) h Z) : ev_E G μ pc lv (.int y :: .int x :: st) h Z :=
  ev_pure (fun _ _ _ _ _ _ _ _ _ C _ _ _ _ _ ls _ _ hl k => lv_iand C.1 C.2.1 hd (k ls hl)) k
theorem ev_ior {G : gl_G} {μ : mt_M} {pc : Nat} {lv : List (Nat × Value)} {st : List Value} {h : hp_T} {Z : Option Value → hp_T → Prop} {x y : Int32} (hd : decode (mt_b μ) pc = .ok (.ior, 1)) (k : ev_E G μ (pc + 1) lv (.int (x ||| y) :: st) h Z) : ev_E G μ pc lv (.int y :: .int x :: st) h Z :=
  ev_pure (fun _ _ _ _ _ _ _ _ _ C _ _ _ _ _ ls _ _ hl k => lv_ior C.1 C.2.1 hd (k ls hl)) k
theorem ev_ixor {G : gl_G} {μ : mt_M} {pc : Nat} {lv : List (Nat × Value)} {st : List Value} {h : hp_T} {Z : Option Value → hp_T → Prop} {x y : Int32} (hd : decode (mt_b μ) pc = .ok (.ixor, 1)) (k : ev_E G μ (pc + 1) lv (.int (x ^^^ y) :: st) h Z) : ev_E G μ pc lv (.int y :: .int x :: st) h Z :=
  ev_pure (fun _ _ _ _ _ _ _ _ _ C _ _ _ _ _ ls _ _ hl k => lv_ixor C.1 C.2.1 hd (k ls hl)) k
theorem ev_ishl {G : gl_G} {μ : mt_M} {pc : Nat} {lv : List (Nat × Value)} {st : List Value} {h : hp_T} {Z : Option Value → hp_T → Prop} {x y : Int32} (hd : decode (mt_b μ) pc = .ok (.ishl, 1)) (k : ev_E G μ (pc + 1) lv (.int (x <<< (y &&& 31)) :: st) h Z) : ev_E G μ pc lv (.int y :: .int x :: st) h Z :=
  ev_pure (fun _ _ _ _ _ _ _ _ _ C _ _ _ _ _ ls _ _ hl k => lv_ishl C.1 C.2.1 hd (k ls hl)) k
theorem ev_ishr {G : gl_G} {μ : mt_M} {pc : Nat} {lv : List (Nat × Value)} {st : List Value} {h : hp_T} {Z : Option Value → hp_T → Prop} {x y : Int32} (hd : decode (mt_b μ) pc = .ok (.ishr, 1)) (k : ev_E G μ (pc + 1) lv (.int (x >>> (y &&& 31)) :: st) h Z) : ev_E G μ pc lv (.int y :: .int x :: st) h Z :=
  ev_pure (fun _ _ _ _ _ _ _ _ _ C _ _ _ _ _ ls _ _ hl k => lv_ishr C.1 C.2.1 hd (k ls hl)) k
theorem ev_idiv {G : gl_G} {μ : mt_M} {pc : Nat} {lv : List (Nat × Value)} {st : List Value} {h : hp_T} {Z : Option Value → hp_T → Prop} {x y : Int32} (hd : decode (mt_b μ) pc = .ok (.idiv, 1)) (hne : ¬ y = 0) (k : ev_E G μ (pc + 1) lv (.int (x / y) :: st) h Z) : ev_E G μ pc lv (.int y :: .int x :: st) h Z :=
  ev_pure (fun _ _ _ _ _ _ _ _ _ C _ _ _ _ _ ls _ _ hl k => lv_idiv C.1 C.2.1 hd hne (k ls hl)) k
theorem ev_irem {G : gl_G} {μ : mt_M} {pc : Nat} {lv : List (Nat × Value)} {st : List Value} {h : hp_T} {Z : Option Value → hp_T → Prop} {x y : Int32} (hd : decode (mt_b μ) pc = .ok (.irem, 1)) (hne : ¬ y = 0) (k : ev_E G μ (pc + 1) lv (.int (x - x / y * y) :: st) h Z) : ev_E G μ pc lv (.int y :: .int x :: st) h Z :=
  ev_pure (fun _ _ _ _ _ _ _ _ _ C _ _ _ _ _ ls _ _ hl k => lv_irem C.1 C.2.1 hd hne (k ls hl)) k
theorem ev_ineg {G : gl_G} {μ : mt_M} {pc : Nat} {lv : List (Nat × Value)} {st : List Value} {h : hp_T} {Z : Option Value → hp_T → Prop} {x : Int32} (hd : decode (mt_b μ) pc = .ok (.ineg, 1)) (k : ev_E G μ (pc + 1) lv (.int (-x) :: st) h Z) : ev_E G μ pc lv (.int x :: st) h Z :=
  ev_pure (fun _ _ _ _ _ _ _ _ _ C _ _ _ _ _ ls _ _ hl k => lv_ineg C.1 C.2.1 hd (k ls hl)) k
theorem ev_ladd {G : gl_G} {μ : mt_M} {pc : Nat} {lv : List (Nat × Value)} {st : List Value} {h : hp_T} {Z : Option Value → hp_T → Prop} {x y : Int64} (hd : decode (mt_b μ) pc = .ok (.ladd, 1)) (k : ev_E G μ (pc + 1) lv (.long (x + y) :: st) h Z) : ev_E G μ pc lv (.long y :: .long x :: st) h Z :=
  ev_pure (fun _ _ _ _ _ _ _ _ _ C _ _ _ _ _ ls _ _ hl k => lv_ladd C.1 C.2.1 hd (k ls hl)) k
theorem ev_lsub {G : gl_G} {μ : mt_M} {pc : Nat} {lv : List (Nat × Value)} {st : List Value} {h : hp_T} {Z : Option Value → hp_T → Prop} {x y : Int64} (hd : decode (mt_b μ) pc = .ok (.lsub, 1)) (k : ev_E G μ (pc + 1) lv (.long (x - y) :: st) h Z) : ev_E G μ pc lv (.long y :: .long x :: st) h Z :=
  ev_pure (fun _ _ _ _ _ _ _ _ _ C _ _ _ _ _ ls _ _ hl k => lv_lsub C.1 C.2.1 hd (k ls hl)) k
theorem ev_lmul {G : gl_G} {μ : mt_M} {pc : Nat} {lv : List (Nat × Value)} {st : List Value} {h : hp_T} {Z : Option Value → hp_T → Prop} {x y : Int64} (hd : decode (mt_b μ) pc = .ok (.lmul, 1)) (k : ev_E G μ (pc + 1) lv (.long (x * y) :: st) h Z) : ev_E G μ pc lv (.long y :: .long x :: st) h Z :=
  ev_pure (fun _ _ _ _ _ _ _ _ _ C _ _ _ _ _ ls _ _ hl k => lv_lmul C.1 C.2.1 hd (k ls hl)) k
theorem ev_land {G : gl_G} {μ : mt_M} {pc : Nat} {lv : List (Nat × Value)} {st : List Value} {h : hp_T} {Z : Option Value → hp_T → Prop} {x y : Int64} (hd : decode (mt_b μ) pc = .ok (.land, 1)) (k : ev_E G μ (pc + 1) lv (.long (x &&& y) :: st) h Z) : ev_E G μ pc lv (.long y :: .long x :: st) h Z :=
  ev_pure (fun _ _ _ _ _ _ _ _ _ C _ _ _ _ _ ls _ _ hl k => lv_land C.1 C.2.1 hd (k ls hl)) k
theorem ev_lor {G : gl_G} {μ : mt_M} {pc : Nat} {lv : List (Nat × Value)} {st : List Value} {h : hp_T} {Z : Option Value → hp_T → Prop} {x y : Int64} (hd : decode (mt_b μ) pc = .ok (.lor, 1)) (k : ev_E G μ (pc + 1) lv (.long (x ||| y) :: st) h Z) : ev_E G μ pc lv (.long y :: .long x :: st) h Z :=
  ev_pure (fun _ _ _ _ _ _ _ _ _ C _ _ _ _ _ ls _ _ hl k => lv_lor C.1 C.2.1 hd (k ls hl)) k
theorem ev_i2l {G : gl_G} {μ : mt_M} {pc : Nat} {lv : List (Nat × Value)} {st : List Value} {h : hp_T} {Z : Option Value → hp_T → Prop} {x : Int32} (hd : decode (mt_b μ) pc = .ok (.i2l, 1)) (k : ev_E G μ (pc + 1) lv (.long x.toInt64 :: st) h Z) : ev_E G μ pc lv (.int x :: st) h Z :=
  ev_pure (fun _ _ _ _ _ _ _ _ _ C _ _ _ _ _ ls _ _ hl k => lv_i2l C.1 C.2.1 hd rfl (k ls hl)) k
theorem ev_l2i {G : gl_G} {μ : mt_M} {pc : Nat} {lv : List (Nat × Value)} {st : List Value} {h : hp_T} {Z : Option Value → hp_T → Prop} {x : Int64} (hd : decode (mt_b μ) pc = .ok (.l2i, 1)) (k : ev_E G μ (pc + 1) lv (.int x.toInt32 :: st) h Z) : ev_E G μ pc lv (.long x :: st) h Z :=
  ev_pure (fun _ _ _ _ _ _ _ _ _ C _ _ _ _ _ ls _ _ hl k => lv_l2i C.1 C.2.1 hd rfl (k ls hl)) k
theorem ev_i2b {G : gl_G} {μ : mt_M} {pc : Nat} {lv : List (Nat × Value)} {st : List Value} {h : hp_T} {Z : Option Value → hp_T → Prop} {x : Int32} (hd : decode (mt_b μ) pc = .ok (.i2b, 1)) (k : ev_E G μ (pc + 1) lv (.int x.toInt8.toInt32 :: st) h Z) : ev_E G μ pc lv (.int x :: st) h Z :=
  ev_pure (fun _ _ _ _ _ _ _ _ _ C _ _ _ _ _ ls _ _ hl k => lv_i2b C.1 C.2.1 hd rfl (k ls hl)) k
theorem ev_i2c {G : gl_G} {μ : mt_M} {pc : Nat} {lv : List (Nat × Value)} {st : List Value} {h : hp_T} {Z : Option Value → hp_T → Prop} {x : Int32} (hd : decode (mt_b μ) pc = .ok (.i2c, 1)) (k : ev_E G μ (pc + 1) lv (.int (x.toUInt32 % 65536).toInt32 :: st) h Z) : ev_E G μ pc lv (.int x :: st) h Z :=
  ev_pure (fun _ _ _ _ _ _ _ _ _ C _ _ _ _ _ ls _ _ hl k => lv_i2c C.1 C.2.1 hd rfl (k ls hl)) k
theorem ev_iushr {G : gl_G} {μ : mt_M} {pc : Nat} {lv : List (Nat × Value)} {st : List Value} {h : hp_T} {Z : Option Value → hp_T → Prop} {x y : Int32} (hd : decode (mt_b μ) pc = .ok (.iushr, 1)) (k : ev_E G μ (pc + 1) lv (.int (x.toUInt32 >>> (y.toUInt32 &&& Int32.toUInt32 31)).toInt32 :: st) h Z) : ev_E G μ pc lv (.int y :: .int x :: st) h Z :=
  ev_pure (fun _ _ _ _ _ _ _ _ _ C _ _ _ _ _ ls _ _ hl k => lv_iushr C.1 C.2.1 hd rfl (k ls hl)) k
theorem ev_lcmp {G : gl_G} {μ : mt_M} {pc : Nat} {lv : List (Nat × Value)} {st : List Value} {h : hp_T} {Z : Option Value → hp_T → Prop} {x y : Int64} (hd : decode (mt_b μ) pc = .ok (.lcmp, 1)) (k : ev_E G μ (pc + 1) lv (.int (lg_cmp x y) :: st) h Z) : ev_E G μ pc lv (.long y :: .long x :: st) h Z :=
  ev_pure (fun _ _ _ _ _ _ _ _ _ C _ _ _ _ _ ls _ _ hl k => W.lcmp C.1 C.2.1 hd (k ls hl)) k
theorem ev_dup {G : gl_G} {μ : mt_M} {pc : Nat} {lv : List (Nat × Value)} {st : List Value} {h : hp_T} {Z : Option Value → hp_T → Prop} {va : Value} (hd : decode (mt_b μ) pc = .ok (.dup, 1)) (h1 : va.category = 1) (k : ev_E G μ (pc + 1) lv (va :: va :: st) h Z) : ev_E G μ pc lv (va :: st) h Z :=
  ev_pure (fun _ _ _ _ _ _ _ _ _ C _ _ _ _ _ ls _ _ hl k => lv_dup C.1 C.2.1 hd h1 (k ls hl)) k
theorem ev_pop {G : gl_G} {μ : mt_M} {pc : Nat} {lv : List (Nat × Value)} {st : List Value} {h : hp_T} {Z : Option Value → hp_T → Prop} {va : Value} (hd : decode (mt_b μ) pc = .ok (.pop, 1)) (h1 : va.category = 1) (k : ev_E G μ (pc + 1) lv (st) h Z) : ev_E G μ pc lv (va :: st) h Z :=
  ev_pure (fun _ _ _ _ _ _ _ _ _ C _ _ _ _ _ ls _ _ hl k => lv_pop C.1 C.2.1 hd h1 (k ls hl)) k
theorem ev_dup_x1 {G : gl_G} {μ : mt_M} {pc : Nat} {lv : List (Nat × Value)} {st : List Value} {h : hp_T} {Z : Option Value → hp_T → Prop} {va vb : Value} (hd : decode (mt_b μ) pc = .ok (.dup_x1, 1)) (h1 : va.category = 1) (h2 : vb.category = 1) (k : ev_E G μ (pc + 1) lv (va :: vb :: va :: st) h Z) : ev_E G μ pc lv (va :: vb :: st) h Z :=
  ev_pure (fun _ _ _ _ _ _ _ _ _ C _ _ _ _ _ ls _ _ hl k => lv_dup_x1 C.1 C.2.1 hd h1 h2 (k ls hl)) k
theorem ev_dup2_11 {G : gl_G} {μ : mt_M} {pc : Nat} {lv : List (Nat × Value)} {st : List Value} {h : hp_T} {Z : Option Value → hp_T → Prop} {va vb : Value} (hd : decode (mt_b μ) pc = .ok (.dup2, 1)) (h1 : va.category = 1) (h2 : vb.category = 1) (k : ev_E G μ (pc + 1) lv (va :: vb :: va :: vb :: st) h Z) : ev_E G μ pc lv (va :: vb :: st) h Z :=
  ev_pure (fun _ _ _ _ _ _ _ _ _ C _ _ _ _ _ ls _ _ hl k => lv_dup2_11 C.1 C.2.1 hd h1 h2 (k ls hl)) k
theorem ev_goto {G : gl_G} {μ : mt_M} {pc : Nat} {lv : List (Nat × Value)} {st : List Value} {h : hp_T} {Z : Option Value → hp_T → Prop} {off : Int} {tgt : Nat} (hd : decode (mt_b μ) pc = .ok (.goto off, 3)) (ht : (pc : Int) + off = (tgt : Int)) (k : ev_E G μ tgt lv st h Z) : ev_E G μ pc lv st h Z :=
  ev_pure (fun _ _ _ _ _ _ _ _ _ C _ _ _ _ _ ls _ _ hl k => lv_goto C.1 C.2.1 hd ht (k ls hl)) k
theorem ev_if_eq {G : gl_G} {μ : mt_M} {pc : Nat} {lv : List (Nat × Value)} {st : List Value} {h : hp_T} {Z : Option Value → hp_T → Prop} {x : Int32} {off : Int} {tgt : Nat} (hd : decode (mt_b μ) pc = .ok (.ifCond .eq off, 3)) (ht : (pc : Int) + off = (tgt : Int)) (kt : x = 0 → ev_E G μ tgt lv st h Z) (kf : ¬ (x = 0) → ev_E G μ (pc + 3) lv st h Z) : ev_E G μ pc lv (.int x :: st) h Z := by
  by_cases hc : x = 0
  · exact ev_pure (fun _ _ _ _ _ _ _ _ _ C _ _ _ _ _ ls _ _ hl k => lv_if_eq C.1 C.2.1 hd ht (fun _ => k ls hl) (fun z => absurd hc z)) (kt hc)
  · exact ev_pure (fun _ _ _ _ _ _ _ _ _ C _ _ _ _ _ ls _ _ hl k => lv_if_eq C.1 C.2.1 hd ht (fun z => absurd z hc) (fun _ => k ls hl)) (kf hc)
theorem ev_icmp_eq {G : gl_G} {μ : mt_M} {pc : Nat} {lv : List (Nat × Value)} {st : List Value} {h : hp_T} {Z : Option Value → hp_T → Prop} {x y : Int32} {off : Int} {tgt : Nat} (hd : decode (mt_b μ) pc = .ok (.if_icmp .eq off, 3)) (ht : (pc : Int) + off = (tgt : Int)) (kt : x = y → ev_E G μ tgt lv st h Z) (kf : ¬ (x = y) → ev_E G μ (pc + 3) lv st h Z) : ev_E G μ pc lv (.int y :: .int x :: st) h Z := by
  by_cases hc : x = y
  · exact ev_pure (fun _ _ _ _ _ _ _ _ _ C _ _ _ _ _ ls _ _ hl k => lv_icmp_eq C.1 C.2.1 hd ht (fun _ => k ls hl) (fun z => absurd hc z)) (kt hc)
  · exact ev_pure (fun _ _ _ _ _ _ _ _ _ C _ _ _ _ _ ls _ _ hl k => lv_icmp_eq C.1 C.2.1 hd ht (fun z => absurd z hc) (fun _ => k ls hl)) (kf hc)
theorem ev_if_ne {G : gl_G} {μ : mt_M} {pc : Nat} {lv : List (Nat × Value)} {st : List Value} {h : hp_T} {Z : Option Value → hp_T → Prop} {x : Int32} {off : Int} {tgt : Nat} (hd : decode (mt_b μ) pc = .ok (.ifCond .ne off, 3)) (ht : (pc : Int) + off = (tgt : Int)) (kt : ¬ x = 0 → ev_E G μ tgt lv st h Z) (kf : x = 0 → ev_E G μ (pc + 3) lv st h Z) : ev_E G μ pc lv (.int x :: st) h Z := by
  by_cases hc : x = 0
  · exact ev_pure (fun _ _ _ _ _ _ _ _ _ C _ _ _ _ _ ls _ _ hl k => lv_if_ne C.1 C.2.1 hd ht (fun z => absurd hc z) (fun _ => k ls hl)) (kf hc)
  · exact ev_pure (fun _ _ _ _ _ _ _ _ _ C _ _ _ _ _ ls _ _ hl k => lv_if_ne C.1 C.2.1 hd ht (fun _ => k ls hl) (fun z => absurd z hc)) (kt hc)
theorem ev_icmp_ne {G : gl_G} {μ : mt_M} {pc : Nat} {lv : List (Nat × Value)} {st : List Value} {h : hp_T} {Z : Option Value → hp_T → Prop} {x y : Int32} {off : Int} {tgt : Nat} (hd : decode (mt_b μ) pc = .ok (.if_icmp .ne off, 3)) (ht : (pc : Int) + off = (tgt : Int)) (kt : ¬ x = y → ev_E G μ tgt lv st h Z) (kf : x = y → ev_E G μ (pc + 3) lv st h Z) : ev_E G μ pc lv (.int y :: .int x :: st) h Z := by
  by_cases hc : x = y
  · exact ev_pure (fun _ _ _ _ _ _ _ _ _ C _ _ _ _ _ ls _ _ hl k => lv_icmp_ne C.1 C.2.1 hd ht (fun z => absurd hc z) (fun _ => k ls hl)) (kf hc)
  · exact ev_pure (fun _ _ _ _ _ _ _ _ _ C _ _ _ _ _ ls _ _ hl k => lv_icmp_ne C.1 C.2.1 hd ht (fun _ => k ls hl) (fun z => absurd z hc)) (kt hc)
theorem ev_if_lt {G : gl_G} {μ : mt_M} {pc : Nat} {lv : List (Nat × Value)} {st : List Value} {h : hp_T} {Z : Option Value → hp_T → Prop} {x : Int32} {off : Int} {tgt : Nat} (hd : decode (mt_b μ) pc = .ok (.ifCond .lt off, 3)) (ht : (pc : Int) + off = (tgt : Int)) (kt : x < 0 → ev_E G μ tgt lv st h Z) (kf : ¬ (x < 0) → ev_E G μ (pc + 3) lv st h Z) : ev_E G μ pc lv (.int x :: st) h Z := by
  by_cases hc : x < 0
  · exact ev_pure (fun _ _ _ _ _ _ _ _ _ C _ _ _ _ _ ls _ _ hl k => lv_if_lt C.1 C.2.1 hd ht (fun _ => k ls hl) (fun z => absurd hc z)) (kt hc)
  · exact ev_pure (fun _ _ _ _ _ _ _ _ _ C _ _ _ _ _ ls _ _ hl k => lv_if_lt C.1 C.2.1 hd ht (fun z => absurd z hc) (fun _ => k ls hl)) (kf hc)
theorem ev_icmp_lt {G : gl_G} {μ : mt_M} {pc : Nat} {lv : List (Nat × Value)} {st : List Value} {h : hp_T} {Z : Option Value → hp_T → Prop} {x y : Int32} {off : Int} {tgt : Nat} (hd : decode (mt_b μ) pc = .ok (.if_icmp .lt off, 3)) (ht : (pc : Int) + off = (tgt : Int)) (kt : x < y → ev_E G μ tgt lv st h Z) (kf : ¬ (x < y) → ev_E G μ (pc + 3) lv st h Z) : ev_E G μ pc lv (.int y :: .int x :: st) h Z := by
  by_cases hc : x < y
  · exact ev_pure (fun _ _ _ _ _ _ _ _ _ C _ _ _ _ _ ls _ _ hl k => lv_icmp_lt C.1 C.2.1 hd ht (fun _ => k ls hl) (fun z => absurd hc z)) (kt hc)
  · exact ev_pure (fun _ _ _ _ _ _ _ _ _ C _ _ _ _ _ ls _ _ hl k => lv_icmp_lt C.1 C.2.1 hd ht (fun z => absurd z hc) (fun _ => k ls hl)) (kf hc)
theorem ev_if_ge {G : gl_G} {μ : mt_M} {pc : Nat} {lv : List (Nat × Value)} {st : List Value} {h : hp_T} {Z : Option Value → hp_T → Prop} {x : Int32} {off : Int} {tgt : Nat} (hd : decode (mt_b μ) pc = .ok (.ifCond .ge off, 3)) (ht : (pc : Int) + off = (tgt : Int)) (kt : 0 ≤ x → ev_E G μ tgt lv st h Z) (kf : ¬ (0 ≤ x) → ev_E G μ (pc + 3) lv st h Z) : ev_E G μ pc lv (.int x :: st) h Z := by
  by_cases hc : 0 ≤ x
  · exact ev_pure (fun _ _ _ _ _ _ _ _ _ C _ _ _ _ _ ls _ _ hl k => lv_if_ge C.1 C.2.1 hd ht (fun _ => k ls hl) (fun z => absurd hc z)) (kt hc)
  · exact ev_pure (fun _ _ _ _ _ _ _ _ _ C _ _ _ _ _ ls _ _ hl k => lv_if_ge C.1 C.2.1 hd ht (fun z => absurd z hc) (fun _ => k ls hl)) (kf hc)
theorem ev_icmp_ge {G : gl_G} {μ : mt_M} {pc : Nat} {lv : List (Nat × Value)} {st : List Value} {h : hp_T} {Z : Option Value → hp_T → Prop} {x y : Int32} {off : Int} {tgt : Nat} (hd : decode (mt_b μ) pc = .ok (.if_icmp .ge off, 3)) (ht : (pc : Int) + off = (tgt : Int)) (kt : y ≤ x → ev_E G μ tgt lv st h Z) (kf : ¬ (y ≤ x) → ev_E G μ (pc + 3) lv st h Z) : ev_E G μ pc lv (.int y :: .int x :: st) h Z := by
  by_cases hc : y ≤ x
  · exact ev_pure (fun _ _ _ _ _ _ _ _ _ C _ _ _ _ _ ls _ _ hl k => lv_icmp_ge C.1 C.2.1 hd ht (fun _ => k ls hl) (fun z => absurd hc z)) (kt hc)
  · exact ev_pure (fun _ _ _ _ _ _ _ _ _ C _ _ _ _ _ ls _ _ hl k => lv_icmp_ge C.1 C.2.1 hd ht (fun z => absurd z hc) (fun _ => k ls hl)) (kf hc)
theorem ev_if_gt {G : gl_G} {μ : mt_M} {pc : Nat} {lv : List (Nat × Value)} {st : List Value} {h : hp_T} {Z : Option Value → hp_T → Prop} {x : Int32} {off : Int} {tgt : Nat} (hd : decode (mt_b μ) pc = .ok (.ifCond .gt off, 3)) (ht : (pc : Int) + off = (tgt : Int)) (kt : 0 < x → ev_E G μ tgt lv st h Z) (kf : ¬ (0 < x) → ev_E G μ (pc + 3) lv st h Z) : ev_E G μ pc lv (.int x :: st) h Z := by
  by_cases hc : 0 < x
  · exact ev_pure (fun _ _ _ _ _ _ _ _ _ C _ _ _ _ _ ls _ _ hl k => lv_if_gt C.1 C.2.1 hd ht (fun _ => k ls hl) (fun z => absurd hc z)) (kt hc)
  · exact ev_pure (fun _ _ _ _ _ _ _ _ _ C _ _ _ _ _ ls _ _ hl k => lv_if_gt C.1 C.2.1 hd ht (fun z => absurd z hc) (fun _ => k ls hl)) (kf hc)
theorem ev_icmp_gt {G : gl_G} {μ : mt_M} {pc : Nat} {lv : List (Nat × Value)} {st : List Value} {h : hp_T} {Z : Option Value → hp_T → Prop} {x y : Int32} {off : Int} {tgt : Nat} (hd : decode (mt_b μ) pc = .ok (.if_icmp .gt off, 3)) (ht : (pc : Int) + off = (tgt : Int)) (kt : y < x → ev_E G μ tgt lv st h Z) (kf : ¬ (y < x) → ev_E G μ (pc + 3) lv st h Z) : ev_E G μ pc lv (.int y :: .int x :: st) h Z := by
  by_cases hc : y < x
  · exact ev_pure (fun _ _ _ _ _ _ _ _ _ C _ _ _ _ _ ls _ _ hl k => lv_icmp_gt C.1 C.2.1 hd ht (fun _ => k ls hl) (fun z => absurd hc z)) (kt hc)
  · exact ev_pure (fun _ _ _ _ _ _ _ _ _ C _ _ _ _ _ ls _ _ hl k => lv_icmp_gt C.1 C.2.1 hd ht (fun z => absurd z hc) (fun _ => k ls hl)) (kf hc)
theorem ev_if_le {G : gl_G} {μ : mt_M} {pc : Nat} {lv : List (Nat × Value)} {st : List Value} {h : hp_T} {Z : Option Value → hp_T → Prop} {x : Int32} {off : Int} {tgt : Nat} (hd : decode (mt_b μ) pc = .ok (.ifCond .le off, 3)) (ht : (pc : Int) + off = (tgt : Int)) (kt : x ≤ 0 → ev_E G μ tgt lv st h Z) (kf : ¬ (x ≤ 0) → ev_E G μ (pc + 3) lv st h Z) : ev_E G μ pc lv (.int x :: st) h Z := by
  by_cases hc : x ≤ 0
  · exact ev_pure (fun _ _ _ _ _ _ _ _ _ C _ _ _ _ _ ls _ _ hl k => lv_if_le C.1 C.2.1 hd ht (fun _ => k ls hl) (fun z => absurd hc z)) (kt hc)
  · exact ev_pure (fun _ _ _ _ _ _ _ _ _ C _ _ _ _ _ ls _ _ hl k => lv_if_le C.1 C.2.1 hd ht (fun z => absurd z hc) (fun _ => k ls hl)) (kf hc)
theorem ev_icmp_le {G : gl_G} {μ : mt_M} {pc : Nat} {lv : List (Nat × Value)} {st : List Value} {h : hp_T} {Z : Option Value → hp_T → Prop} {x y : Int32} {off : Int} {tgt : Nat} (hd : decode (mt_b μ) pc = .ok (.if_icmp .le off, 3)) (ht : (pc : Int) + off = (tgt : Int)) (kt : x ≤ y → ev_E G μ tgt lv st h Z) (kf : ¬ (x ≤ y) → ev_E G μ (pc + 3) lv st h Z) : ev_E G μ pc lv (.int y :: .int x :: st) h Z := by
  by_cases hc : x ≤ y
  · exact ev_pure (fun _ _ _ _ _ _ _ _ _ C _ _ _ _ _ ls _ _ hl k => lv_icmp_le C.1 C.2.1 hd ht (fun _ => k ls hl) (fun z => absurd hc z)) (kt hc)
  · exact ev_pure (fun _ _ _ _ _ _ _ _ _ C _ _ _ _ _ ls _ _ hl k => lv_icmp_le C.1 C.2.1 hd ht (fun z => absurd z hc) (fun _ => k ls hl)) (kf hc)
theorem ev_tableOut {G : gl_G} {μ : mt_M} {pc : Nat} {lv : List (Nat × Value)} {st : List Value} {h : hp_T} {Z : Option Value → hp_T → Prop} {dflt lo hi : Int} {offs : Array Int} {len : Nat} {x : Int32} {tgt : Nat} (hd : decode (mt_b μ) pc = .ok (.tableswitch dflt lo hi offs, len)) (hx : x.toInt < lo ∨ hi < x.toInt) (ht : (pc : Int) + dflt = (tgt : Int)) (k : ev_E G μ tgt lv st h Z) : ev_E G μ pc lv (.int x :: st) h Z :=
  ev_pure (fun _ _ _ _ _ _ _ _ _ C _ _ _ _ _ ls _ _ hl k => lv_tableOut C.1 C.2.1 hd hx ht (k ls hl)) k
theorem ev_tableIn {G : gl_G} {μ : mt_M} {pc : Nat} {lv : List (Nat × Value)} {st : List Value} {h : hp_T} {Z : Option Value → hp_T → Prop} {dflt lo hi : Int} {offs : Array Int} {len : Nat} {x : Int32} {off : Int} {tgt : Nat} (hd : decode (mt_b μ) pc = .ok (.tableswitch dflt lo hi offs, len)) (h1 : ¬ x.toInt < lo) (h2 : ¬ hi < x.toInt) (ho : offs[(x.toInt - lo).toNat]? = some off) (ht : (pc : Int) + off = (tgt : Int)) (k : ev_E G μ tgt lv st h Z) : ev_E G μ pc lv (.int x :: st) h Z :=
  ev_pure (fun _ _ _ _ _ _ _ _ _ C _ _ _ _ _ ls _ _ hl k => lv_tableIn C.1 C.2.1 hd h1 h2 ho ht (k ls hl)) k
theorem ev_lookup {G : gl_G} {μ : mt_M} {pc : Nat} {lv : List (Nat × Value)} {st : List Value} {h : hp_T} {Z : Option Value → hp_T → Prop} {dflt : Int} {ps : Array (Int × Int)} {len : Nat} {x : Int32} {off : Int} {tgt : Nat} (hd : decode (mt_b μ) pc = .ok (.lookupswitch dflt ps, len)) (hp : (ps.toList.zip (ps.toList.drop 1)).all (fun (a, next) => a.1 < next.1) = true) (ho : Op.lookupswitch.offset ps.toList dflt x.toInt = off) (ht : (pc : Int) + off = (tgt : Int)) (k : ev_E G μ tgt lv st h Z) : ev_E G μ pc lv (.int x :: st) h Z :=
  ev_pure (fun _ _ _ _ _ _ _ _ _ C _ _ _ _ _ ls _ _ hl k => lv_lookup C.1 C.2.1 hd hp ho ht (k ls hl)) k
theorem ev_ldc {G : gl_G} {μ : mt_M} {pc : Nat} {lv : List (Nat × Value)} {st : List Value} {h : hp_T} {Z : Option Value → hp_T → Prop} {index : Nat} {v : Int32} (hw : Jvm.Cond.constant (mt_y μ).cls index v ∈ mt_w μ) (hd : decode (mt_b μ) pc = .ok (.ldc index, 2)) (k : ev_E G μ (pc + 2) lv (.int v :: st) h Z) : ev_E G μ pc lv st h Z :=
  ev_pure (fun _ _ _ _ _ _ _ _ _ C _ _ _ _ _ ls _ _ hl k => lv_ldc C.1 C.2.1 C.2.2.2.2.1 (C.2.2.2.2.2.1 _ hw) hd (k ls hl)) k
theorem ev_ldcw {G : gl_G} {μ : mt_M} {pc : Nat} {lv : List (Nat × Value)} {st : List Value} {h : hp_T} {Z : Option Value → hp_T → Prop} {index : Nat} {v : Int32} (hw : Jvm.Cond.constant (mt_y μ).cls index v ∈ mt_w μ) (hd : decode (mt_b μ) pc = .ok (.ldc_w index, 3)) (k : ev_E G μ (pc + 3) lv (.int v :: st) h Z) : ev_E G μ pc lv st h Z :=
  ev_pure (fun _ _ _ _ _ _ _ _ _ C _ _ _ _ _ ls _ _ hl k => lv_ldcw C.1 C.2.1 C.2.2.2.2.1 (C.2.2.2.2.2.1 _ hw) hd (k ls hl)) k
theorem ev_ldc2 {G : gl_G} {μ : mt_M} {pc : Nat} {lv : List (Nat × Value)} {st : List Value} {h : hp_T} {Z : Option Value → hp_T → Prop} {index : Nat} {v : Int64} (hw : Jvm.Cond.constantLong (mt_y μ).cls index v ∈ mt_w μ) (hd : decode (mt_b μ) pc = .ok (.ldc2_w index, 3)) (k : ev_E G μ (pc + 3) lv (.long v :: st) h Z) : ev_E G μ pc lv st h Z :=
  ev_pure (fun _ _ _ _ _ _ _ _ _ C _ _ _ _ _ ls _ _ hl k => lv_ldc2 C.1 C.2.1 C.2.2.2.2.1 (C.2.2.2.2.2.1 _ hw) hd (k ls hl)) k
end
section
/-- a step that may change the cells -/
theorem ev_step {G : gl_G} {μ : mt_M} {pc pc2 : Nat} {lv lv2 : List (Nat × Value)} {st st2 : List Value} {h h2 : hp_T} {Z : Option Value → hp_T → Prop} (z1 : h.1 ≤ h2.1) (z2 : h.2.1 ≤ h2.2.1)
    (hs : ∀ (p : Program) (e : Env) (R : Room) (s : State) (m : MethodId) (args : Array Value) (below : List Frame) (meth : Method) (c : Code), cx_ok G μ p R s m args meth c → ∀ (H : Heap) (locs : List Loc) (cells slots : Nat) (Q : State → Prop) (ls : Array Slot), hp_ok G h H → va_S (gl_A G) s.heap H locs → lv_has ls (mt_n μ) lv → cells + (h2.1 - h.1) ≤ R.cells → slots + (h2.2.1 - h.2.1) ≤ R.slots →
      (∀ (H2 : Heap) (locs2 : List Loc) (ls2 : Array Slot), hp_ok G h2 H2 → va_S (gl_A G) s.heap H2 locs2 → lv_has ls2 (mt_n μ) lv2 → W p (gl_l G) e R s m args below meth c H2 locs2 (cells + (h2.1 - h.1)) (slots + (h2.2.1 - h.2.1)) Q (F0 m pc2 ls2 st2)) → W p (gl_l G) e R s m args below meth c H locs cells slots Q (F0 m pc ls st))
    (k : ev_E G μ pc2 lv2 st2 h2 Z) : ev_E G μ pc lv st h Z := by
  obtain ⟨o, h', hZ, h1, h3, k⟩ := k
  refine ⟨o, h', hZ, Nat.le_trans z1 h1, Nat.le_trans z2 h3, fun p e R s m args below meth c C H locs cells slots ls hO hS hl hc hq => ?_⟩
  refine hs p e R s m args below meth c C H locs cells slots _ ls hO hS hl (by omega) (by omega) (fun H2 locs2 ls2 hO2 hS2 hl2 => ?_)
  exact k p e R s m args below meth c C H2 locs2 _ _ ls2 hO2 hS2 hl2 (by omega) (by omega)
section RET
variable {G : gl_G} {μ : mt_M} {pc : Nat} {lv : List (Nat × Value)} {st : List Value} {h : hp_T} {Z : Option Value → hp_T → Prop}
theorem ev_iret {v : Int32} (hd : decode (mt_b μ) pc = .ok (.ireturn, 1)) (hr : mt_r μ = some .int) (hz : Z (some (.int v)) h) : ev_E G μ pc lv [.int v] h Z := by
  refine ⟨_, h, hz, Nat.le_refl _, Nat.le_refl _, fun p e R s m args below meth c C H locs cells slots ls hO hS hl hc hq => ?_⟩
  refine W.widen (k := R.cells) (n := R.slots) (by omega) (by omega) ?_
  exact W.iret C.1 C.2.1 (C.2.2.2.1.trans hr) (fun t ht _ => ⟨rfl, by rw [ht]; exact hO, hS.F ht⟩) hS.2.2 hd C.2.2.2.2.2.2.1
theorem ev_zret {v : Int32} (hd : decode (mt_b μ) pc = .ok (.ireturn, 1)) (hr : mt_r μ = some .boolean) (hn : narrow .boolean (.int v) = .int v) (hz : Z (some (.int v)) h) : ev_E G μ pc lv [.int v] h Z := by
  refine ⟨_, h, hz, Nat.le_refl _, Nat.le_refl _, fun p e R s m args below meth c C H locs cells slots ls hO hS hl hc hq => ?_⟩
  refine W.widen (k := R.cells) (n := R.slots) (by omega) (by omega) ?_
  exact W.zret C.1 C.2.1 (C.2.2.2.1.trans hr) hn (fun t ht _ => ⟨rfl, by rw [ht]; exact hO, hS.F ht⟩) hS.2.2 hd C.2.2.2.2.2.2.1
theorem ev_vret (hd : decode (mt_b μ) pc = .ok (.return_, 1)) (hr : mt_r μ = none) (hz : Z none h) : ev_E G μ pc lv [] h Z := by
  refine ⟨_, h, hz, Nat.le_refl _, Nat.le_refl _, fun p e R s m args below meth c C H locs cells slots ls hO hS hl hc hq => ?_⟩
  refine W.widen (k := R.cells) (n := R.slots) (by omega) (by omega) ?_
  exact W.vret C.1 C.2.1 (C.2.2.2.1.trans hr) (fun t ht _ => ⟨rfl, by rw [ht]; exact hO, hS.F ht⟩) hS.2.2 hd C.2.2.2.2.2.2.1
theorem ev_lret {v : Int64} (hd : decode (mt_b μ) pc = .ok (.lreturn, 1)) (hr : mt_r μ = some .long) (hz : Z (some (.long v)) h) : ev_E G μ pc lv [.long v] h Z := by
  refine ⟨_, h, hz, Nat.le_refl _, Nat.le_refl _, fun p e R s m args below meth c C H locs cells slots ls hO hS hl hc hq => ?_⟩
  refine W.widen (k := R.cells) (n := R.slots) (by omega) (by omega) ?_
  exact W.lret C.1 C.2.1 (C.2.2.2.1.trans hr) (fun t ht _ => ⟨rfl, by rw [ht]; exact hO, hS.F ht⟩) hS.2.2 hd C.2.2.2.2.2.2.1
theorem ev_aret {a : Nat} {rt : FieldType} (hd : decode (mt_b μ) pc = .ok (.areturn, 1)) (hr : mt_r μ = some rt) (hrt : (∃ n, rt = .object n) ∨ ∃ t, rt = .array t) (hz : Z (some (.ref a)) h) : ev_E G μ pc lv [.ref a] h Z := by
  refine ⟨_, h, hz, Nat.le_refl _, Nat.le_refl _, fun p e R s m args below meth c C H locs cells slots ls hO hS hl hc hq => ?_⟩
  refine W.widen (k := R.cells) (n := R.slots) (by omega) (by omega) ?_
  exact W.aret C.1 C.2.1 (C.2.2.2.1.trans hr) hrt (Or.inr ⟨a, rfl⟩) (fun t ht _ => ⟨rfl, by rw [ht]; exact hO, hS.F ht⟩) hS.2.2 hd C.2.2.2.2.2.2.1
end RET
section FLD
variable {G : gl_G} {μ : mt_M} {pc : Nat} {lv : List (Nat × Value)} {st : List Value} {h : hp_T} {Z : Option Value → hp_T → Prop}
/-- which field an instruction speaks of: class ci's field k -/
def fa_at (μ : mt_M) (index ci k : Nat) : Prop := ∃ (C : String) (T : u_T) (N : Nat) (ty : Nat → FieldType), vwCl[ci]? = some (C, T, N) ∧ k < N ∧ (∀ w ∈ u_ws C T N, w ∈ mt_w μ) ∧ Cond.fieldLink (mt_y μ).cls index (T k).1 (T k).2.1 (T k).2.2.1 ∈ mt_w μ ∧
  (∀ k, k < N → parseFieldDescriptor (T k).2.2.1 = some (ty k)) ∧ (∀ a, a < N → ∀ b, b < N → a ≠ b → (T a).2.1 ≠ (T b).2.1)
theorem ev_get {index ci n a : Nat} {fs : List Value} {v : Value} (F : fa_at μ index ci n) (hd : decode (mt_b μ) pc = .ok (.getfield index, 3)) (he : h.2.2 a = some (.inr (ci, fs))) (hv : fs[n]? = some v) (kk : ev_E G μ (pc + 3) lv (v :: st) h Z) : ev_E G μ pc lv (.ref a :: st) h Z := by
  obtain ⟨C, T, N, ty, hc, hk, hin, hlink, -, -⟩ := F
  exact ev_pure (fun _ _ _ _ _ _ _ _ _ X _ _ _ _ _ ls hO _ hl k => va_get X.1 X.2.1 X.2.2.2.2.2.1 hin X.2.2.2.2.1 X.2.2.2.2.2.2.2.2.1 (hO.one he) 0 rfl hc n hk (X.2.2.2.2.2.1 _ hlink) (fun _ z => z) hv hd (k ls hl)) kk
/-- a field that isn't final: its type ty -/
def fa_put (μ : mt_M) (index ci k : Nat) (t : FieldType) : Prop := ∃ (C : String) (T : u_T) (N : Nat) (ty : Nat → FieldType), vwCl[ci]? = some (C, T, N) ∧ k < N ∧ (∀ w ∈ u_ws C T N, w ∈ mt_w μ) ∧ Cond.fieldLink (mt_y μ).cls index (T k).1 (T k).2.1 (T k).2.2.1 ∈ mt_w μ ∧
  (∀ k, k < N → parseFieldDescriptor (T k).2.2.1 = some (ty k)) ∧ (∀ a, a < N → ∀ b, b < N → a ≠ b → (T a).2.1 ≠ (T b).2.1) ∧ ty k = t ∧ ((T k).2.2.2 = false ∨ ((T k).2.2.2 = true ∧ (mt_y μ).name = "<init>" ∧ (T k).1 = (mt_y μ).cls))
theorem ev_put {index ci n a : Nat} {fs : List Value} {v : Value} {t : FieldType} (F : fa_put μ index ci n t) (hd : decode (mt_b μ) pc = .ok (.putfield index, 3)) (he : h.2.2 a = some (.inr (ci, fs))) (hl0 : n < fs.length) (hn : narrow t v = v) (hfit : fits t v = true) (kk : ev_E G μ (pc + 3) lv st (hp_up h a (.inr (ci, fs.set n v))) Z) : ev_E G μ pc lv (v :: .ref a :: st) h Z := by
  obtain ⟨C, T, N, ty, hc, hk, hin, hlink, hty, hnm, ht, hfin⟩ := F
  subst ht
  refine ev_step (h2 := hp_up h a (.inr (ci, fs.set n v))) (Nat.le_refl _) (Nat.le_refl _) (fun p e R s m args below meth c X H locs cells slots Q ls hO hS hl _ _ kk => ?_) kk
  obtain ⟨hx, hb, hml, hr, hown, hts, hlocks, hname, hK, hL, hbs, -, -, -⟩ := X
  have hap := va_apart (own := (mt_y μ).cls) hts hin ty hty hnm hK hc
  obtain ⟨⟨r, h1, cell, q1, q2, q3, q4⟩, hba⟩ := hO.2 a _ he
  have hr' : r = (C, T, N) := Option.some.inj (h1.symm.trans hc)
  subst hr'
  obtain ⟨hSl, hfc, kC, hkC, hkind⟩ := hK.1 ci _ hc
  obtain ⟨cf, kf, fi, f, hi, hsl⟩ := hSl n hk
  have hlay := hts _ (hin _ (u_in_lay hk))
  unfold u_lay at hlay
  have hst := (u_facts hfc hkC (u_lays hts hin hk) hi).1
  have last : ∀ (H' : Heap) (loc : Loc), loc.base = a → H'[a]? = some (cell.setSlot f.slot v) → H'.size = H.size → (∀ q, q ≠ a → H'[q]? = H[q]?) → W p (gl_l G) e R s m args below meth c H' (locs ++ [loc]) cells slots Q (F0 m (pc + 3) ls st) := by
    intro H' loc hloc e1 e2 e3
    obtain ⟨lb, li⟩ := loc
    cases hloc
    rw [hsl] at e1
    refine W.cs (show cells = cells + (h.1 - h.1) by omega) (show slots = slots + (h.2.1 - h.2.1) by omega) ?_
    exact kk H' _ ls (hO.set hba ⟨_, hc, t_OB.to (V := updV (vp_V fs) n v) ⟨_, e1, q2, q3, t_set q4 hap hk v⟩ (fun j _ => vp_updV_set hl0 v j)⟩ e2 e3) (hS.put e2 e3 hba) hl
  rcases hfin with hfin | ⟨hfin, hnm1, hcls⟩
  · rw [if_neg (by rw [hfin]; decide)] at hlay
    have h6 := u_store hfc hkC hkind hlay hi (hty n hk) hn hfit
    exact W.putK hx hb (f := f) ⟨hown, hts _ hlink, ⟨_, _, _, hi⟩, hst⟩ (by rw [q2]; exact h6) q1 q3 (by rw [hsl]; exact k2_hasslot (q4 n hk)) rfl rfl hd fun H' e1 e2 e3 => last H' _ rfl e1 e2 e3
  · rw [if_pos hfin] at hlay
    have hcf : m.cls = cf := by
      obtain ⟨_, _, c', _, _, _, -, -, hf', -, -, -, hown2, -⟩ := Cond.laysFinal_spec hlay
      have e1 : c' = cf := by have := hi.symm.trans hf'; simp at this; exact this.1.symm
      rw [hcls] at hown2
      rw [← e1]; exact Option.some.inj (hown.symm.trans hown2)
    have h6 := u_fits hfc hkC hkind (Or.inr hlay) hi (hty n hk) hn hfit
    exact W.putFinK hx hb hown (hts _ hlink) hi hst hcf (hname.trans hnm1) (by rw [q2]; exact h6) q1 q3 (by rw [hsl]; exact k2_hasslot (q4 n hk)) rfl rfl hd fun H' e1 e2 e3 => last H' _ rfl e1 e2 e3
/-- a new object -/
def fa_new (μ : mt_M) (index ci : Nat) (fs : List Value) : Prop := ∃ (C : String) (T : u_T) (N : Nat) (ty : Nat → FieldType), vwCl[ci]? = some (C, T, N) ∧ N = fs.length ∧ (∀ w ∈ u_ws C T N, w ∈ mt_w μ) ∧ Cond.classLink (mt_y μ).cls index C ∈ mt_w μ ∧ Cond.instantiable C N ∈ mt_w μ ∧ Cond.initialized C ∈ mt_w μ ∧
  (∀ k, k < N → parseFieldDescriptor (T k).2.2.1 = some (ty k)) ∧ (∀ j, j < N → defaultValue (ty j) = vp_V fs j)
theorem ev_new {index ci : Nat} {fs : List Value} (F : fa_new μ index ci fs) (hd : decode (mt_b μ) pc = .ok (.new index, 3)) (kk : ev_E G μ (pc + 3) lv (.ref h.1 :: st) (hp_add h fs.length (.inr (ci, fs))) Z) : ev_E G μ pc lv st h Z := by
  obtain ⟨C, T, N, ty, hc, hN, hin, hcl, hinst, hini, hty, hfs⟩ := F
  subst hN
  refine ev_step (h2 := hp_add h fs.length (.inr (ci, fs))) (Nat.le_succ _) (Nat.le_add_right _ _) (fun p e R s m args below meth c X H locs cells slots Q ls hO hS hl hc1 hs1 kk => ?_) kk
  obtain ⟨hx, hb, hml, hr, hown, hts, hlocks, hname, hK, hL, hbs, -, -, -⟩ := X
  have hKn := hK.1 ci _ hc
  have z1 : (hp_add h fs.length (.inr (ci, fs))).1 - h.1 = 1 := show h.1 + 1 - h.1 = 1 by omega
  have z2 : (hp_add h fs.length (.inr (ci, fs))).2.1 - h.2.1 = fs.length := show h.2.1 + fs.length - h.2.1 = fs.length by omega
  rw [z1] at hc1 kk
  rw [z2] at hs1 kk
  have hsz := hO.1
  have hSz := hS.1
  refine W.newcK hx hb hown (hts _ hcl) (hts _ hinst) (hts _ hini) rfl hd hc1 hs1 hKn.2.1 hO.1 (fun H1 kC hkC e1 zz o1 => ?_)
  exact kk H1 locs ls (hO.push (by omega) ⟨_, hc, (u_born ty hts hin hKn hkC e1 hty).to hfs⟩ (by omega) (fun q hq => o1 q (by omega))) ⟨by omega, fun x a1 a2 => (o1 x (by omega)).trans (hS.2.1 x a1 a2), hS.2.2⟩ hl
end FLD
end
section
section ARR
variable {G : gl_G} {μ : mt_M} {pc : Nat} {lv : List (Nat × Value)} {st : List Value} {h : hp_T} {Z : Option Value → hp_T → Prop}
/-- the array class of a type of numbers, by the globals -/
theorem gl_arr {s : State} {D : va_G} {cl : List vw_C} {tys : List (ClassId × FieldType)} (hK : va_K D cl tys s) {t0 : Nat} {cA cB : ClassId} {atype : ArrayType} (ht : tys[t0]? = some (cA, newarray.typeOf atype)) (hB : s.vm.findClass ("[" ++ (newarray.typeOf atype).toString) = some cB) : cB = cA := by
  have h2 := (hK.2 t0 _ ht).2
  have h3 : s.vm.findClass ("[" ++ (newarray.typeOf atype).toString) = some cA := by cases atype <;> exact h2
  exact Option.some.inj (hB.symm.trans h3)
theorem ev_newa {atype : ArrayType} {t0 N : Nat} {cA : ClassId} {n : Int32} {a0 : vp_A} (ha : ∀ cA : ClassId, vp_cell cA a0 = arrV cA N (fun _ => defaultValue (newarray.typeOf atype))) (hw : Cond.arrayClass (newarray.typeOf atype) ∈ mt_w μ) (ht : (gl_t G)[t0]? = some (cA, newarray.typeOf atype)) (hn : ¬ n < 0) (hN : n.toNatClampNeg = N) (hbytes : N * componentBytes (newarray.typeOf atype) ≤ 536870912)
    (hd : decode (mt_b μ) pc = .ok (.newarray atype, 2)) (kk : ev_E G μ (pc + 2) lv (.ref h.1 :: st) (hp_add h N (.inl (cA, a0))) Z) : ev_E G μ pc lv (.int n :: st) h Z := by
  refine ev_step (h2 := hp_add h N (.inl (cA, a0))) (Nat.le_succ _) (Nat.le_add_right _ _) (fun p e R s m args below meth c X H locs cells slots Q ls hO hS hl hc1 hs1 kk => ?_) kk
  obtain ⟨hx, hb, hml, hr, hown, hts, hlocks, hname, hK, hL, hbs, -, -, -⟩ := X
  have z1 : (hp_add h N (.inl (cA, a0))).1 - h.1 = 1 := show h.1 + 1 - h.1 = 1 by omega
  have z2 : (hp_add h N (.inl (cA, a0))).2.1 - h.2.1 = N := show h.2.1 + N - h.2.1 = N by omega
  rw [z1] at hc1 kk
  rw [z2] at hs1 kk
  have hsz := hO.1
  have hSz := hS.1
  refine va_newaK hx hb (hts _ hw) rfl hd rfl hn hN hbytes hc1 hs1 hO.1 (fun H1 cB e1 zz o1 _ hNm => ?_)
  have hAB := gl_arr hK ht hNm
  subst hAB
  refine kk H1 locs ls (hO.push (by omega) ?_ (by omega) (fun q hq => o1 q (by omega))) ⟨by omega, fun x a1 a2 => (o1 x (by omega)).trans (hS.2.1 x a1 a2), hS.2.2⟩ hl
  show H1[h.1]? = some (vp_cell cB a0)
  rw [ha]
  exact e1
theorem ev_alen {t0 a : Nat} {cA : ClassId} {x : vp_A} {ty : FieldType} (ht : (gl_t G)[t0]? = some (cA, ty)) (he : h.2.2 a = some (.inl (cA, x))) (hd : decode (mt_b μ) pc = .ok (.arraylength, 1)) (kk : ev_E G μ (pc + 1) lv (.int (nI x.1) :: st) h Z) : ev_E G μ pc lv (.ref a :: st) h Z :=
  ev_pure (fun _ _ _ _ _ _ _ _ _ X _ _ _ _ _ ls hO _ hl k => va_alen X.1 X.2.1 X.2.2.2.2.2.2.2.2.1 (hO.one he) 0 t0 rfl ht rfl hd (k ls hl)) kk
theorem ev_iald {t0 a n : Nat} {cA : ClassId} {f : Nat → Int32} {i : Int32} (ht : (gl_t G)[t0]? = some (cA, .int)) (he : h.2.2 a = some (.inl (cA, n, .inl f))) (hi : vp_in i n) (hd : decode (mt_b μ) pc = .ok (.iaload, 1)) (kk : ev_E G μ (pc + 1) lv (.int (f i.toNatClampNeg) :: st) h Z) : ev_E G μ pc lv (.int i :: .ref a :: st) h Z :=
  ev_pure (fun _ _ _ _ _ _ _ _ _ X _ _ _ _ _ ls hO _ hl k => va_iald X.1 X.2.1 X.2.2.2.2.2.2.2.2.1 (hO.one he) 0 t0 rfl ht hi hd (k ls hl)) kk
theorem ev_zald {t0 a n : Nat} {cA : ClassId} {f : Nat → Int32} {i : Int32} (ht : (gl_t G)[t0]? = some (cA, .boolean)) (he : h.2.2 a = some (.inl (cA, n, .inl f))) (hi : vp_in i n) (hd : decode (mt_b μ) pc = .ok (.baload, 1)) (kk : ev_E G μ (pc + 1) lv (.int (f i.toNatClampNeg) :: st) h Z) : ev_E G μ pc lv (.int i :: .ref a :: st) h Z :=
  ev_pure (fun _ _ _ _ _ _ _ _ _ X _ _ _ _ _ ls hO _ hl k => va_zald X.1 X.2.1 X.2.2.2.2.2.2.2.2.1 (hO.one he) 0 t0 rfl ht hi hd (k ls hl)) kk
theorem ev_lald {t0 a n : Nat} {cA : ClassId} {f : Nat → Int64} {i : Int32} (ht : (gl_t G)[t0]? = some (cA, .long)) (he : h.2.2 a = some (.inl (cA, n, .inr (.inl f)))) (hi : vp_in i n) (hd : decode (mt_b μ) pc = .ok (.laload, 1)) (kk : ev_E G μ (pc + 1) lv (.long (f i.toNatClampNeg) :: st) h Z) : ev_E G μ pc lv (.int i :: .ref a :: st) h Z :=
  ev_pure (fun _ _ _ _ _ _ _ _ _ X _ _ _ _ _ ls hO _ hl k => va_lald X.1 X.2.1 X.2.2.2.2.2.2.2.2.1 (hO.one he) 0 t0 rfl ht hi hd (k ls hl)) kk
/-- a store, by the array that it leaves -/
theorem ev_iast {t0 a n : Nat} {cA : ClassId} {f : Nat → Int32} {i x : Int32} (ht : (gl_t G)[t0]? = some (cA, .int)) (he : h.2.2 a = some (.inl (cA, n, .inl f))) (hi : vp_in i n) (hd : decode (mt_b μ) pc = .ok (.iastore, 1)) (kk : ev_E G μ (pc + 1) lv st (hp_up h a (.inl (cA, n, .inl (upd f i.toNatClampNeg x)))) Z) : ev_E G μ pc lv (.int x :: .int i :: .ref a :: st) h Z := by
  refine ev_step (h2 := hp_up h a (.inl (cA, n, .inl (upd f i.toNatClampNeg x)))) (Nat.le_refl _) (Nat.le_refl _) (fun p e R s m args below meth c X H locs cells slots Q ls hO hS hl _ _ kk => ?_) kk
  obtain ⟨hx, hb, hml, hr, hown, hts, hlocks, hname, hK, hL, hbs, -, -, -⟩ := X
  obtain ⟨hat, hba⟩ := hO.2 a _ he
  refine W.iast hx hb hat ((hK.2 t0 _ ht).1 n (fun j => .int (f j))) (fun q => by cases q) (by show ¬ (i < 0 ∨ (arrV _ _ _).slots.size ≤ _); rw [arrV_size]; exact hi) rfl rfl hd fun H1 e z oq => ?_
  refine W.cs (show cells = cells + (h.1 - h.1) by omega) (show slots = slots + (h.2.1 - h.2.1) by omega) ?_
  refine kk H1 _ ls (hO.set hba ?_ z oq) (hS.put z oq hba) hl
  show H1[a]? = some (vp_cell _ _)
  rw [e]
  rw [vp_cell_i, vp_cell_i, arrV_store]
  congr 2
  funext q
  by_cases hq : q = i.toNatClampNeg
  · subst hq
    simp [updV, upd]
  · simp [updV, upd, hq]
theorem ev_zast {t0 a n : Nat} {cA : ClassId} {f : Nat → Int32} {i x : Int32} (ht : (gl_t G)[t0]? = some (cA, .boolean)) (he : h.2.2 a = some (.inl (cA, n, .inl f))) (hi : vp_in i n) (hd : decode (mt_b μ) pc = .ok (.bastore, 1)) (kk : ev_E G μ (pc + 1) lv st (hp_up h a (.inl (cA, n, .inl (upd f i.toNatClampNeg (vp_nar .boolean x))))) Z) : ev_E G μ pc lv (.int x :: .int i :: .ref a :: st) h Z := by
  refine ev_step (h2 := hp_up h a (.inl (cA, n, .inl (upd f i.toNatClampNeg (vp_nar .boolean x))))) (Nat.le_refl _) (Nat.le_refl _) (fun p e R s m args below meth c X H locs cells slots Q ls hO hS hl _ _ kk => ?_) kk
  obtain ⟨hx, hb, hml, hr, hown, hts, hlocks, hname, hK, hL, hbs, -, -, -⟩ := X
  obtain ⟨hat, hba⟩ := hO.2 a _ he
  refine W.zast hx hb hat ((hK.2 t0 _ ht).1 n (fun j => .int (f j))) (fun q => by cases q) (by show ¬ (i < 0 ∨ (arrV _ _ _).slots.size ≤ _); rw [arrV_size]; exact hi) rfl rfl hd fun H1 e z oq => ?_
  refine W.cs (show cells = cells + (h.1 - h.1) by omega) (show slots = slots + (h.2.1 - h.2.1) by omega) ?_
  refine kk H1 _ ls (hO.set hba ?_ z oq) (hS.put z oq hba) hl
  show H1[a]? = some (vp_cell _ _)
  rw [e]
  rw [vp_cell_i, vp_cell_i, arrV_store]
  congr 2
  funext q
  by_cases hq : q = i.toNatClampNeg
  · subst hq
    simp [updV, upd, vp_nar]
    try rfl
  · simp [updV, upd, hq]
end ARR
end
section
section CALL
/-- behind a call that comes back with o and h' -/
theorem wr_call {p : Program} {l : Launch} {e : Env} {R : Room} {s : State} {m : MethodId} {args : Array Value} {below : List Frame} {meth : Method} {c : Code} {H : Heap} {locs : List Loc} {cells slots mc ms : Nat} {Q : State → Prop} {G : gl_G} {pc : Nat} {ls : Array Slot} {st0 rest : List Value} {o : Option Value} {h' : hp_T} {a : Array Value}
    (hr : va_Run p l e R s m args below meth c H locs cells slots mc ms (F0 m pc ls st0) rest (ct_Q G o h' a) (gl_A G)) (hS : va_S (gl_A G) s.heap H locs)
    (kk : ∀ (H1 : Heap) (locs1 : List Loc), hp_ok G h' H1 → va_S (gl_A G) s.heap H1 locs1 → W p l e R s m args below meth c H1 locs1 (cells + mc) (slots + ms) Q (F0 m (pc + 3) ls (o.toList ++ rest))) : W p l e R s m args below meth c H locs cells slots Q (F0 m pc ls st0) := by
  intro T hT X
  obtain ⟨v, st₀, t, T', L, h0, X', hL, e1, e2, ⟨hv, hO, hz, hk⟩, st⟩ := hr T hT X
  cases hv
  rw [h0] at hz hk
  obtain ⟨t2, a1, b1⟩ := kk T'.heap (locs ++ L) (by rw [e1]; exact hO) ⟨Nat.le_trans hS.1 (by rw [e1]; exact hz), fun q h1 h2 => by rw [e1, hk q (Nat.lt_of_lt_of_le h1 hS.1) h2]; exact hS.2.1 q h1 h2, fun q hq => by
    rcases List.mem_append.mp hq with z | z
    · exact hS.2.2 q z
    · exact hL q z⟩ T' rfl X'
  exact ⟨t2, st t2 a1, b1⟩
theorem ct_blind {G : gl_G} (hG : gl_ok G) (av : List Value) (h : hp_T) : FrameBlind (ct_P G av h) := fun a U g mk q => by
  obtain ⟨q0, qO, qb, qK, qL⟩ := q
  exact ⟨q0, qO, qb, va_K.moved (u := U) (U := U.calling g mk a) (Vm.Alike.refl U.vm) qK, hG U (U.calling g mk a) (State.WarmedH.refl U) (fun _ _ _ => rfl) qL⟩
theorem ct_here {G : gl_G} {μ : mt_M} {p : Program} {R : Room} {s : State} {m : MethodId} {args : Array Value} {meth : Method} {c : Code} (X : cx_ok G μ p R s m args meth c) {H : Heap} {locs : List Loc} {h : hp_T} (hO : hp_ok G h H) (hS : va_S (gl_A G) s.heap H locs) (av : List Value) : ∀ U : State, U.heap = H → s.WarmedH U.vm → ct_P G av h av.toArray U := by
  intro U hU hW
  obtain ⟨hx, hb, hml, hr, hown, hts, hlocks, hname, hK, hL, hbs, -, -, hG⟩ := X
  exact ⟨rfl, by rw [hU]; exact hO, by rw [hU]; exact Nat.le_trans hbs hS.1, va_K.moved hW.alike hK, hG s U hW (fun q h1 h2 => by rw [hU]; exact hS.2.1 q h1 h2) hL⟩
/-- what a caller's words and room must say of its callee -/
def ca_ok (μ ν : mt_M) (n : Nat) : Prop := (∃ ws', mt_w ν = Cond.code (mt_y ν) (mt_b ν) (mt_n ν) (mt_r ν) :: ws') ∧ ((mt_y ν).cls ≠ "java/lang/invoke/MethodHandle" ∧ (mt_y ν).cls ≠ "java/lang/invoke/VarHandle" ∧ (parseMethodDescriptor (mt_y ν).desc).map (fun d => d.parameters.length) = some n) ∧ (mt_f ν + 1 ≤ mt_f μ ∧ 8 + (mt_n ν + 11) + mt_l ν ≤ mt_l μ)
def ca_V (μ ν : mt_M) (index n : Nat) : Prop := GoodIn (mt_w μ) (wsV (mt_y μ).cls index (mt_y ν).cls (mt_y ν) (mt_w ν)) ∧ ca_ok μ ν n
def ca_S (μ ν : mt_M) (index n : Nat) : Prop := GoodIn (mt_w μ) (va_wsS (mt_y μ).cls index (mt_y ν) (mt_w ν)) ∧ ca_ok μ ν n
def ca_I (μ ν : mt_M) (index n : Nat) : Prop := GoodIn (mt_w μ) (mt_w ν) ∧ ca_ok μ ν n ∧ mt_r ν = none ∧ (mt_y ν).name = "<init>" ∧ Cond.initialized (mt_y ν).cls ∈ mt_w μ ∧ Cond.methodLink (mt_y μ).cls index (mt_y ν) ∈ mt_w μ ∧ Cond.instanceMethod (mt_y ν) ∈ mt_w μ
variable {G : gl_G} {μ ν : mt_M} {pc : Nat} {lv : List (Nat × Value)} {rest As : List Value} {h : hp_T} {Z Z1 : Option Value → hp_T → Prop} {index n : Nat}
theorem ev_callV {b ci : Nat} {fs : List Value} {T : u_T} {N : Nat} (F : ca_V μ ν index n) (hd : decode (mt_b μ) pc = .ok (.invokevirtual index, 3)) (hc : vwCl[ci]? = some ((mt_y ν).cls, T, N)) (he : h.2.2 b = some (.inr (ci, fs))) (hn : As.length = n) (hroom : (rest.map fun v => v.category).sum ≤ 8) (hM : ct_E G ν (.ref b :: As) h Z1) (kk : ∀ o h1, Z1 o h1 → ev_E G μ (pc + 3) lv (o.toList ++ rest) h1 Z) : ev_E G μ pc lv (As.reverse ++ .ref b :: rest) h Z := by
  obtain ⟨o1, h1, z1, le1, le2, M⟩ := hM
  obtain ⟨hgood, ⟨ws', hw⟩, hdd, hR⟩ := F
  refine ev_step (h2 := h1) le1 le2 (fun p e R s m args below meth c X H locs cells slots Q ls hO hS hl hc1 hs1 k => ?_) (kk o1 h1 z1)
  have X' := X
  obtain ⟨hx, hb, hml, hr, hown, hts, hlocks, hname, hK, hL, hbs, hRf, hRl, hG⟩ := X
  rw [← hRf, ← hRl] at hR
  refine wr_call (va_runV (As := As) (rest := rest) (Ts := mt_w μ) ⟨hx, hb, hml, hown, hts⟩ (M hG) (cwV n hts hgood hw rfl rfl ⟨rfl, hdd⟩ hR) ⟨ct_blind hG _ _, va_recv hK (hO.one he) hc (q0 := 0) rfl, ct_here X' hO hS (.ref b :: As)⟩ rfl hn hl.1 rfl (lv_room hroom) hd ⟨hc1, hs1⟩) hS (fun H1 locs1 hO1 hS1 => ?_)
  exact k H1 locs1 ls hO1 hS1 hl
theorem ev_callS (F : ca_S μ ν index n) (hd : decode (mt_b μ) pc = .ok (.invokestatic index, 3)) (hn : As.length = n) (hroom : (rest.map fun v => v.category).sum ≤ 8) (hM : ct_E G ν As h Z1) (kk : ∀ o h1, Z1 o h1 → ev_E G μ (pc + 3) lv (o.toList ++ rest) h1 Z) : ev_E G μ pc lv (As.reverse ++ rest) h Z := by
  obtain ⟨o1, h1, z1, le1, le2, M⟩ := hM
  obtain ⟨hgood, ⟨ws', hw⟩, hdd, hR⟩ := F
  refine ev_step (h2 := h1) le1 le2 (fun p e R s m args below meth c X H locs cells slots Q ls hO hS hl hc1 hs1 k => ?_) (kk o1 h1 z1)
  have X' := X
  obtain ⟨hx, hb, hml, hr, hown, hts, hlocks, hname, hK, hL, hbs, hRf, hRl, hG⟩ := X
  rw [← hRf, ← hRl] at hR
  refine wr_call (va_runS (As := As) (rest := rest) (Ts := mt_w μ) ⟨hx, hb, hml, hown, hts⟩ (M hG) (va_cwS n hts hgood hw rfl rfl hdd hR) ⟨ct_blind hG _ _, ct_here X' hO hS As⟩ rfl hn hl.1 rfl (lv_room hroom) hd ⟨hc1, hs1⟩) hS (fun H1 locs1 hO1 hS1 => ?_)
  exact k H1 locs1 ls hO1 hS1 hl
/-- a private static of a nest mate -/
theorem ev_callSN {host : String} (hN : ∀ U : State, gl_L G U → va_Nw (.methodLinkNest (mt_y μ).cls index (mt_y ν) host) U) (hgood : GoodIn (mt_w μ) (mt_w ν)) (F : ca_ok μ ν n) (hini : Cond.initialized (mt_y ν).cls ∈ mt_w μ) (hstt : Cond.static (mt_y ν) ∈ mt_w μ) (hd : decode (mt_b μ) pc = .ok (.invokestatic index, 3)) (hn : As.length = n) (hroom : (rest.map fun v => v.category).sum ≤ 8) (hM : ct_E G ν As h Z1) (kk : ∀ o h1, Z1 o h1 → ev_E G μ (pc + 3) lv (o.toList ++ rest) h1 Z) : ev_E G μ pc lv (As.reverse ++ rest) h Z := by
  obtain ⟨o1, h1, z1, le1, le2, M⟩ := hM
  obtain ⟨⟨ws', hw⟩, hdd, hR⟩ := F
  refine ev_step (h2 := h1) le1 le2 (fun p e R s m args below meth c X H locs cells slots Q ls hO hS hl hc1 hs1 k => ?_) (kk o1 h1 z1)
  have X' := X
  obtain ⟨hx, hb, hml, hr, hown, hts, hlocks, hname, hK, hL, hbs, hRf, hRl, hG⟩ := X
  rw [← hRf, ← hRl] at hR
  refine wr_call (va_runSN (As := As) (rest := rest) (Ts := mt_w μ) ⟨hx, hb, hml, hown, hts⟩ (M hG) ⟨va_cnB n hts hgood hw rfl rfl (hN s hL) (hts _ hini) hdd hR, hts _ hstt, trivial⟩ ⟨ct_blind hG _ _, ct_here X' hO hS As⟩ rfl hn hl.1 rfl (lv_room hroom) hd ⟨hc1, hs1⟩) hS (fun H1 locs1 hO1 hS1 => ?_)
  exact k H1 locs1 ls hO1 hS1 hl
theorem ev_callI {b : Nat} (F : ca_I μ ν index n) (hd : decode (mt_b μ) pc = .ok (.invokespecial index, 3)) (hn : As.length = n) (hroom : (rest.map fun v => v.category).sum ≤ 8) (hM : ct_E G ν (.ref b :: As) h Z1) (kk : ∀ o h1, Z1 o h1 → ev_E G μ (pc + 3) lv (o.toList ++ rest) h1 Z) : ev_E G μ pc lv (As.reverse ++ .ref b :: rest) h Z := by
  obtain ⟨o1, h1, z1, le1, le2, M⟩ := hM
  obtain ⟨hgood, ⟨⟨ws', hw⟩, hdd, hR⟩, hr0, hnm, hini, hlink, hinst⟩ := F
  rw [hr0] at hw
  refine ev_step (h2 := h1) le1 le2 (fun p e R s m args below meth c X H locs cells slots Q ls hO hS hl hc1 hs1 k => ?_) (kk o1 h1 z1)
  have X' := X
  obtain ⟨hx, hb, hml, hr, hown, hts, hlocks, hname, hK, hL, hbs, hRf, hRl, hG⟩ := X
  rw [← hRf, ← hRl] at hR
  refine wr_call (va_runI (As := As) (rest := rest) (Ts := mt_w μ) ⟨hx, hb, hml, hown, hts⟩ (M hG) (cwI n hts hgood hw rfl rfl (hts _ hini) (hts _ hlink) (hts _ hinst) hnm hdd hR) ⟨ct_blind hG _ _, ct_here X' hO hS (.ref b :: As)⟩ rfl hn hl.1 rfl (lv_room hroom) hd ⟨hc1, hs1⟩) hS (fun H1 locs1 hO1 hS1 => ?_)
  exact k H1 locs1 ls hO1 hS1 hl
/-- Object's constructor -/
theorem ev_objInit {a : Nat} (hlink : Cond.methodLink (mt_y μ).cls index objectInit ∈ mt_w μ) (hinst : Cond.instanceMethod objectInit ∈ mt_w μ) (hcode : Cond.code objectInit ⟨#[0xb1]⟩ 1 none ∈ mt_w μ) (hf : 1 ≤ mt_f μ) (hlo : (rest.map fun v => v.category).sum + 12 ≤ mt_l μ) (hd : decode (mt_b μ) pc = .ok (.invokespecial index, 3)) (kk : ev_E G μ (pc + 3) lv rest h Z) : ev_E G μ pc lv (.ref a :: rest) h Z := by
  refine ev_pure (fun p e R s m args below meth c X H locs cells slots Q ls hO hS hl k => ?_) kk
  obtain ⟨hx, hb, hml, hr, hown, hts, hlocks, hname, hK, hL, hbs, hRf, hRl, hG⟩ := X
  refine W.objInit hx hb hown (hts _ hlink) (hts _ hinst) (hts _ hcode) rfl (by rw [hml]; exact hl.1) rfl hd (by rw [hRf]; exact hf) (by rw [hRl]; show 2 * 0 + _ + 12 ≤ _; omega) ?_
  exact W.eq (g2 := F0 m (pc + 3) ls rest) rfl (k ls hl)
end CALL
end
section
/-- the words that stay true while the tables warm: all of them serve every method -/
def tb_all : List Cond := lw_tbl.filter goodWord
theorem tb_in (i : Nat) {w : Cond} (h : lw_tbl[i]? = some w) (hg : goodWord w = true) : w ∈ tb_all := List.mem_filter.mpr ⟨List.mem_of_getElem? h, hg⟩
theorem tb_good {w : Cond} (h : w ∈ tb_all) : (w.onTables && w.keeps) = true ∨ ∃ ty, w = .arrayClass ty := good_of_word (List.mem_filter.mp h).2
theorem gi_W {c0 cn : Cond} (h : cn ∈ tb_all) : GoodIn (c0 :: tb_all) (cn :: tb_all) := fun w hw => by
  rcases List.mem_cons.mp hw with e | e
  · rw [e]; exact ⟨List.mem_cons_of_mem _ h, tb_good h⟩
  · exact ⟨List.mem_cons_of_mem _ e, tb_good e⟩
theorem gi_one {c0 : Cond} {a : List Cond} (h : ∀ w ∈ a, w ∈ tb_all) : GoodIn (c0 :: tb_all) a := fun w hw => ⟨List.mem_cons_of_mem _ (h w hw), tb_good (h w hw)⟩
theorem gi_app {big a b : List Cond} (ha : GoodIn big a) (hb : GoodIn big b) : GoodIn big (a ++ b) := fun w h => (List.mem_append.mp h).elim (ha w) (hb w)
theorem gi_V {c0 cn : Cond} {own C : String} {idx : Nat} {y : MethodName} (h1 : Cond.methodLink own idx y ∈ tb_all) (h2 : Cond.instanceMethod y ∈ tb_all) (h3 : Cond.selects C y y ∈ tb_all) (h4 : Cond.initialized C ∈ tb_all) (h5 : cn ∈ tb_all) : GoodIn (c0 :: tb_all) (wsV own idx C y (cn :: tb_all)) :=
  gi_app (gi_one (fun w hw => by
    simp only [List.mem_cons, List.not_mem_nil, or_false] at hw
    rcases hw with e | e | e | e <;> (rw [e]; assumption))) (gi_W h5)
theorem gi_S {c0 cn : Cond} {own : String} {idx : Nat} {y : MethodName} (h1 : Cond.methodLink own idx y ∈ tb_all) (h2 : Cond.static y ∈ tb_all) (h4 : Cond.initialized y.cls ∈ tb_all) (h5 : cn ∈ tb_all) : GoodIn (c0 :: tb_all) (va_wsS own idx y (cn :: tb_all)) :=
  gi_app (gi_one (fun w hw => by
    simp only [List.mem_cons, List.not_mem_nil, or_false] at hw
    rcases hw with e | e | e <;> (rw [e]; assumption))) (gi_W h5)
theorem tw_1 : (Cond.initialized "MailHeads") ∈ tb_all := tb_in 93 (by decide +kernel) rfl
theorem tw_2 : (Cond.initialized "MailHeads$Row") ∈ tb_all := tb_in 94 (by decide +kernel) rfl
theorem tw_3 : (Cond.initialized "MailHeads$Head") ∈ tb_all := tb_in 95 (by decide +kernel) rfl
theorem tw_4 : (Cond.initialized "MailHeads$Texts") ∈ tb_all := tb_in 96 (by decide +kernel) rfl
theorem tw_5 : (Cond.initialized "java/util/Arrays") ∈ tb_all := tb_in 97 (by decide +kernel) rfl
theorem tw_6 : (Cond.initialized "java/lang/Math") ∈ tb_all := tb_in 98 (by decide +kernel) rfl
theorem tw_8 : (Cond.initialized "MailHeads$Words") ∈ tb_all := tb_in 100 (by decide +kernel) rfl
theorem tw_9 : (Cond.initialized "MailHeads$Addresses") ∈ tb_all := tb_in 101 (by decide +kernel) rfl
theorem tw_10 : (Cond.initialized "MailHeads$Identities") ∈ tb_all := tb_in 102 (by decide +kernel) rfl
theorem tw_11 : (Cond.initialized "MailHeads$DateReader") ∈ tb_all := tb_in 103 (by decide +kernel) rfl
theorem tw_12 : (Cond.initialized "MailHeads$ContentType") ∈ tb_all := tb_in 104 (by decide +kernel) rfl
theorem tw_13 : (Cond.initialized "MailHeadsModel") ∈ tb_all := tb_in 105 (by decide +kernel) rfl
theorem tw_14 : (Cond.initialized "java/lang/Throwable") ∈ tb_all := tb_in 106 (by decide +kernel) rfl
theorem tw_15 : (Cond.initialized "java/lang/Exception") ∈ tb_all := tb_in 107 (by decide +kernel) rfl
theorem tw_16 : (Cond.initialized "java/lang/RuntimeException") ∈ tb_all := tb_in 108 (by decide +kernel) rfl
theorem tw_17 : (Cond.initialized "java/lang/IndexOutOfBoundsException") ∈ tb_all := tb_in 109 (by decide +kernel) rfl
theorem tw_18 : (Cond.initialized "java/lang/String") ∈ tb_all := tb_in 110 (by decide +kernel) rfl
theorem tw_19 : (Cond.initialized "java/lang/StringLatin1") ∈ tb_all := tb_in 111 (by decide +kernel) rfl
theorem tw_20 : (Cond.initialized "java/lang/StringUTF16") ∈ tb_all := tb_in 112 (by decide +kernel) rfl
theorem tw_21 : (Cond.initialized "jdk/internal/util/Preconditions") ∈ tb_all := tb_in 113 (by decide +kernel) rfl
theorem tw_22 : (Cond.initialized "java/lang/Character") ∈ tb_all := tb_in 114 (by decide +kernel) rfl
theorem tw_23 : (Cond.classLink "MailHeadsLaw" (8 : Nat) "MailHeads") ∈ tb_all := tb_in 115 (by decide +kernel) rfl
theorem tw_24 : (Cond.instantiable "MailHeads" (9 : Nat)) ∈ tb_all := tb_in 116 (by decide +kernel) rfl
theorem tw_28 : (Cond.methodLink "MailHeads" (1 : Nat) ({ cls := "java/lang/Object", name := "<init>", desc := "()V" } : MethodName)) ∈ tb_all := tb_in 120 (by decide +kernel) rfl
theorem tw_29 : (Cond.instanceMethod ({ cls := "java/lang/Object", name := "<init>", desc := "()V" } : MethodName)) ∈ tb_all := tb_in 121 (by decide +kernel) rfl
theorem tw_30 : (Cond.code ({ cls := "java/lang/Object", name := "<init>", desc := "()V" } : MethodName) object_method_1_code (1 : Nat) (Option.none : Option Jvm.ClassFile.FieldType)) ∈ tb_all := tb_in 122 (by decide +kernel) rfl
theorem tw_31 : (Cond.classLink "MailHeads" (13 : Nat) "MailHeads$Row") ∈ tb_all := tb_in 123 (by decide +kernel) rfl
theorem tw_32 : (Cond.instantiable "MailHeads$Row" (2 : Nat)) ∈ tb_all := tb_in 124 (by decide +kernel) rfl
theorem tw_33 : (Cond.methodLink "MailHeads" (15 : Nat) ({ cls := "MailHeads$Row", name := "<init>", desc := "()V" } : MethodName)) ∈ tb_all := tb_in 125 (by decide +kernel) rfl
theorem tw_34 : (Cond.instanceMethod ({ cls := "MailHeads$Row", name := "<init>", desc := "()V" } : MethodName)) ∈ tb_all := tb_in 126 (by decide +kernel) rfl
theorem tw_35 : (Cond.code ({ cls := "MailHeads$Row", name := "<init>", desc := "()V" } : MethodName) prog_7_method_1_code (1 : Nat) (Option.none : Option Jvm.ClassFile.FieldType)) ∈ tb_all := tb_in 127 (by decide +kernel) rfl
theorem tw_36 : (Cond.methodLink "MailHeads$Row" (3 : Nat) ({ cls := "java/lang/Object", name := "<init>", desc := "()V" } : MethodName)) ∈ tb_all := tb_in 128 (by decide +kernel) rfl
theorem tw_37 : (Cond.fieldLink "MailHeads$Row" (11 : Nat) "MailHeads$Row" "cells" "[I") ∈ tb_all := tb_in 129 (by decide +kernel) rfl
theorem tw_38 : (Cond.fieldLink "MailHeads$Row" (15 : Nat) "MailHeads$Row" "count" "I") ∈ tb_all := tb_in 130 (by decide +kernel) rfl
theorem tw_44 : (Cond.arrayClass FieldType.int) ∈ tb_all := tb_in 136 (by decide +kernel) rfl
theorem tw_45 : (Cond.classLink "MailHeads" (20 : Nat) "MailHeads$Head") ∈ tb_all := tb_in 137 (by decide +kernel) rfl
theorem tw_46 : (Cond.instantiable "MailHeads$Head" (3 : Nat)) ∈ tb_all := tb_in 138 (by decide +kernel) rfl
theorem tw_47 : (Cond.methodLink "MailHeads" (22 : Nat) ({ cls := "MailHeads$Head", name := "<init>", desc := "()V" } : MethodName)) ∈ tb_all := tb_in 139 (by decide +kernel) rfl
theorem tw_48 : (Cond.instanceMethod ({ cls := "MailHeads$Head", name := "<init>", desc := "()V" } : MethodName)) ∈ tb_all := tb_in 140 (by decide +kernel) rfl
theorem tw_49 : (Cond.code ({ cls := "MailHeads$Head", name := "<init>", desc := "()V" } : MethodName) prog_5_method_1_code (1 : Nat) (Option.none : Option Jvm.ClassFile.FieldType)) ∈ tb_all := tb_in 141 (by decide +kernel) rfl
theorem tw_50 : (Cond.methodLink "MailHeads$Head" (3 : Nat) ({ cls := "java/lang/Object", name := "<init>", desc := "()V" } : MethodName)) ∈ tb_all := tb_in 142 (by decide +kernel) rfl
theorem tw_51 : (Cond.classLink "MailHeads$Head" (9 : Nat) "MailHeads$Texts") ∈ tb_all := tb_in 143 (by decide +kernel) rfl
theorem tw_52 : (Cond.instantiable "MailHeads$Texts" (2 : Nat)) ∈ tb_all := tb_in 144 (by decide +kernel) rfl
theorem tw_53 : (Cond.methodLink "MailHeads$Head" (11 : Nat) ({ cls := "MailHeads$Texts", name := "<init>", desc := "()V" } : MethodName)) ∈ tb_all := tb_in 145 (by decide +kernel) rfl
theorem tw_54 : (Cond.instanceMethod ({ cls := "MailHeads$Texts", name := "<init>", desc := "()V" } : MethodName)) ∈ tb_all := tb_in 146 (by decide +kernel) rfl
theorem tw_55 : (Cond.code ({ cls := "MailHeads$Texts", name := "<init>", desc := "()V" } : MethodName) prog_8_method_1_code (1 : Nat) (Option.none : Option Jvm.ClassFile.FieldType)) ∈ tb_all := tb_in 147 (by decide +kernel) rfl
theorem tw_56 : (Cond.methodLink "MailHeads$Texts" (3 : Nat) ({ cls := "java/lang/Object", name := "<init>", desc := "()V" } : MethodName)) ∈ tb_all := tb_in 148 (by decide +kernel) rfl
theorem tw_57 : (Cond.classLink "MailHeads$Texts" (9 : Nat) "MailHeads$Row") ∈ tb_all := tb_in 149 (by decide +kernel) rfl
theorem tw_58 : (Cond.methodLink "MailHeads$Texts" (11 : Nat) ({ cls := "MailHeads$Row", name := "<init>", desc := "()V" } : MethodName)) ∈ tb_all := tb_in 150 (by decide +kernel) rfl
theorem tw_59 : (Cond.methodLink "MailHeads$Texts" (21 : Nat) ({ cls := "MailHeads$Row", name := "add", desc := "(I)V" } : MethodName)) ∈ tb_all := tb_in 151 (by decide +kernel) rfl
theorem tw_60 : (Cond.instanceMethod ({ cls := "MailHeads$Row", name := "add", desc := "(I)V" } : MethodName)) ∈ tb_all := tb_in 152 (by decide +kernel) rfl
theorem tw_61 : (Cond.selects "MailHeads$Row" ({ cls := "MailHeads$Row", name := "add", desc := "(I)V" } : MethodName) ({ cls := "MailHeads$Row", name := "add", desc := "(I)V" } : MethodName)) ∈ tb_all := tb_in 153 (by decide +kernel) rfl
theorem tw_62 : (Cond.code ({ cls := "MailHeads$Row", name := "add", desc := "(I)V" } : MethodName) prog_7_method_4_code (2 : Nat) (Option.none : Option Jvm.ClassFile.FieldType)) ∈ tb_all := tb_in 154 (by decide +kernel) rfl
theorem tw_63 : (Cond.methodLink "MailHeads$Row" (19 : Nat) ({ cls := "java/util/Arrays", name := "copyOf", desc := "([II)[I" } : MethodName)) ∈ tb_all := tb_in 155 (by decide +kernel) rfl
theorem tw_64 : (Cond.static ({ cls := "java/util/Arrays", name := "copyOf", desc := "([II)[I" } : MethodName)) ∈ tb_all := tb_in 156 (by decide +kernel) rfl
theorem tw_65 : (Cond.code ({ cls := "java/util/Arrays", name := "copyOf", desc := "([II)[I" } : MethodName) prog_23_method_123_code (3 : Nat) (Option.some (FieldType.array FieldType.int))) ∈ tb_all := tb_in 157 (by decide +kernel) rfl
theorem tw_73 : (Cond.methodLink "java/util/Arrays" (304 : Nat) ({ cls := "java/lang/Math", name := "min", desc := "(II)I" } : MethodName)) ∈ tb_all := tb_in 165 (by decide +kernel) rfl
theorem tw_74 : (Cond.static ({ cls := "java/lang/Math", name := "min", desc := "(II)I" } : MethodName)) ∈ tb_all := tb_in 166 (by decide +kernel) rfl
theorem tw_75 : (Cond.code ({ cls := "java/lang/Math", name := "min", desc := "(II)I" } : MethodName) prog_16_method_69_code (2 : Nat) (Option.some FieldType.int)) ∈ tb_all := tb_in 167 (by decide +kernel) rfl
theorem tw_79 : (Cond.fieldLink "MailHeads$Texts" (12 : Nat) "MailHeads$Texts" "bytes" "LMailHeads$Row;") ∈ tb_all := tb_in 171 (by decide +kernel) rfl
theorem tw_80 : (Cond.fieldLink "MailHeads$Texts" (18 : Nat) "MailHeads$Texts" "bounds" "LMailHeads$Row;") ∈ tb_all := tb_in 172 (by decide +kernel) rfl
theorem tw_86 : (Cond.fieldLink "MailHeads$Head" (12 : Nat) "MailHeads$Head" "texts" "LMailHeads$Texts;") ∈ tb_all := tb_in 178 (by decide +kernel) rfl
theorem tw_87 : (Cond.fieldLink "MailHeads$Head" (18 : Nat) "MailHeads$Head" "badLines" "I") ∈ tb_all := tb_in 179 (by decide +kernel) rfl
theorem tw_88 : (Cond.fieldLink "MailHeads$Head" (22 : Nat) "MailHeads$Head" "valueOpen" "Z") ∈ tb_all := tb_in 180 (by decide +kernel) rfl
theorem tw_96 : (Cond.classLink "MailHeads" (27 : Nat) "MailHeads$Words") ∈ tb_all := tb_in 188 (by decide +kernel) rfl
theorem tw_97 : (Cond.instantiable "MailHeads$Words" (5 : Nat)) ∈ tb_all := tb_in 189 (by decide +kernel) rfl
theorem tw_98 : (Cond.methodLink "MailHeads" (29 : Nat) ({ cls := "MailHeads$Words", name := "<init>", desc := "()V" } : MethodName)) ∈ tb_all := tb_in 190 (by decide +kernel) rfl
theorem tw_99 : (Cond.instanceMethod ({ cls := "MailHeads$Words", name := "<init>", desc := "()V" } : MethodName)) ∈ tb_all := tb_in 191 (by decide +kernel) rfl
theorem tw_100 : (Cond.code ({ cls := "MailHeads$Words", name := "<init>", desc := "()V" } : MethodName) prog_9_method_1_code (1 : Nat) (Option.none : Option Jvm.ClassFile.FieldType)) ∈ tb_all := tb_in 192 (by decide +kernel) rfl
theorem tw_101 : (Cond.methodLink "MailHeads$Words" (3 : Nat) ({ cls := "java/lang/Object", name := "<init>", desc := "()V" } : MethodName)) ∈ tb_all := tb_in 193 (by decide +kernel) rfl
theorem tw_102 : (Cond.classLink "MailHeads$Words" (9 : Nat) "MailHeads$Texts") ∈ tb_all := tb_in 194 (by decide +kernel) rfl
theorem tw_103 : (Cond.methodLink "MailHeads$Words" (11 : Nat) ({ cls := "MailHeads$Texts", name := "<init>", desc := "()V" } : MethodName)) ∈ tb_all := tb_in 195 (by decide +kernel) rfl
theorem tw_104 : (Cond.classLink "MailHeads$Words" (18 : Nat) "MailHeads$Row") ∈ tb_all := tb_in 196 (by decide +kernel) rfl
theorem tw_105 : (Cond.methodLink "MailHeads$Words" (20 : Nat) ({ cls := "MailHeads$Row", name := "<init>", desc := "()V" } : MethodName)) ∈ tb_all := tb_in 197 (by decide +kernel) rfl
theorem tw_107 : (Cond.fieldLink "MailHeads$Words" (12 : Nat) "MailHeads$Words" "texts" "LMailHeads$Texts;") ∈ tb_all := tb_in 199 (by decide +kernel) rfl
theorem tw_108 : (Cond.fieldLink "MailHeads$Words" (21 : Nat) "MailHeads$Words" "kinds" "LMailHeads$Row;") ∈ tb_all := tb_in 200 (by decide +kernel) rfl
theorem tw_109 : (Cond.fieldLink "MailHeads$Words" (25 : Nat) "MailHeads$Words" "source" "LMailHeads$Texts;") ∈ tb_all := tb_in 201 (by decide +kernel) rfl
theorem tw_110 : (Cond.fieldLink "MailHeads$Words" (28 : Nat) "MailHeads$Words" "value" "I") ∈ tb_all := tb_in 202 (by decide +kernel) rfl
theorem tw_111 : (Cond.fieldLink "MailHeads$Words" (34 : Nat) "MailHeads$Words" "signs" "Ljava/lang/String;") ∈ tb_all := tb_in 203 (by decide +kernel) rfl
theorem tw_123 : (Cond.arrayClass FieldType.byte) ∈ tb_all := tb_in 215 (by decide +kernel) rfl
theorem tw_124 : (Cond.classLink "MailHeads" (34 : Nat) "MailHeads$Addresses") ∈ tb_all := tb_in 216 (by decide +kernel) rfl
theorem tw_125 : (Cond.instantiable "MailHeads$Addresses" (8 : Nat)) ∈ tb_all := tb_in 217 (by decide +kernel) rfl
theorem tw_126 : (Cond.methodLink "MailHeads" (36 : Nat) ({ cls := "MailHeads$Addresses", name := "<init>", desc := "(LMailHeads$Words;)V" } : MethodName)) ∈ tb_all := tb_in 218 (by decide +kernel) rfl
theorem tw_127 : (Cond.instanceMethod ({ cls := "MailHeads$Addresses", name := "<init>", desc := "(LMailHeads$Words;)V" } : MethodName)) ∈ tb_all := tb_in 219 (by decide +kernel) rfl
theorem tw_128 : (Cond.code ({ cls := "MailHeads$Addresses", name := "<init>", desc := "(LMailHeads$Words;)V" } : MethodName) prog_2_method_1_code (2 : Nat) (Option.none : Option Jvm.ClassFile.FieldType)) ∈ tb_all := tb_in 220 (by decide +kernel) rfl
theorem tw_129 : (Cond.methodLink "MailHeads$Addresses" (3 : Nat) ({ cls := "java/lang/Object", name := "<init>", desc := "()V" } : MethodName)) ∈ tb_all := tb_in 221 (by decide +kernel) rfl
theorem tw_130 : (Cond.classLink "MailHeads$Addresses" (15 : Nat) "MailHeads$Texts") ∈ tb_all := tb_in 222 (by decide +kernel) rfl
theorem tw_131 : (Cond.methodLink "MailHeads$Addresses" (17 : Nat) ({ cls := "MailHeads$Texts", name := "<init>", desc := "()V" } : MethodName)) ∈ tb_all := tb_in 223 (by decide +kernel) rfl
theorem tw_132 : (Cond.classLink "MailHeads$Addresses" (22 : Nat) "MailHeads$Row") ∈ tb_all := tb_in 224 (by decide +kernel) rfl
theorem tw_133 : (Cond.methodLink "MailHeads$Addresses" (24 : Nat) ({ cls := "MailHeads$Row", name := "<init>", desc := "()V" } : MethodName)) ∈ tb_all := tb_in 225 (by decide +kernel) rfl
theorem tw_134 : (Cond.fieldLink "MailHeads$Addresses" (9 : Nat) "MailHeads$Addresses" "words" "LMailHeads$Words;") ∈ tb_all := tb_in 226 (by decide +kernel) rfl
theorem tw_135 : (Cond.fieldLink "MailHeads$Addresses" (18 : Nat) "MailHeads$Addresses" "texts" "LMailHeads$Texts;") ∈ tb_all := tb_in 227 (by decide +kernel) rfl
theorem tw_136 : (Cond.fieldLink "MailHeads$Addresses" (25 : Nat) "MailHeads$Addresses" "groups" "LMailHeads$Row;") ∈ tb_all := tb_in 228 (by decide +kernel) rfl
theorem tw_137 : (Cond.fieldLink "MailHeads$Addresses" (29 : Nat) "MailHeads$Addresses" "groupNames" "LMailHeads$Texts;") ∈ tb_all := tb_in 229 (by decide +kernel) rfl
theorem tw_138 : (Cond.fieldLink "MailHeads$Addresses" (32 : Nat) "MailHeads$Addresses" "gathered" "LMailHeads$Row;") ∈ tb_all := tb_in 230 (by decide +kernel) rfl
theorem tw_139 : (Cond.fieldLink "MailHeads$Addresses" (35 : Nat) "MailHeads$Addresses" "badOnes" "I") ∈ tb_all := tb_in 231 (by decide +kernel) rfl
theorem tw_140 : (Cond.fieldLink "MailHeads$Addresses" (39 : Nat) "MailHeads$Addresses" "groupNow" "I") ∈ tb_all := tb_in 232 (by decide +kernel) rfl
theorem tw_141 : (Cond.fieldLink "MailHeads$Addresses" (42 : Nat) "MailHeads$Addresses" "comment" "I") ∈ tb_all := tb_in 233 (by decide +kernel) rfl
theorem tw_159 : (Cond.classLink "MailHeads" (43 : Nat) "MailHeads$Identities") ∈ tb_all := tb_in 251 (by decide +kernel) rfl
theorem tw_160 : (Cond.instantiable "MailHeads$Identities" (1 : Nat)) ∈ tb_all := tb_in 252 (by decide +kernel) rfl
theorem tw_161 : (Cond.methodLink "MailHeads" (45 : Nat) ({ cls := "MailHeads$Identities", name := "<init>", desc := "()V" } : MethodName)) ∈ tb_all := tb_in 253 (by decide +kernel) rfl
theorem tw_162 : (Cond.instanceMethod ({ cls := "MailHeads$Identities", name := "<init>", desc := "()V" } : MethodName)) ∈ tb_all := tb_in 254 (by decide +kernel) rfl
theorem tw_163 : (Cond.code ({ cls := "MailHeads$Identities", name := "<init>", desc := "()V" } : MethodName) prog_6_method_1_code (1 : Nat) (Option.none : Option Jvm.ClassFile.FieldType)) ∈ tb_all := tb_in 255 (by decide +kernel) rfl
theorem tw_164 : (Cond.methodLink "MailHeads$Identities" (3 : Nat) ({ cls := "java/lang/Object", name := "<init>", desc := "()V" } : MethodName)) ∈ tb_all := tb_in 256 (by decide +kernel) rfl
theorem tw_165 : (Cond.classLink "MailHeads$Identities" (9 : Nat) "MailHeads$Texts") ∈ tb_all := tb_in 257 (by decide +kernel) rfl
theorem tw_166 : (Cond.methodLink "MailHeads$Identities" (11 : Nat) ({ cls := "MailHeads$Texts", name := "<init>", desc := "()V" } : MethodName)) ∈ tb_all := tb_in 258 (by decide +kernel) rfl
theorem tw_167 : (Cond.fieldLink "MailHeads$Identities" (12 : Nat) "MailHeads$Identities" "texts" "LMailHeads$Texts;") ∈ tb_all := tb_in 259 (by decide +kernel) rfl
theorem tw_171 : (Cond.classLink "MailHeads" (50 : Nat) "MailHeads$DateReader") ∈ tb_all := tb_in 263 (by decide +kernel) rfl
theorem tw_172 : (Cond.instantiable "MailHeads$DateReader" (2 : Nat)) ∈ tb_all := tb_in 264 (by decide +kernel) rfl
theorem tw_173 : (Cond.methodLink "MailHeads" (52 : Nat) ({ cls := "MailHeads$DateReader", name := "<init>", desc := "(LMailHeads$Words;)V" } : MethodName)) ∈ tb_all := tb_in 265 (by decide +kernel) rfl
theorem tw_174 : (Cond.instanceMethod ({ cls := "MailHeads$DateReader", name := "<init>", desc := "(LMailHeads$Words;)V" } : MethodName)) ∈ tb_all := tb_in 266 (by decide +kernel) rfl
theorem tw_175 : (Cond.code ({ cls := "MailHeads$DateReader", name := "<init>", desc := "(LMailHeads$Words;)V" } : MethodName) prog_4_method_1_code (2 : Nat) (Option.none : Option Jvm.ClassFile.FieldType)) ∈ tb_all := tb_in 267 (by decide +kernel) rfl
theorem tw_176 : (Cond.methodLink "MailHeads$DateReader" (5 : Nat) ({ cls := "java/lang/Object", name := "<init>", desc := "()V" } : MethodName)) ∈ tb_all := tb_in 268 (by decide +kernel) rfl
theorem tw_177 : (Cond.fieldLink "MailHeads$DateReader" (11 : Nat) "MailHeads$DateReader" "words" "LMailHeads$Words;") ∈ tb_all := tb_in 269 (by decide +kernel) rfl
theorem tw_178 : (Cond.fieldLink "MailHeads$DateReader" (17 : Nat) "MailHeads$DateReader" "place" "I") ∈ tb_all := tb_in 270 (by decide +kernel) rfl
theorem tw_184 : (Cond.classLink "MailHeads" (57 : Nat) "MailHeads$ContentType") ∈ tb_all := tb_in 276 (by decide +kernel) rfl
theorem tw_185 : (Cond.instantiable "MailHeads$ContentType" (7 : Nat)) ∈ tb_all := tb_in 277 (by decide +kernel) rfl
theorem tw_186 : (Cond.methodLink "MailHeads" (59 : Nat) ({ cls := "MailHeads$ContentType", name := "<init>", desc := "(LMailHeads$Words;)V" } : MethodName)) ∈ tb_all := tb_in 278 (by decide +kernel) rfl
theorem tw_187 : (Cond.instanceMethod ({ cls := "MailHeads$ContentType", name := "<init>", desc := "(LMailHeads$Words;)V" } : MethodName)) ∈ tb_all := tb_in 279 (by decide +kernel) rfl
theorem tw_188 : (Cond.code ({ cls := "MailHeads$ContentType", name := "<init>", desc := "(LMailHeads$Words;)V" } : MethodName) prog_3_method_1_code (2 : Nat) (Option.none : Option Jvm.ClassFile.FieldType)) ∈ tb_all := tb_in 280 (by decide +kernel) rfl
theorem tw_189 : (Cond.methodLink "MailHeads$ContentType" (3 : Nat) ({ cls := "java/lang/Object", name := "<init>", desc := "()V" } : MethodName)) ∈ tb_all := tb_in 281 (by decide +kernel) rfl
theorem tw_190 : (Cond.classLink "MailHeads$ContentType" (15 : Nat) "MailHeads$Texts") ∈ tb_all := tb_in 282 (by decide +kernel) rfl
theorem tw_191 : (Cond.methodLink "MailHeads$ContentType" (17 : Nat) ({ cls := "MailHeads$Texts", name := "<init>", desc := "()V" } : MethodName)) ∈ tb_all := tb_in 283 (by decide +kernel) rfl
theorem tw_192 : (Cond.classLink "MailHeads$ContentType" (28 : Nat) "MailHeads$Row") ∈ tb_all := tb_in 284 (by decide +kernel) rfl
theorem tw_193 : (Cond.methodLink "MailHeads$ContentType" (30 : Nat) ({ cls := "MailHeads$Row", name := "<init>", desc := "()V" } : MethodName)) ∈ tb_all := tb_in 285 (by decide +kernel) rfl
theorem tw_194 : (Cond.fieldLink "MailHeads$ContentType" (9 : Nat) "MailHeads$ContentType" "words" "LMailHeads$Words;") ∈ tb_all := tb_in 286 (by decide +kernel) rfl
theorem tw_195 : (Cond.fieldLink "MailHeads$ContentType" (18 : Nat) "MailHeads$ContentType" "parts" "LMailHeads$Texts;") ∈ tb_all := tb_in 287 (by decide +kernel) rfl
theorem tw_196 : (Cond.fieldLink "MailHeads$ContentType" (22 : Nat) "MailHeads$ContentType" "names" "LMailHeads$Texts;") ∈ tb_all := tb_in 288 (by decide +kernel) rfl
theorem tw_197 : (Cond.fieldLink "MailHeads$ContentType" (25 : Nat) "MailHeads$ContentType" "values" "LMailHeads$Texts;") ∈ tb_all := tb_in 289 (by decide +kernel) rfl
theorem tw_198 : (Cond.fieldLink "MailHeads$ContentType" (31 : Nat) "MailHeads$ContentType" "pieces" "LMailHeads$Row;") ∈ tb_all := tb_in 290 (by decide +kernel) rfl
theorem tw_199 : (Cond.fieldLink "MailHeads$ContentType" (35 : Nat) "MailHeads$ContentType" "codes" "LMailHeads$Row;") ∈ tb_all := tb_in 291 (by decide +kernel) rfl
theorem tw_200 : (Cond.fieldLink "MailHeads$ContentType" (38 : Nat) "MailHeads$ContentType" "hand" "LMailHeads$Texts;") ∈ tb_all := tb_in 292 (by decide +kernel) rfl
theorem tw_216 : (Cond.classLink "MailHeads" (64 : Nat) "MailHeads$Texts") ∈ tb_all := tb_in 308 (by decide +kernel) rfl
theorem tw_217 : (Cond.methodLink "MailHeads" (66 : Nat) ({ cls := "MailHeads$Texts", name := "<init>", desc := "()V" } : MethodName)) ∈ tb_all := tb_in 309 (by decide +kernel) rfl
theorem tw_218 : (Cond.fieldLink "MailHeads" (9 : Nat) "MailHeads" "ready" "[I") ∈ tb_all := tb_in 310 (by decide +kernel) rfl
theorem tw_219 : (Cond.fieldLink "MailHeads" (16 : Nat) "MailHeads" "tape" "LMailHeads$Row;") ∈ tb_all := tb_in 311 (by decide +kernel) rfl
theorem tw_220 : (Cond.fieldLink "MailHeads" (23 : Nat) "MailHeads" "head" "LMailHeads$Head;") ∈ tb_all := tb_in 312 (by decide +kernel) rfl
theorem tw_221 : (Cond.fieldLink "MailHeads" (30 : Nat) "MailHeads" "words" "LMailHeads$Words;") ∈ tb_all := tb_in 313 (by decide +kernel) rfl
theorem tw_222 : (Cond.fieldLink "MailHeads" (39 : Nat) "MailHeads" "lastAddresses" "LMailHeads$Addresses;") ∈ tb_all := tb_in 314 (by decide +kernel) rfl
theorem tw_223 : (Cond.fieldLink "MailHeads" (46 : Nat) "MailHeads" "lastIdentities" "LMailHeads$Identities;") ∈ tb_all := tb_in 315 (by decide +kernel) rfl
theorem tw_224 : (Cond.fieldLink "MailHeads" (53 : Nat) "MailHeads" "dateReader" "LMailHeads$DateReader;") ∈ tb_all := tb_in 316 (by decide +kernel) rfl
theorem tw_225 : (Cond.fieldLink "MailHeads" (60 : Nat) "MailHeads" "lastType" "LMailHeads$ContentType;") ∈ tb_all := tb_in 317 (by decide +kernel) rfl
theorem tw_226 : (Cond.fieldLink "MailHeads" (67 : Nat) "MailHeads" "nothing" "LMailHeads$Texts;") ∈ tb_all := tb_in 318 (by decide +kernel) rfl
theorem tw_254 : (Cond.methodLink "MailHeads" (71 : Nat) ({ cls := "MailHeads$Row", name := "size", desc := "()I" } : MethodName)) ∈ tb_all := tb_in 346 (by decide +kernel) rfl
theorem tw_255 : (Cond.instanceMethod ({ cls := "MailHeads$Row", name := "size", desc := "()I" } : MethodName)) ∈ tb_all := tb_in 347 (by decide +kernel) rfl
theorem tw_256 : (Cond.selects "MailHeads$Row" ({ cls := "MailHeads$Row", name := "size", desc := "()I" } : MethodName) ({ cls := "MailHeads$Row", name := "size", desc := "()I" } : MethodName)) ∈ tb_all := tb_in 348 (by decide +kernel) rfl
theorem tw_257 : (Cond.code ({ cls := "MailHeads$Row", name := "size", desc := "()I" } : MethodName) prog_7_method_2_code (1 : Nat) (Option.some FieldType.int)) ∈ tb_all := tb_in 349 (by decide +kernel) rfl
theorem tw_258 : (Cond.methodLink "MailHeads" (75 : Nat) ({ cls := "MailHeads$Row", name := "add", desc := "(I)V" } : MethodName)) ∈ tb_all := tb_in 350 (by decide +kernel) rfl
theorem tw_259 : (Cond.methodLink "MailHeads" (79 : Nat) ({ cls := "java/util/Arrays", name := "fill", desc := "([II)V" } : MethodName)) ∈ tb_all := tb_in 351 (by decide +kernel) rfl
theorem tw_260 : (Cond.static ({ cls := "java/util/Arrays", name := "fill", desc := "([II)V" } : MethodName)) ∈ tb_all := tb_in 352 (by decide +kernel) rfl
theorem tw_261 : (Cond.code ({ cls := "java/util/Arrays", name := "fill", desc := "([II)V" } : MethodName) prog_23_method_103_code (4 : Nat) (Option.none : Option Jvm.ClassFile.FieldType)) ∈ tb_all := tb_in 353 (by decide +kernel) rfl
theorem tw_266 : (Cond.methodLink "MailHeads" (85 : Nat) ({ cls := "MailHeads$Head", name := "readLines", desc := "(LMailHeads$Row;)V" } : MethodName)) ∈ tb_all := tb_in 358 (by decide +kernel) rfl
theorem tw_267 : (Cond.instanceMethod ({ cls := "MailHeads$Head", name := "readLines", desc := "(LMailHeads$Row;)V" } : MethodName)) ∈ tb_all := tb_in 359 (by decide +kernel) rfl
theorem tw_268 : (Cond.selects "MailHeads$Head" ({ cls := "MailHeads$Head", name := "readLines", desc := "(LMailHeads$Row;)V" } : MethodName) ({ cls := "MailHeads$Head", name := "readLines", desc := "(LMailHeads$Row;)V" } : MethodName)) ∈ tb_all := tb_in 360 (by decide +kernel) rfl
theorem tw_269 : (Cond.code ({ cls := "MailHeads$Head", name := "readLines", desc := "(LMailHeads$Row;)V" } : MethodName) prog_5_method_7_code (7 : Nat) (Option.none : Option Jvm.ClassFile.FieldType)) ∈ tb_all := tb_in 361 (by decide +kernel) rfl
theorem tw_270 : (Cond.methodLink "MailHeads$Head" (35 : Nat) ({ cls := "MailHeads$Texts", name := "clear", desc := "()V" } : MethodName)) ∈ tb_all := tb_in 362 (by decide +kernel) rfl
theorem tw_271 : (Cond.instanceMethod ({ cls := "MailHeads$Texts", name := "clear", desc := "()V" } : MethodName)) ∈ tb_all := tb_in 363 (by decide +kernel) rfl
theorem tw_272 : (Cond.selects "MailHeads$Texts" ({ cls := "MailHeads$Texts", name := "clear", desc := "()V" } : MethodName) ({ cls := "MailHeads$Texts", name := "clear", desc := "()V" } : MethodName)) ∈ tb_all := tb_in 364 (by decide +kernel) rfl
theorem tw_273 : (Cond.code ({ cls := "MailHeads$Texts", name := "clear", desc := "()V" } : MethodName) prog_8_method_10_code (1 : Nat) (Option.none : Option Jvm.ClassFile.FieldType)) ∈ tb_all := tb_in 365 (by decide +kernel) rfl
theorem tw_274 : (Cond.methodLink "MailHeads$Texts" (43 : Nat) ({ cls := "MailHeads$Row", name := "cutTo", desc := "(I)V" } : MethodName)) ∈ tb_all := tb_in 366 (by decide +kernel) rfl
theorem tw_275 : (Cond.instanceMethod ({ cls := "MailHeads$Row", name := "cutTo", desc := "(I)V" } : MethodName)) ∈ tb_all := tb_in 367 (by decide +kernel) rfl
theorem tw_276 : (Cond.selects "MailHeads$Row" ({ cls := "MailHeads$Row", name := "cutTo", desc := "(I)V" } : MethodName) ({ cls := "MailHeads$Row", name := "cutTo", desc := "(I)V" } : MethodName)) ∈ tb_all := tb_in 368 (by decide +kernel) rfl
theorem tw_277 : (Cond.code ({ cls := "MailHeads$Row", name := "cutTo", desc := "(I)V" } : MethodName) prog_7_method_5_code (2 : Nat) (Option.none : Option Jvm.ClassFile.FieldType)) ∈ tb_all := tb_in 369 (by decide +kernel) rfl
theorem tw_278 : (Cond.methodLink "MailHeads$Head" (38 : Nat) ({ cls := "MailHeads$Row", name := "size", desc := "()I" } : MethodName)) ∈ tb_all := tb_in 370 (by decide +kernel) rfl
theorem tw_279 : (Cond.methodLink "MailHeads$Head" (43 : Nat) ({ cls := "MailHeads$Row", name := "get", desc := "(I)I" } : MethodName)) ∈ tb_all := tb_in 371 (by decide +kernel) rfl
theorem tw_280 : (Cond.instanceMethod ({ cls := "MailHeads$Row", name := "get", desc := "(I)I" } : MethodName)) ∈ tb_all := tb_in 372 (by decide +kernel) rfl
theorem tw_281 : (Cond.selects "MailHeads$Row" ({ cls := "MailHeads$Row", name := "get", desc := "(I)I" } : MethodName) ({ cls := "MailHeads$Row", name := "get", desc := "(I)I" } : MethodName)) ∈ tb_all := tb_in 373 (by decide +kernel) rfl
theorem tw_282 : (Cond.code ({ cls := "MailHeads$Row", name := "get", desc := "(I)I" } : MethodName) prog_7_method_3_code (2 : Nat) (Option.some FieldType.int)) ∈ tb_all := tb_in 374 (by decide +kernel) rfl
theorem tw_283 : (Cond.methodLink "MailHeads$Head" (47 : Nat) ({ cls := "MailHeads$Head", name := "takeLine", desc := "(LMailHeads$Row;II)Z" } : MethodName)) ∈ tb_all := tb_in 375 (by decide +kernel) rfl
theorem tw_285 : (Cond.instanceMethod ({ cls := "MailHeads$Head", name := "takeLine", desc := "(LMailHeads$Row;II)Z" } : MethodName)) ∈ tb_all := tb_in 377 (by decide +kernel) rfl
theorem tw_286 : (Cond.code ({ cls := "MailHeads$Head", name := "takeLine", desc := "(LMailHeads$Row;II)Z" } : MethodName) prog_5_method_8_code (6 : Nat) (Option.some FieldType.boolean)) ∈ tb_all := tb_in 378 (by decide +kernel) rfl
theorem tw_290 : (Cond.methodLink "MailHeads$Head" (58 : Nat) ({ cls := "MailHeads$Head", name := "takeFolded", desc := "(LMailHeads$Row;II)V" } : MethodName)) ∈ tb_all := tb_in 382 (by decide +kernel) rfl
theorem tw_292 : (Cond.instanceMethod ({ cls := "MailHeads$Head", name := "takeFolded", desc := "(LMailHeads$Row;II)V" } : MethodName)) ∈ tb_all := tb_in 384 (by decide +kernel) rfl
theorem tw_293 : (Cond.code ({ cls := "MailHeads$Head", name := "takeFolded", desc := "(LMailHeads$Row;II)V" } : MethodName) prog_5_method_9_code (4 : Nat) (Option.none : Option Jvm.ClassFile.FieldType)) ∈ tb_all := tb_in 385 (by decide +kernel) rfl
theorem tw_294 : (Cond.methodLink "MailHeads$Head" (69 : Nat) ({ cls := "MailHeads$Head", name := "putBytes", desc := "(LMailHeads$Row;II)V" } : MethodName)) ∈ tb_all := tb_in 386 (by decide +kernel) rfl
theorem tw_296 : (Cond.instanceMethod ({ cls := "MailHeads$Head", name := "putBytes", desc := "(LMailHeads$Row;II)V" } : MethodName)) ∈ tb_all := tb_in 388 (by decide +kernel) rfl
theorem tw_297 : (Cond.code ({ cls := "MailHeads$Head", name := "putBytes", desc := "(LMailHeads$Row;II)V" } : MethodName) prog_5_method_12_code (5 : Nat) (Option.none : Option Jvm.ClassFile.FieldType)) ∈ tb_all := tb_in 389 (by decide +kernel) rfl
theorem tw_298 : (Cond.methodLink "MailHeads$Head" (75 : Nat) ({ cls := "MailHeads$Texts", name := "put", desc := "(I)V" } : MethodName)) ∈ tb_all := tb_in 390 (by decide +kernel) rfl
theorem tw_299 : (Cond.instanceMethod ({ cls := "MailHeads$Texts", name := "put", desc := "(I)V" } : MethodName)) ∈ tb_all := tb_in 391 (by decide +kernel) rfl
theorem tw_300 : (Cond.selects "MailHeads$Texts" ({ cls := "MailHeads$Texts", name := "put", desc := "(I)V" } : MethodName) ({ cls := "MailHeads$Texts", name := "put", desc := "(I)V" } : MethodName)) ∈ tb_all := tb_in 392 (by decide +kernel) rfl
theorem tw_301 : (Cond.code ({ cls := "MailHeads$Texts", name := "put", desc := "(I)V" } : MethodName) prog_8_method_5_code (2 : Nat) (Option.none : Option Jvm.ClassFile.FieldType)) ∈ tb_all := tb_in 393 (by decide +kernel) rfl
theorem tw_302 : (Cond.methodLink "MailHeads$Head" (62 : Nat) ({ cls := "MailHeads$Head", name := "nameEnd", desc := "(LMailHeads$Row;II)I" } : MethodName)) ∈ tb_all := tb_in 394 (by decide +kernel) rfl
theorem tw_303 : (Cond.static ({ cls := "MailHeads$Head", name := "nameEnd", desc := "(LMailHeads$Row;II)I" } : MethodName)) ∈ tb_all := tb_in 395 (by decide +kernel) rfl
theorem tw_304 : (Cond.code ({ cls := "MailHeads$Head", name := "nameEnd", desc := "(LMailHeads$Row;II)I" } : MethodName) prog_5_method_10_code (5 : Nat) (Option.some FieldType.int)) ∈ tb_all := tb_in 396 (by decide +kernel) rfl
theorem tw_305 : (Cond.methodLink "MailHeads$Head" (66 : Nat) ({ cls := "MailHeads$Head", name := "behindBlanks", desc := "(LMailHeads$Row;II)I" } : MethodName)) ∈ tb_all := tb_in 397 (by decide +kernel) rfl
theorem tw_306 : (Cond.static ({ cls := "MailHeads$Head", name := "behindBlanks", desc := "(LMailHeads$Row;II)I" } : MethodName)) ∈ tb_all := tb_in 398 (by decide +kernel) rfl
theorem tw_307 : (Cond.code ({ cls := "MailHeads$Head", name := "behindBlanks", desc := "(LMailHeads$Row;II)I" } : MethodName) prog_5_method_11_code (4 : Nat) (Option.some FieldType.int)) ∈ tb_all := tb_in 399 (by decide +kernel) rfl
theorem tw_308 : (Cond.methodLink "MailHeads$Head" (51 : Nat) ({ cls := "MailHeads$Head", name := "closeValue", desc := "()V" } : MethodName)) ∈ tb_all := tb_in 400 (by decide +kernel) rfl
theorem tw_310 : (Cond.instanceMethod ({ cls := "MailHeads$Head", name := "closeValue", desc := "()V" } : MethodName)) ∈ tb_all := tb_in 402 (by decide +kernel) rfl
theorem tw_311 : (Cond.code ({ cls := "MailHeads$Head", name := "closeValue", desc := "()V" } : MethodName) prog_5_method_13_code (1 : Nat) (Option.none : Option Jvm.ClassFile.FieldType)) ∈ tb_all := tb_in 403 (by decide +kernel) rfl
theorem tw_312 : (Cond.methodLink "MailHeads$Head" (72 : Nat) ({ cls := "MailHeads$Texts", name := "close", desc := "()V" } : MethodName)) ∈ tb_all := tb_in 404 (by decide +kernel) rfl
theorem tw_313 : (Cond.instanceMethod ({ cls := "MailHeads$Texts", name := "close", desc := "()V" } : MethodName)) ∈ tb_all := tb_in 405 (by decide +kernel) rfl
theorem tw_314 : (Cond.selects "MailHeads$Texts" ({ cls := "MailHeads$Texts", name := "close", desc := "()V" } : MethodName) ({ cls := "MailHeads$Texts", name := "close", desc := "()V" } : MethodName)) ∈ tb_all := tb_in 406 (by decide +kernel) rfl
theorem tw_315 : (Cond.code ({ cls := "MailHeads$Texts", name := "close", desc := "()V" } : MethodName) prog_8_method_8_code (1 : Nat) (Option.none : Option Jvm.ClassFile.FieldType)) ∈ tb_all := tb_in 407 (by decide +kernel) rfl
theorem tw_316 : (Cond.methodLink "MailHeads$Texts" (25 : Nat) ({ cls := "MailHeads$Row", name := "size", desc := "()I" } : MethodName)) ∈ tb_all := tb_in 408 (by decide +kernel) rfl
theorem tw_317 : (Cond.methodLink "MailHeads$Head" (30 : Nat) ({ cls := "MailHeads$Head", name := "count", desc := "()I" } : MethodName)) ∈ tb_all := tb_in 409 (by decide +kernel) rfl
theorem tw_318 : (Cond.instanceMethod ({ cls := "MailHeads$Head", name := "count", desc := "()I" } : MethodName)) ∈ tb_all := tb_in 410 (by decide +kernel) rfl
theorem tw_319 : (Cond.selects "MailHeads$Head" ({ cls := "MailHeads$Head", name := "count", desc := "()I" } : MethodName) ({ cls := "MailHeads$Head", name := "count", desc := "()I" } : MethodName)) ∈ tb_all := tb_in 411 (by decide +kernel) rfl
theorem tw_320 : (Cond.code ({ cls := "MailHeads$Head", name := "count", desc := "()I" } : MethodName) prog_5_method_3_code (1 : Nat) (Option.some FieldType.int)) ∈ tb_all := tb_in 412 (by decide +kernel) rfl
theorem tw_321 : (Cond.methodLink "MailHeads$Head" (26 : Nat) ({ cls := "MailHeads$Texts", name := "count", desc := "()I" } : MethodName)) ∈ tb_all := tb_in 413 (by decide +kernel) rfl
theorem tw_322 : (Cond.instanceMethod ({ cls := "MailHeads$Texts", name := "count", desc := "()I" } : MethodName)) ∈ tb_all := tb_in 414 (by decide +kernel) rfl
theorem tw_323 : (Cond.selects "MailHeads$Texts" ({ cls := "MailHeads$Texts", name := "count", desc := "()I" } : MethodName) ({ cls := "MailHeads$Texts", name := "count", desc := "()I" } : MethodName)) ∈ tb_all := tb_in 415 (by decide +kernel) rfl
theorem tw_324 : (Cond.code ({ cls := "MailHeads$Texts", name := "count", desc := "()I" } : MethodName) prog_8_method_2_code (1 : Nat) (Option.some FieldType.int)) ∈ tb_all := tb_in 416 (by decide +kernel) rfl
theorem tw_325 : (Cond.methodLink "MailHeads" (89 : Nat) ({ cls := "MailHeads$Row", name := "cutTo", desc := "(I)V" } : MethodName)) ∈ tb_all := tb_in 417 (by decide +kernel) rfl
theorem tw_326 : (Cond.methodLink "MailHeads" (92 : Nat) ({ cls := "MailHeads$Head", name := "count", desc := "()I" } : MethodName)) ∈ tb_all := tb_in 418 (by decide +kernel) rfl
theorem tw_331 : (Cond.methodLink "MailHeads" (95 : Nat) ({ cls := "MailHeads$Head", name := "badLines", desc := "()I" } : MethodName)) ∈ tb_all := tb_in 423 (by decide +kernel) rfl
theorem tw_332 : (Cond.instanceMethod ({ cls := "MailHeads$Head", name := "badLines", desc := "()I" } : MethodName)) ∈ tb_all := tb_in 424 (by decide +kernel) rfl
theorem tw_333 : (Cond.selects "MailHeads$Head" ({ cls := "MailHeads$Head", name := "badLines", desc := "()I" } : MethodName) ({ cls := "MailHeads$Head", name := "badLines", desc := "()I" } : MethodName)) ∈ tb_all := tb_in 425 (by decide +kernel) rfl
theorem tw_334 : (Cond.code ({ cls := "MailHeads$Head", name := "badLines", desc := "()I" } : MethodName) prog_5_method_4_code (1 : Nat) (Option.some FieldType.int)) ∈ tb_all := tb_in 426 (by decide +kernel) rfl
theorem tw_339 : (Cond.methodLink "MailHeads" (98 : Nat) ({ cls := "MailHeads$Head", name := "firstNamed", desc := "(LMailHeads$Row;)I" } : MethodName)) ∈ tb_all := tb_in 431 (by decide +kernel) rfl
theorem tw_340 : (Cond.instanceMethod ({ cls := "MailHeads$Head", name := "firstNamed", desc := "(LMailHeads$Row;)I" } : MethodName)) ∈ tb_all := tb_in 432 (by decide +kernel) rfl
theorem tw_341 : (Cond.selects "MailHeads$Head" ({ cls := "MailHeads$Head", name := "firstNamed", desc := "(LMailHeads$Row;)I" } : MethodName) ({ cls := "MailHeads$Head", name := "firstNamed", desc := "(LMailHeads$Row;)I" } : MethodName)) ∈ tb_all := tb_in 433 (by decide +kernel) rfl
theorem tw_342 : (Cond.code ({ cls := "MailHeads$Head", name := "firstNamed", desc := "(LMailHeads$Row;)I" } : MethodName) prog_5_method_6_code (3 : Nat) (Option.some FieldType.int)) ∈ tb_all := tb_in 434 (by decide +kernel) rfl
theorem tw_343 : (Cond.methodLink "MailHeads$Head" (31 : Nat) ({ cls := "MailHeads$Texts", name := "isNamed", desc := "(ILMailHeads$Row;)Z" } : MethodName)) ∈ tb_all := tb_in 435 (by decide +kernel) rfl
theorem tw_344 : (Cond.instanceMethod ({ cls := "MailHeads$Texts", name := "isNamed", desc := "(ILMailHeads$Row;)Z" } : MethodName)) ∈ tb_all := tb_in 436 (by decide +kernel) rfl
theorem tw_345 : (Cond.selects "MailHeads$Texts" ({ cls := "MailHeads$Texts", name := "isNamed", desc := "(ILMailHeads$Row;)Z" } : MethodName) ({ cls := "MailHeads$Texts", name := "isNamed", desc := "(ILMailHeads$Row;)Z" } : MethodName)) ∈ tb_all := tb_in 437 (by decide +kernel) rfl
theorem tw_346 : (Cond.code ({ cls := "MailHeads$Texts", name := "isNamed", desc := "(ILMailHeads$Row;)Z" } : MethodName) prog_8_method_11_code (4 : Nat) (Option.some FieldType.boolean)) ∈ tb_all := tb_in 438 (by decide +kernel) rfl
theorem tw_347 : (Cond.methodLink "MailHeads$Texts" (33 : Nat) ({ cls := "MailHeads$Texts", name := "sizeOf", desc := "(I)I" } : MethodName)) ∈ tb_all := tb_in 439 (by decide +kernel) rfl
theorem tw_348 : (Cond.instanceMethod ({ cls := "MailHeads$Texts", name := "sizeOf", desc := "(I)I" } : MethodName)) ∈ tb_all := tb_in 440 (by decide +kernel) rfl
theorem tw_349 : (Cond.selects "MailHeads$Texts" ({ cls := "MailHeads$Texts", name := "sizeOf", desc := "(I)I" } : MethodName) ({ cls := "MailHeads$Texts", name := "sizeOf", desc := "(I)I" } : MethodName)) ∈ tb_all := tb_in 441 (by decide +kernel) rfl
theorem tw_350 : (Cond.code ({ cls := "MailHeads$Texts", name := "sizeOf", desc := "(I)I" } : MethodName) prog_8_method_3_code (2 : Nat) (Option.some FieldType.int)) ∈ tb_all := tb_in 442 (by decide +kernel) rfl
theorem tw_351 : (Cond.methodLink "MailHeads$Texts" (29 : Nat) ({ cls := "MailHeads$Row", name := "get", desc := "(I)I" } : MethodName)) ∈ tb_all := tb_in 443 (by decide +kernel) rfl
theorem tw_352 : (Cond.methodLink "MailHeads$Texts" (36 : Nat) ({ cls := "MailHeads$Texts", name := "byteOf", desc := "(II)I" } : MethodName)) ∈ tb_all := tb_in 444 (by decide +kernel) rfl
theorem tw_353 : (Cond.instanceMethod ({ cls := "MailHeads$Texts", name := "byteOf", desc := "(II)I" } : MethodName)) ∈ tb_all := tb_in 445 (by decide +kernel) rfl
theorem tw_354 : (Cond.selects "MailHeads$Texts" ({ cls := "MailHeads$Texts", name := "byteOf", desc := "(II)I" } : MethodName) ({ cls := "MailHeads$Texts", name := "byteOf", desc := "(II)I" } : MethodName)) ∈ tb_all := tb_in 446 (by decide +kernel) rfl
theorem tw_355 : (Cond.code ({ cls := "MailHeads$Texts", name := "byteOf", desc := "(II)I" } : MethodName) prog_8_method_4_code (3 : Nat) (Option.some FieldType.int)) ∈ tb_all := tb_in 447 (by decide +kernel) rfl
theorem tw_363 : (Cond.methodLink "MailHeads" (102 : Nat) ({ cls := "MailHeads$Head", name := "texts", desc := "()LMailHeads$Texts;" } : MethodName)) ∈ tb_all := tb_in 455 (by decide +kernel) rfl
theorem tw_364 : (Cond.instanceMethod ({ cls := "MailHeads$Head", name := "texts", desc := "()LMailHeads$Texts;" } : MethodName)) ∈ tb_all := tb_in 456 (by decide +kernel) rfl
theorem tw_365 : (Cond.selects "MailHeads$Head" ({ cls := "MailHeads$Head", name := "texts", desc := "()LMailHeads$Texts;" } : MethodName) ({ cls := "MailHeads$Head", name := "texts", desc := "()LMailHeads$Texts;" } : MethodName)) ∈ tb_all := tb_in 457 (by decide +kernel) rfl
theorem tw_366 : (Cond.code ({ cls := "MailHeads$Head", name := "texts", desc := "()LMailHeads$Texts;" } : MethodName) prog_5_method_2_code (1 : Nat) (Option.some (FieldType.object "MailHeads$Texts"))) ∈ tb_all := tb_in 458 (by decide +kernel) rfl
theorem tw_367 : (Cond.methodLink "MailHeads" (106 : Nat) ({ cls := "MailHeads$Head", name := "textOf", desc := "(II)I" } : MethodName)) ∈ tb_all := tb_in 459 (by decide +kernel) rfl
theorem tw_368 : (Cond.instanceMethod ({ cls := "MailHeads$Head", name := "textOf", desc := "(II)I" } : MethodName)) ∈ tb_all := tb_in 460 (by decide +kernel) rfl
theorem tw_369 : (Cond.selects "MailHeads$Head" ({ cls := "MailHeads$Head", name := "textOf", desc := "(II)I" } : MethodName) ({ cls := "MailHeads$Head", name := "textOf", desc := "(II)I" } : MethodName)) ∈ tb_all := tb_in 461 (by decide +kernel) rfl
theorem tw_370 : (Cond.code ({ cls := "MailHeads$Head", name := "textOf", desc := "(II)I" } : MethodName) prog_5_method_5_code (4 : Nat) (Option.some FieldType.int)) ∈ tb_all := tb_in 462 (by decide +kernel) rfl
theorem tw_371 : (Cond.methodLink "MailHeads" (110 : Nat) ({ cls := "MailHeads$Texts", name := "sizeOf", desc := "(I)I" } : MethodName)) ∈ tb_all := tb_in 463 (by decide +kernel) rfl
theorem tw_376 : (Cond.methodLink "MailHeads" (114 : Nat) ({ cls := "MailHeads$Texts", name := "byteOf", desc := "(II)I" } : MethodName)) ∈ tb_all := tb_in 468 (by decide +kernel) rfl
theorem tw_381 : (Cond.methodLink "MailHeads" (145 : Nat) ({ cls := "MailHeads$Addresses", name := "groupNames", desc := "()LMailHeads$Texts;" } : MethodName)) ∈ tb_all := tb_in 473 (by decide +kernel) rfl
theorem tw_382 : (Cond.instanceMethod ({ cls := "MailHeads$Addresses", name := "groupNames", desc := "()LMailHeads$Texts;" } : MethodName)) ∈ tb_all := tb_in 474 (by decide +kernel) rfl
theorem tw_383 : (Cond.selects "MailHeads$Addresses" ({ cls := "MailHeads$Addresses", name := "groupNames", desc := "()LMailHeads$Texts;" } : MethodName) ({ cls := "MailHeads$Addresses", name := "groupNames", desc := "()LMailHeads$Texts;" } : MethodName)) ∈ tb_all := tb_in 475 (by decide +kernel) rfl
theorem tw_384 : (Cond.code ({ cls := "MailHeads$Addresses", name := "groupNames", desc := "()LMailHeads$Texts;" } : MethodName) prog_2_method_3_code (1 : Nat) (Option.some (FieldType.object "MailHeads$Texts"))) ∈ tb_all := tb_in 476 (by decide +kernel) rfl
theorem tw_385 : (Cond.methodLink "MailHeads" (135 : Nat) ({ cls := "MailHeads$Texts", name := "count", desc := "()I" } : MethodName)) ∈ tb_all := tb_in 477 (by decide +kernel) rfl
theorem tw_386 : (Cond.methodLink "MailHeads" (148 : Nat) ({ cls := "MailHeads$Addresses", name := "badOnes", desc := "()I" } : MethodName)) ∈ tb_all := tb_in 478 (by decide +kernel) rfl
theorem tw_387 : (Cond.instanceMethod ({ cls := "MailHeads$Addresses", name := "badOnes", desc := "()I" } : MethodName)) ∈ tb_all := tb_in 479 (by decide +kernel) rfl
theorem tw_388 : (Cond.selects "MailHeads$Addresses" ({ cls := "MailHeads$Addresses", name := "badOnes", desc := "()I" } : MethodName) ({ cls := "MailHeads$Addresses", name := "badOnes", desc := "()I" } : MethodName)) ∈ tb_all := tb_in 480 (by decide +kernel) rfl
theorem tw_389 : (Cond.code ({ cls := "MailHeads$Addresses", name := "badOnes", desc := "()I" } : MethodName) prog_2_method_5_code (1 : Nat) (Option.some FieldType.int)) ∈ tb_all := tb_in 481 (by decide +kernel) rfl
theorem tw_390 : (Cond.methodLink "MailHeads" (151 : Nat) ({ cls := "MailHeads$Addresses", name := "groupOf", desc := "(I)I" } : MethodName)) ∈ tb_all := tb_in 482 (by decide +kernel) rfl
theorem tw_391 : (Cond.instanceMethod ({ cls := "MailHeads$Addresses", name := "groupOf", desc := "(I)I" } : MethodName)) ∈ tb_all := tb_in 483 (by decide +kernel) rfl
theorem tw_392 : (Cond.selects "MailHeads$Addresses" ({ cls := "MailHeads$Addresses", name := "groupOf", desc := "(I)I" } : MethodName) ({ cls := "MailHeads$Addresses", name := "groupOf", desc := "(I)I" } : MethodName)) ∈ tb_all := tb_in 484 (by decide +kernel) rfl
theorem tw_393 : (Cond.code ({ cls := "MailHeads$Addresses", name := "groupOf", desc := "(I)I" } : MethodName) prog_2_method_6_code (2 : Nat) (Option.some FieldType.int)) ∈ tb_all := tb_in 485 (by decide +kernel) rfl
theorem tw_394 : (Cond.methodLink "MailHeads$Addresses" (49 : Nat) ({ cls := "MailHeads$Row", name := "get", desc := "(I)I" } : MethodName)) ∈ tb_all := tb_in 486 (by decide +kernel) rfl
theorem tw_399 : (Cond.methodLink "MailHeads" (154 : Nat) ({ cls := "MailHeads", name := "textsFor", desc := "(I)LMailHeads$Texts;" } : MethodName)) ∈ tb_all := tb_in 491 (by decide +kernel) rfl
theorem tw_401 : (Cond.instanceMethod ({ cls := "MailHeads", name := "textsFor", desc := "(I)LMailHeads$Texts;" } : MethodName)) ∈ tb_all := tb_in 493 (by decide +kernel) rfl
theorem tw_402 : (Cond.code ({ cls := "MailHeads", name := "textsFor", desc := "(I)LMailHeads$Texts;" } : MethodName) prog_1_method_19_code (2 : Nat) (Option.some (FieldType.object "MailHeads$Texts"))) ∈ tb_all := tb_in 494 (by decide +kernel) rfl
theorem tw_403 : (Cond.methodLink "MailHeads" (175 : Nat) ({ cls := "MailHeads$Addresses", name := "texts", desc := "()LMailHeads$Texts;" } : MethodName)) ∈ tb_all := tb_in 495 (by decide +kernel) rfl
theorem tw_404 : (Cond.instanceMethod ({ cls := "MailHeads$Addresses", name := "texts", desc := "()LMailHeads$Texts;" } : MethodName)) ∈ tb_all := tb_in 496 (by decide +kernel) rfl
theorem tw_405 : (Cond.selects "MailHeads$Addresses" ({ cls := "MailHeads$Addresses", name := "texts", desc := "()LMailHeads$Texts;" } : MethodName) ({ cls := "MailHeads$Addresses", name := "texts", desc := "()LMailHeads$Texts;" } : MethodName)) ∈ tb_all := tb_in 497 (by decide +kernel) rfl
theorem tw_406 : (Cond.code ({ cls := "MailHeads$Addresses", name := "texts", desc := "()LMailHeads$Texts;" } : MethodName) prog_2_method_2_code (1 : Nat) (Option.some (FieldType.object "MailHeads$Texts"))) ∈ tb_all := tb_in 498 (by decide +kernel) rfl
theorem tw_407 : (Cond.methodLink "MailHeads" (134 : Nat) ({ cls := "MailHeads$Identities", name := "texts", desc := "()LMailHeads$Texts;" } : MethodName)) ∈ tb_all := tb_in 499 (by decide +kernel) rfl
theorem tw_408 : (Cond.instanceMethod ({ cls := "MailHeads$Identities", name := "texts", desc := "()LMailHeads$Texts;" } : MethodName)) ∈ tb_all := tb_in 500 (by decide +kernel) rfl
theorem tw_409 : (Cond.selects "MailHeads$Identities" ({ cls := "MailHeads$Identities", name := "texts", desc := "()LMailHeads$Texts;" } : MethodName) ({ cls := "MailHeads$Identities", name := "texts", desc := "()LMailHeads$Texts;" } : MethodName)) ∈ tb_all := tb_in 501 (by decide +kernel) rfl
theorem tw_410 : (Cond.code ({ cls := "MailHeads$Identities", name := "texts", desc := "()LMailHeads$Texts;" } : MethodName) prog_6_method_2_code (1 : Nat) (Option.some (FieldType.object "MailHeads$Texts"))) ∈ tb_all := tb_in 502 (by decide +kernel) rfl
theorem tw_411 : (Cond.methodLink "MailHeads" (176 : Nat) ({ cls := "MailHeads$ContentType", name := "parts", desc := "()LMailHeads$Texts;" } : MethodName)) ∈ tb_all := tb_in 503 (by decide +kernel) rfl
theorem tw_412 : (Cond.instanceMethod ({ cls := "MailHeads$ContentType", name := "parts", desc := "()LMailHeads$Texts;" } : MethodName)) ∈ tb_all := tb_in 504 (by decide +kernel) rfl
theorem tw_413 : (Cond.selects "MailHeads$ContentType" ({ cls := "MailHeads$ContentType", name := "parts", desc := "()LMailHeads$Texts;" } : MethodName) ({ cls := "MailHeads$ContentType", name := "parts", desc := "()LMailHeads$Texts;" } : MethodName)) ∈ tb_all := tb_in 505 (by decide +kernel) rfl
theorem tw_414 : (Cond.code ({ cls := "MailHeads$ContentType", name := "parts", desc := "()LMailHeads$Texts;" } : MethodName) prog_3_method_2_code (1 : Nat) (Option.some (FieldType.object "MailHeads$Texts"))) ∈ tb_all := tb_in 506 (by decide +kernel) rfl
theorem tw_415 : (Cond.methodLink "MailHeads" (158 : Nat) ({ cls := "MailHeads", name := "textFor", desc := "(II)I" } : MethodName)) ∈ tb_all := tb_in 507 (by decide +kernel) rfl
theorem tw_417 : (Cond.instanceMethod ({ cls := "MailHeads", name := "textFor", desc := "(II)I" } : MethodName)) ∈ tb_all := tb_in 509 (by decide +kernel) rfl
theorem tw_418 : (Cond.code ({ cls := "MailHeads", name := "textFor", desc := "(II)I" } : MethodName) prog_1_method_20_code (3 : Nat) (Option.some FieldType.int)) ∈ tb_all := tb_in 510 (by decide +kernel) rfl
theorem tw_419 : (Cond.methodLink "MailHeads" (179 : Nat) ({ cls := "MailHeads$Addresses", name := "textOf", desc := "(II)I" } : MethodName)) ∈ tb_all := tb_in 511 (by decide +kernel) rfl
theorem tw_420 : (Cond.instanceMethod ({ cls := "MailHeads$Addresses", name := "textOf", desc := "(II)I" } : MethodName)) ∈ tb_all := tb_in 512 (by decide +kernel) rfl
theorem tw_421 : (Cond.selects "MailHeads$Addresses" ({ cls := "MailHeads$Addresses", name := "textOf", desc := "(II)I" } : MethodName) ({ cls := "MailHeads$Addresses", name := "textOf", desc := "(II)I" } : MethodName)) ∈ tb_all := tb_in 513 (by decide +kernel) rfl
theorem tw_422 : (Cond.code ({ cls := "MailHeads$Addresses", name := "textOf", desc := "(II)I" } : MethodName) prog_2_method_7_code (3 : Nat) (Option.some FieldType.int)) ∈ tb_all := tb_in 514 (by decide +kernel) rfl
theorem tw_423 : (Cond.methodLink "MailHeads$Addresses" (53 : Nat) ({ cls := "MailHeads$Addresses", name := "count", desc := "()I" } : MethodName)) ∈ tb_all := tb_in 515 (by decide +kernel) rfl
theorem tw_424 : (Cond.instanceMethod ({ cls := "MailHeads$Addresses", name := "count", desc := "()I" } : MethodName)) ∈ tb_all := tb_in 516 (by decide +kernel) rfl
theorem tw_425 : (Cond.selects "MailHeads$Addresses" ({ cls := "MailHeads$Addresses", name := "count", desc := "()I" } : MethodName) ({ cls := "MailHeads$Addresses", name := "count", desc := "()I" } : MethodName)) ∈ tb_all := tb_in 517 (by decide +kernel) rfl
theorem tw_426 : (Cond.code ({ cls := "MailHeads$Addresses", name := "count", desc := "()I" } : MethodName) prog_2_method_4_code (1 : Nat) (Option.some FieldType.int)) ∈ tb_all := tb_in 518 (by decide +kernel) rfl
theorem tw_427 : (Cond.methodLink "MailHeads$Addresses" (45 : Nat) ({ cls := "MailHeads$Row", name := "size", desc := "()I" } : MethodName)) ∈ tb_all := tb_in 519 (by decide +kernel) rfl
theorem tw_436 : (Cond.methodLink "MailHeads" (161 : Nat) ({ cls := "MailHeads$ContentType", name := "takeInHand", desc := "(LMailHeads$Row;)I" } : MethodName)) ∈ tb_all := tb_in 528 (by decide +kernel) rfl
theorem tw_437 : (Cond.instanceMethod ({ cls := "MailHeads$ContentType", name := "takeInHand", desc := "(LMailHeads$Row;)I" } : MethodName)) ∈ tb_all := tb_in 529 (by decide +kernel) rfl
theorem tw_438 : (Cond.selects "MailHeads$ContentType" ({ cls := "MailHeads$ContentType", name := "takeInHand", desc := "(LMailHeads$Row;)I" } : MethodName) ({ cls := "MailHeads$ContentType", name := "takeInHand", desc := "(LMailHeads$Row;)I" } : MethodName)) ∈ tb_all := tb_in 530 (by decide +kernel) rfl
theorem tw_439 : (Cond.code ({ cls := "MailHeads$ContentType", name := "takeInHand", desc := "(LMailHeads$Row;)I" } : MethodName) prog_3_method_6_code (6 : Nat) (Option.some FieldType.int)) ∈ tb_all := tb_in 531 (by decide +kernel) rfl
theorem tw_440 : (Cond.methodLink "MailHeads$ContentType" (41 : Nat) ({ cls := "MailHeads$Texts", name := "clear", desc := "()V" } : MethodName)) ∈ tb_all := tb_in 532 (by decide +kernel) rfl
theorem tw_441 : (Cond.methodLink "MailHeads$ContentType" (96 : Nat) ({ cls := "MailHeads$ContentType", name := "firstOf", desc := "(LMailHeads$Row;I)I" } : MethodName)) ∈ tb_all := tb_in 533 (by decide +kernel) rfl
theorem tw_443 : (Cond.instanceMethod ({ cls := "MailHeads$ContentType", name := "firstOf", desc := "(LMailHeads$Row;I)I" } : MethodName)) ∈ tb_all := tb_in 535 (by decide +kernel) rfl
theorem tw_444 : (Cond.code ({ cls := "MailHeads$ContentType", name := "firstOf", desc := "(LMailHeads$Row;I)I" } : MethodName) prog_3_method_8_code (4 : Nat) (Option.some FieldType.int)) ∈ tb_all := tb_in 536 (by decide +kernel) rfl
theorem tw_445 : (Cond.methodLink "MailHeads$ContentType" (107 : Nat) ({ cls := "MailHeads$Texts", name := "count", desc := "()I" } : MethodName)) ∈ tb_all := tb_in 537 (by decide +kernel) rfl
theorem tw_446 : (Cond.methodLink "MailHeads$ContentType" (54 : Nat) ({ cls := "MailHeads$Row", name := "get", desc := "(I)I" } : MethodName)) ∈ tb_all := tb_in 538 (by decide +kernel) rfl
theorem tw_447 : (Cond.methodLink "MailHeads$ContentType" (110 : Nat) ({ cls := "MailHeads$Texts", name := "isNamed", desc := "(ILMailHeads$Row;)Z" } : MethodName)) ∈ tb_all := tb_in 539 (by decide +kernel) rfl
theorem tw_448 : (Cond.methodLink "MailHeads$ContentType" (100 : Nat) ({ cls := "MailHeads$ContentType", name := "putCharset", desc := "(I)I" } : MethodName)) ∈ tb_all := tb_in 540 (by decide +kernel) rfl
theorem tw_450 : (Cond.instanceMethod ({ cls := "MailHeads$ContentType", name := "putCharset", desc := "(I)I" } : MethodName)) ∈ tb_all := tb_in 542 (by decide +kernel) rfl
theorem tw_451 : (Cond.code ({ cls := "MailHeads$ContentType", name := "putCharset", desc := "(I)I" } : MethodName) prog_3_method_9_code (4 : Nat) (Option.some FieldType.int)) ∈ tb_all := tb_in 543 (by decide +kernel) rfl
theorem tw_452 : (Cond.methodLink "MailHeads$ContentType" (114 : Nat) ({ cls := "MailHeads$ContentType", name := "quoteFrom", desc := "(II)I" } : MethodName)) ∈ tb_all := tb_in 544 (by decide +kernel) rfl
theorem tw_454 : (Cond.instanceMethod ({ cls := "MailHeads$ContentType", name := "quoteFrom", desc := "(II)I" } : MethodName)) ∈ tb_all := tb_in 546 (by decide +kernel) rfl
theorem tw_455 : (Cond.code ({ cls := "MailHeads$ContentType", name := "quoteFrom", desc := "(II)I" } : MethodName) prog_3_method_10_code (5 : Nat) (Option.some FieldType.int)) ∈ tb_all := tb_in 547 (by decide +kernel) rfl
theorem tw_456 : (Cond.methodLink "MailHeads$ContentType" (72 : Nat) ({ cls := "MailHeads$Texts", name := "sizeOf", desc := "(I)I" } : MethodName)) ∈ tb_all := tb_in 548 (by decide +kernel) rfl
theorem tw_457 : (Cond.methodLink "MailHeads$ContentType" (82 : Nat) ({ cls := "MailHeads$Texts", name := "byteOf", desc := "(II)I" } : MethodName)) ∈ tb_all := tb_in 549 (by decide +kernel) rfl
theorem tw_458 : (Cond.methodLink "MailHeads$ContentType" (75 : Nat) ({ cls := "MailHeads$Texts", name := "putSmall", desc := "(LMailHeads$Texts;II)V" } : MethodName)) ∈ tb_all := tb_in 550 (by decide +kernel) rfl
theorem tw_459 : (Cond.instanceMethod ({ cls := "MailHeads$Texts", name := "putSmall", desc := "(LMailHeads$Texts;II)V" } : MethodName)) ∈ tb_all := tb_in 551 (by decide +kernel) rfl
theorem tw_460 : (Cond.selects "MailHeads$Texts" ({ cls := "MailHeads$Texts", name := "putSmall", desc := "(LMailHeads$Texts;II)V" } : MethodName) ({ cls := "MailHeads$Texts", name := "putSmall", desc := "(LMailHeads$Texts;II)V" } : MethodName)) ∈ tb_all := tb_in 552 (by decide +kernel) rfl
theorem tw_461 : (Cond.code ({ cls := "MailHeads$Texts", name := "putSmall", desc := "(LMailHeads$Texts;II)V" } : MethodName) prog_8_method_7_code (5 : Nat) (Option.none : Option Jvm.ClassFile.FieldType)) ∈ tb_all := tb_in 553 (by decide +kernel) rfl
theorem tw_462 : (Cond.methodLink "MailHeads$ContentType" (79 : Nat) ({ cls := "MailHeads$Texts", name := "close", desc := "()V" } : MethodName)) ∈ tb_all := tb_in 554 (by decide +kernel) rfl
theorem tw_463 : (Cond.methodLink "MailHeads$ContentType" (103 : Nat) ({ cls := "MailHeads$ContentType", name := "putBytes", desc := "(II)V" } : MethodName)) ∈ tb_all := tb_in 555 (by decide +kernel) rfl
theorem tw_465 : (Cond.instanceMethod ({ cls := "MailHeads$ContentType", name := "putBytes", desc := "(II)V" } : MethodName)) ∈ tb_all := tb_in 557 (by decide +kernel) rfl
theorem tw_466 : (Cond.code ({ cls := "MailHeads$ContentType", name := "putBytes", desc := "(II)V" } : MethodName) prog_3_method_11_code (8 : Nat) (Option.none : Option Jvm.ClassFile.FieldType)) ∈ tb_all := tb_in 558 (by decide +kernel) rfl
theorem tw_467 : (Cond.methodLink "MailHeads$ContentType" (117 : Nat) ({ cls := "MailHeads$ContentType", name := "hexadecimal", desc := "(II)I" } : MethodName)) ∈ tb_all := tb_in 559 (by decide +kernel) rfl
theorem tw_469 : (Cond.instanceMethod ({ cls := "MailHeads$ContentType", name := "hexadecimal", desc := "(II)I" } : MethodName)) ∈ tb_all := tb_in 561 (by decide +kernel) rfl
theorem tw_470 : (Cond.code ({ cls := "MailHeads$ContentType", name := "hexadecimal", desc := "(II)I" } : MethodName) prog_3_method_12_code (5 : Nat) (Option.some FieldType.int)) ∈ tb_all := tb_in 562 (by decide +kernel) rfl
theorem tw_471 : (Cond.methodLink "MailHeads$ContentType" (123 : Nat) ({ cls := "MailHeads$ContentType", name := "hexDigit", desc := "(I)I" } : MethodName)) ∈ tb_all := tb_in 563 (by decide +kernel) rfl
theorem tw_472 : (Cond.static ({ cls := "MailHeads$ContentType", name := "hexDigit", desc := "(I)I" } : MethodName)) ∈ tb_all := tb_in 564 (by decide +kernel) rfl
theorem tw_473 : (Cond.code ({ cls := "MailHeads$ContentType", name := "hexDigit", desc := "(I)I" } : MethodName) prog_3_method_13_code (2 : Nat) (Option.some FieldType.int)) ∈ tb_all := tb_in 565 (by decide +kernel) rfl
theorem tw_478 : (Cond.methodLink "MailHeads$ContentType" (120 : Nat) ({ cls := "MailHeads$Texts", name := "put", desc := "(I)V" } : MethodName)) ∈ tb_all := tb_in 570 (by decide +kernel) rfl
theorem tw_483 : (Cond.methodLink "MailHeads" (164 : Nat) ({ cls := "MailHeads$ContentType", name := "byteInHand", desc := "(ZI)I" } : MethodName)) ∈ tb_all := tb_in 575 (by decide +kernel) rfl
theorem tw_484 : (Cond.instanceMethod ({ cls := "MailHeads$ContentType", name := "byteInHand", desc := "(ZI)I" } : MethodName)) ∈ tb_all := tb_in 576 (by decide +kernel) rfl
theorem tw_485 : (Cond.selects "MailHeads$ContentType" ({ cls := "MailHeads$ContentType", name := "byteInHand", desc := "(ZI)I" } : MethodName) ({ cls := "MailHeads$ContentType", name := "byteInHand", desc := "(ZI)I" } : MethodName)) ∈ tb_all := tb_in 577 (by decide +kernel) rfl
theorem tw_486 : (Cond.code ({ cls := "MailHeads$ContentType", name := "byteInHand", desc := "(ZI)I" } : MethodName) prog_3_method_7_code (3 : Nat) (Option.some FieldType.int)) ∈ tb_all := tb_in 578 (by decide +kernel) rfl
theorem tw_495 : (Cond.methodLink "MailHeads" (117 : Nat) ({ cls := "MailHeads", name := "valueOf", desc := "(I)I" } : MethodName)) ∈ tb_all := tb_in 587 (by decide +kernel) rfl
theorem tw_497 : (Cond.instanceMethod ({ cls := "MailHeads", name := "valueOf", desc := "(I)I" } : MethodName)) ∈ tb_all := tb_in 589 (by decide +kernel) rfl
theorem tw_498 : (Cond.code ({ cls := "MailHeads", name := "valueOf", desc := "(I)I" } : MethodName) prog_1_method_18_code (3 : Nat) (Option.some FieldType.int)) ∈ tb_all := tb_in 590 (by decide +kernel) rfl
theorem tw_524 : (Cond.methodLink "java/lang/Throwable" (1 : Nat) ({ cls := "java/lang/Object", name := "<init>", desc := "()V" } : MethodName)) ∈ tb_all := tb_in 616 (by decide +kernel) rfl
theorem tw_539 : (Cond.methodLink "MailHeads" (172 : Nat) ({ cls := "java/lang/IndexOutOfBoundsException", name := "<init>", desc := "(Ljava/lang/String;)V" } : MethodName)) ∈ tb_all := tb_in 631 (by decide +kernel) rfl
theorem tw_540 : (Cond.instanceMethod ({ cls := "java/lang/IndexOutOfBoundsException", name := "<init>", desc := "(Ljava/lang/String;)V" } : MethodName)) ∈ tb_all := tb_in 632 (by decide +kernel) rfl
theorem tw_541 : (Cond.code ({ cls := "java/lang/IndexOutOfBoundsException", name := "<init>", desc := "(Ljava/lang/String;)V" } : MethodName) prog_15_method_2_code (2 : Nat) (Option.none : Option Jvm.ClassFile.FieldType)) ∈ tb_all := tb_in 633 (by decide +kernel) rfl
theorem tw_542 : (Cond.methodLink "java/lang/IndexOutOfBoundsException" (7 : Nat) ({ cls := "java/lang/RuntimeException", name := "<init>", desc := "(Ljava/lang/String;)V" } : MethodName)) ∈ tb_all := tb_in 634 (by decide +kernel) rfl
theorem tw_543 : (Cond.instanceMethod ({ cls := "java/lang/RuntimeException", name := "<init>", desc := "(Ljava/lang/String;)V" } : MethodName)) ∈ tb_all := tb_in 635 (by decide +kernel) rfl
theorem tw_544 : (Cond.code ({ cls := "java/lang/RuntimeException", name := "<init>", desc := "(Ljava/lang/String;)V" } : MethodName) prog_17_method_2_code (2 : Nat) (Option.none : Option Jvm.ClassFile.FieldType)) ∈ tb_all := tb_in 636 (by decide +kernel) rfl
theorem tw_545 : (Cond.methodLink "java/lang/RuntimeException" (7 : Nat) ({ cls := "java/lang/Exception", name := "<init>", desc := "(Ljava/lang/String;)V" } : MethodName)) ∈ tb_all := tb_in 637 (by decide +kernel) rfl
theorem tw_546 : (Cond.instanceMethod ({ cls := "java/lang/Exception", name := "<init>", desc := "(Ljava/lang/String;)V" } : MethodName)) ∈ tb_all := tb_in 638 (by decide +kernel) rfl
theorem tw_547 : (Cond.code ({ cls := "java/lang/Exception", name := "<init>", desc := "(Ljava/lang/String;)V" } : MethodName) prog_14_method_2_code (2 : Nat) (Option.none : Option Jvm.ClassFile.FieldType)) ∈ tb_all := tb_in 639 (by decide +kernel) rfl
theorem tw_548 : (Cond.methodLink "java/lang/Exception" (7 : Nat) ({ cls := "java/lang/Throwable", name := "<init>", desc := "(Ljava/lang/String;)V" } : MethodName)) ∈ tb_all := tb_in 640 (by decide +kernel) rfl
theorem tw_549 : (Cond.instanceMethod ({ cls := "java/lang/Throwable", name := "<init>", desc := "(Ljava/lang/String;)V" } : MethodName)) ∈ tb_all := tb_in 641 (by decide +kernel) rfl
theorem tw_550 : (Cond.code ({ cls := "java/lang/Throwable", name := "<init>", desc := "(Ljava/lang/String;)V" } : MethodName) prog_22_method_2_code (2 : Nat) (Option.none : Option Jvm.ClassFile.FieldType)) ∈ tb_all := tb_in 642 (by decide +kernel) rfl
theorem tw_565 : (Cond.methodLink "MailHeads" (122 : Nat) ({ cls := "MailHeads$Words", name := "cut", desc := "(LMailHeads$Texts;ILjava/lang/String;Z)V" } : MethodName)) ∈ tb_all := tb_in 657 (by decide +kernel) rfl
theorem tw_566 : (Cond.instanceMethod ({ cls := "MailHeads$Words", name := "cut", desc := "(LMailHeads$Texts;ILjava/lang/String;Z)V" } : MethodName)) ∈ tb_all := tb_in 658 (by decide +kernel) rfl
theorem tw_567 : (Cond.selects "MailHeads$Words" ({ cls := "MailHeads$Words", name := "cut", desc := "(LMailHeads$Texts;ILjava/lang/String;Z)V" } : MethodName) ({ cls := "MailHeads$Words", name := "cut", desc := "(LMailHeads$Texts;ILjava/lang/String;Z)V" } : MethodName)) ∈ tb_all := tb_in 659 (by decide +kernel) rfl
theorem tw_568 : (Cond.code ({ cls := "MailHeads$Words", name := "cut", desc := "(LMailHeads$Texts;ILjava/lang/String;Z)V" } : MethodName) prog_9_method_4_code (7 : Nat) (Option.none : Option Jvm.ClassFile.FieldType)) ∈ tb_all := tb_in 660 (by decide +kernel) rfl
theorem tw_569 : (Cond.methodLink "MailHeads$Words" (38 : Nat) ({ cls := "MailHeads$Texts", name := "clear", desc := "()V" } : MethodName)) ∈ tb_all := tb_in 661 (by decide +kernel) rfl
theorem tw_570 : (Cond.methodLink "MailHeads$Words" (41 : Nat) ({ cls := "MailHeads$Row", name := "cutTo", desc := "(I)V" } : MethodName)) ∈ tb_all := tb_in 662 (by decide +kernel) rfl
theorem tw_571 : (Cond.methodLink "MailHeads$Words" (45 : Nat) ({ cls := "MailHeads$Texts", name := "sizeOf", desc := "(I)I" } : MethodName)) ∈ tb_all := tb_in 663 (by decide +kernel) rfl
theorem tw_572 : (Cond.methodLink "MailHeads$Words" (49 : Nat) ({ cls := "MailHeads$Words", name := "cutWord", desc := "(IIZ)I" } : MethodName)) ∈ tb_all := tb_in 664 (by decide +kernel) rfl
theorem tw_574 : (Cond.instanceMethod ({ cls := "MailHeads$Words", name := "cutWord", desc := "(IIZ)I" } : MethodName)) ∈ tb_all := tb_in 666 (by decide +kernel) rfl
theorem tw_575 : (Cond.code ({ cls := "MailHeads$Words", name := "cutWord", desc := "(IIZ)I" } : MethodName) prog_9_method_5_code (5 : Nat) (Option.some FieldType.int)) ∈ tb_all := tb_in 667 (by decide +kernel) rfl
theorem tw_576 : (Cond.methodLink "MailHeads$Words" (59 : Nat) ({ cls := "MailHeads$Texts", name := "byteOf", desc := "(II)I" } : MethodName)) ∈ tb_all := tb_in 668 (by decide +kernel) rfl
theorem tw_577 : (Cond.methodLink "MailHeads$Words" (62 : Nat) ({ cls := "MailHeads$Words", name := "isNothing", desc := "(I)Z" } : MethodName)) ∈ tb_all := tb_in 669 (by decide +kernel) rfl
theorem tw_578 : (Cond.static ({ cls := "MailHeads$Words", name := "isNothing", desc := "(I)Z" } : MethodName)) ∈ tb_all := tb_in 670 (by decide +kernel) rfl
theorem tw_579 : (Cond.code ({ cls := "MailHeads$Words", name := "isNothing", desc := "(I)Z" } : MethodName) prog_9_method_12_code (1 : Nat) (Option.some FieldType.boolean)) ∈ tb_all := tb_in 671 (by decide +kernel) rfl
theorem tw_580 : (Cond.methodLink "MailHeads$Words" (66 : Nat) ({ cls := "MailHeads$Words", name := "cutComment", desc := "(IIZ)I" } : MethodName)) ∈ tb_all := tb_in 672 (by decide +kernel) rfl
theorem tw_582 : (Cond.instanceMethod ({ cls := "MailHeads$Words", name := "cutComment", desc := "(IIZ)I" } : MethodName)) ∈ tb_all := tb_in 674 (by decide +kernel) rfl
theorem tw_583 : (Cond.code ({ cls := "MailHeads$Words", name := "cutComment", desc := "(IIZ)I" } : MethodName) prog_9_method_6_code (7 : Nat) (Option.some FieldType.int)) ∈ tb_all := tb_in 675 (by decide +kernel) rfl
theorem tw_584 : (Cond.methodLink "MailHeads$Words" (85 : Nat) ({ cls := "MailHeads$Words", name := "putWithin", desc := "(II)V" } : MethodName)) ∈ tb_all := tb_in 676 (by decide +kernel) rfl
theorem tw_586 : (Cond.instanceMethod ({ cls := "MailHeads$Words", name := "putWithin", desc := "(II)V" } : MethodName)) ∈ tb_all := tb_in 678 (by decide +kernel) rfl
theorem tw_587 : (Cond.code ({ cls := "MailHeads$Words", name := "putWithin", desc := "(II)V" } : MethodName) prog_9_method_9_code (3 : Nat) (Option.none : Option Jvm.ClassFile.FieldType)) ∈ tb_all := tb_in 679 (by decide +kernel) rfl
theorem tw_588 : (Cond.methodLink "MailHeads$Words" (76 : Nat) ({ cls := "MailHeads$Texts", name := "put", desc := "(I)V" } : MethodName)) ∈ tb_all := tb_in 680 (by decide +kernel) rfl
theorem tw_589 : (Cond.methodLink "MailHeads$Words" (79 : Nat) ({ cls := "MailHeads$Words", name := "close", desc := "(I)V" } : MethodName)) ∈ tb_all := tb_in 681 (by decide +kernel) rfl
theorem tw_591 : (Cond.instanceMethod ({ cls := "MailHeads$Words", name := "close", desc := "(I)V" } : MethodName)) ∈ tb_all := tb_in 683 (by decide +kernel) rfl
theorem tw_592 : (Cond.code ({ cls := "MailHeads$Words", name := "close", desc := "(I)V" } : MethodName) prog_9_method_10_code (2 : Nat) (Option.none : Option Jvm.ClassFile.FieldType)) ∈ tb_all := tb_in 684 (by decide +kernel) rfl
theorem tw_593 : (Cond.methodLink "MailHeads$Words" (92 : Nat) ({ cls := "MailHeads$Texts", name := "close", desc := "()V" } : MethodName)) ∈ tb_all := tb_in 685 (by decide +kernel) rfl
theorem tw_594 : (Cond.methodLink "MailHeads$Words" (94 : Nat) ({ cls := "MailHeads$Row", name := "add", desc := "(I)V" } : MethodName)) ∈ tb_all := tb_in 686 (by decide +kernel) rfl
theorem tw_595 : (Cond.methodLink "MailHeads$Words" (89 : Nat) ({ cls := "MailHeads$Texts", name := "dropOpen", desc := "()V" } : MethodName)) ∈ tb_all := tb_in 687 (by decide +kernel) rfl
theorem tw_596 : (Cond.instanceMethod ({ cls := "MailHeads$Texts", name := "dropOpen", desc := "()V" } : MethodName)) ∈ tb_all := tb_in 688 (by decide +kernel) rfl
theorem tw_597 : (Cond.selects "MailHeads$Texts" ({ cls := "MailHeads$Texts", name := "dropOpen", desc := "()V" } : MethodName) ({ cls := "MailHeads$Texts", name := "dropOpen", desc := "()V" } : MethodName)) ∈ tb_all := tb_in 689 (by decide +kernel) rfl
theorem tw_598 : (Cond.code ({ cls := "MailHeads$Texts", name := "dropOpen", desc := "()V" } : MethodName) prog_8_method_9_code (1 : Nat) (Option.none : Option Jvm.ClassFile.FieldType)) ∈ tb_all := tb_in 690 (by decide +kernel) rfl
theorem tw_599 : (Cond.methodLink "MailHeads$Words" (69 : Nat) ({ cls := "MailHeads$Words", name := "cutEnclosed", desc := "(IIII)I" } : MethodName)) ∈ tb_all := tb_in 691 (by decide +kernel) rfl
theorem tw_601 : (Cond.instanceMethod ({ cls := "MailHeads$Words", name := "cutEnclosed", desc := "(IIII)I" } : MethodName)) ∈ tb_all := tb_in 693 (by decide +kernel) rfl
theorem tw_602 : (Cond.code ({ cls := "MailHeads$Words", name := "cutEnclosed", desc := "(IIII)I" } : MethodName) prog_9_method_7_code (7 : Nat) (Option.some FieldType.int)) ∈ tb_all := tb_in 694 (by decide +kernel) rfl
theorem tw_603 : (Cond.methodLink "MailHeads$Words" (73 : Nat) ({ cls := "MailHeads$Words", name := "isSign", desc := "(I)Z" } : MethodName)) ∈ tb_all := tb_in 695 (by decide +kernel) rfl
theorem tw_605 : (Cond.instanceMethod ({ cls := "MailHeads$Words", name := "isSign", desc := "(I)Z" } : MethodName)) ∈ tb_all := tb_in 697 (by decide +kernel) rfl
theorem tw_606 : (Cond.code ({ cls := "MailHeads$Words", name := "isSign", desc := "(I)Z" } : MethodName) prog_9_method_11_code (2 : Nat) (Option.some FieldType.boolean)) ∈ tb_all := tb_in 698 (by decide +kernel) rfl
theorem tw_607 : (Cond.methodLink "MailHeads$Words" (97 : Nat) ({ cls := "java/lang/String", name := "indexOf", desc := "(I)I" } : MethodName)) ∈ tb_all := tb_in 699 (by decide +kernel) rfl
theorem tw_608 : (Cond.instanceMethod ({ cls := "java/lang/String", name := "indexOf", desc := "(I)I" } : MethodName)) ∈ tb_all := tb_in 700 (by decide +kernel) rfl
theorem tw_609 : (Cond.selects "java/lang/String" ({ cls := "java/lang/String", name := "indexOf", desc := "(I)I" } : MethodName) ({ cls := "java/lang/String", name := "indexOf", desc := "(I)I" } : MethodName)) ∈ tb_all := tb_in 701 (by decide +kernel) rfl
theorem tw_610 : (Cond.code ({ cls := "java/lang/String", name := "indexOf", desc := "(I)I" } : MethodName) prog_18_method_79_code (2 : Nat) (Option.some FieldType.int)) ∈ tb_all := tb_in 702 (by decide +kernel) rfl
theorem tw_611 : (Cond.methodLink "java/lang/String" (633 : Nat) ({ cls := "java/lang/String", name := "indexOf", desc := "(II)I" } : MethodName)) ∈ tb_all := tb_in 703 (by decide +kernel) rfl
theorem tw_612 : (Cond.instanceMethod ({ cls := "java/lang/String", name := "indexOf", desc := "(II)I" } : MethodName)) ∈ tb_all := tb_in 704 (by decide +kernel) rfl
theorem tw_613 : (Cond.selects "java/lang/String" ({ cls := "java/lang/String", name := "indexOf", desc := "(II)I" } : MethodName) ({ cls := "java/lang/String", name := "indexOf", desc := "(II)I" } : MethodName)) ∈ tb_all := tb_in 705 (by decide +kernel) rfl
theorem tw_614 : (Cond.code ({ cls := "java/lang/String", name := "indexOf", desc := "(II)I" } : MethodName) prog_18_method_80_code (3 : Nat) (Option.some FieldType.int)) ∈ tb_all := tb_in 706 (by decide +kernel) rfl
theorem tw_615 : (Cond.methodLink "java/lang/String" (492 : Nat) ({ cls := "java/lang/String", name := "isLatin1", desc := "()Z" } : MethodName)) ∈ tb_all := tb_in 707 (by decide +kernel) rfl
theorem tw_616 : (Cond.instanceMethod ({ cls := "java/lang/String", name := "isLatin1", desc := "()Z" } : MethodName)) ∈ tb_all := tb_in 708 (by decide +kernel) rfl
theorem tw_617 : (Cond.selects "java/lang/String" ({ cls := "java/lang/String", name := "isLatin1", desc := "()Z" } : MethodName) ({ cls := "java/lang/String", name := "isLatin1", desc := "()Z" } : MethodName)) ∈ tb_all := tb_in 709 (by decide +kernel) rfl
theorem tw_618 : (Cond.code ({ cls := "java/lang/String", name := "isLatin1", desc := "()Z" } : MethodName) prog_18_method_154_code (1 : Nat) (Option.some FieldType.boolean)) ∈ tb_all := tb_in 710 (by decide +kernel) rfl
theorem tw_621 : (Cond.methodLink "java/lang/String" (505 : Nat) ({ cls := "java/lang/String", name := "length", desc := "()I" } : MethodName)) ∈ tb_all := tb_in 713 (by decide +kernel) rfl
theorem tw_622 : (Cond.instanceMethod ({ cls := "java/lang/String", name := "length", desc := "()I" } : MethodName)) ∈ tb_all := tb_in 714 (by decide +kernel) rfl
theorem tw_623 : (Cond.selects "java/lang/String" ({ cls := "java/lang/String", name := "length", desc := "()I" } : MethodName) ({ cls := "java/lang/String", name := "length", desc := "()I" } : MethodName)) ∈ tb_all := tb_in 715 (by decide +kernel) rfl
theorem tw_624 : (Cond.code ({ cls := "java/lang/String", name := "length", desc := "()I" } : MethodName) prog_18_method_54_code (1 : Nat) (Option.some FieldType.int)) ∈ tb_all := tb_in 716 (by decide +kernel) rfl
theorem tw_625 : (Cond.methodLink "java/lang/String" (335 : Nat) ({ cls := "java/lang/String", name := "coder", desc := "()B" } : MethodName)) ∈ tb_all := tb_in 717 (by decide +kernel) rfl
theorem tw_626 : (Cond.instanceMethod ({ cls := "java/lang/String", name := "coder", desc := "()B" } : MethodName)) ∈ tb_all := tb_in 718 (by decide +kernel) rfl
theorem tw_627 : (Cond.selects "java/lang/String" ({ cls := "java/lang/String", name := "coder", desc := "()B" } : MethodName) ({ cls := "java/lang/String", name := "coder", desc := "()B" } : MethodName)) ∈ tb_all := tb_in 719 (by decide +kernel) rfl
theorem tw_628 : (Cond.code ({ cls := "java/lang/String", name := "coder", desc := "()B" } : MethodName) prog_18_method_152_code (1 : Nat) (Option.some FieldType.byte)) ∈ tb_all := tb_in 720 (by decide +kernel) rfl
theorem tw_629 : (Cond.methodLink "java/lang/String" (637 : Nat) ({ cls := "java/lang/StringLatin1", name := "indexOf", desc := "([BIII)I" } : MethodName)) ∈ tb_all := tb_in 721 (by decide +kernel) rfl
theorem tw_630 : (Cond.static ({ cls := "java/lang/StringLatin1", name := "indexOf", desc := "([BIII)I" } : MethodName)) ∈ tb_all := tb_in 722 (by decide +kernel) rfl
theorem tw_631 : (Cond.code ({ cls := "java/lang/StringLatin1", name := "indexOf", desc := "([BIII)I" } : MethodName) prog_19_method_22_code (4 : Nat) (Option.some FieldType.int)) ∈ tb_all := tb_in 723 (by decide +kernel) rfl
theorem tw_632 : (Cond.methodLink "java/lang/StringLatin1" (88 : Nat) ({ cls := "java/lang/StringLatin1", name := "canEncode", desc := "(I)Z" } : MethodName)) ∈ tb_all := tb_in 724 (by decide +kernel) rfl
theorem tw_633 : (Cond.static ({ cls := "java/lang/StringLatin1", name := "canEncode", desc := "(I)Z" } : MethodName)) ∈ tb_all := tb_in 725 (by decide +kernel) rfl
theorem tw_634 : (Cond.code ({ cls := "java/lang/StringLatin1", name := "canEncode", desc := "(I)Z" } : MethodName) prog_19_method_4_code (1 : Nat) (Option.some FieldType.boolean)) ∈ tb_all := tb_in 726 (by decide +kernel) rfl
theorem tw_635 : (Cond.methodLink "java/lang/StringLatin1" (92 : Nat) ({ cls := "java/lang/Math", name := "max", desc := "(II)I" } : MethodName)) ∈ tb_all := tb_in 727 (by decide +kernel) rfl
theorem tw_636 : (Cond.static ({ cls := "java/lang/Math", name := "max", desc := "(II)I" } : MethodName)) ∈ tb_all := tb_in 728 (by decide +kernel) rfl
theorem tw_637 : (Cond.code ({ cls := "java/lang/Math", name := "max", desc := "(II)I" } : MethodName) prog_16_method_65_code (2 : Nat) (Option.some FieldType.int)) ∈ tb_all := tb_in 729 (by decide +kernel) rfl
theorem tw_638 : (Cond.methodLink "java/lang/StringLatin1" (38 : Nat) ({ cls := "java/lang/Math", name := "min", desc := "(II)I" } : MethodName)) ∈ tb_all := tb_in 730 (by decide +kernel) rfl
theorem tw_639 : (Cond.methodLink "java/lang/StringLatin1" (95 : Nat) ({ cls := "java/lang/StringLatin1", name := "indexOfChar", desc := "([BIII)I" } : MethodName)) ∈ tb_all := tb_in 731 (by decide +kernel) rfl
theorem tw_640 : (Cond.static ({ cls := "java/lang/StringLatin1", name := "indexOfChar", desc := "([BIII)I" } : MethodName)) ∈ tb_all := tb_in 732 (by decide +kernel) rfl
theorem tw_641 : (Cond.code ({ cls := "java/lang/StringLatin1", name := "indexOfChar", desc := "([BIII)I" } : MethodName) prog_19_method_23_code (6 : Nat) (Option.some FieldType.int)) ∈ tb_all := tb_in 733 (by decide +kernel) rfl
theorem tw_642 : (Cond.methodLink "java/lang/String" (640 : Nat) ({ cls := "java/lang/StringUTF16", name := "indexOf", desc := "([BIII)I" } : MethodName)) ∈ tb_all := tb_in 734 (by decide +kernel) rfl
theorem tw_643 : (Cond.static ({ cls := "java/lang/StringUTF16", name := "indexOf", desc := "([BIII)I" } : MethodName)) ∈ tb_all := tb_in 735 (by decide +kernel) rfl
theorem tw_644 : (Cond.code ({ cls := "java/lang/StringUTF16", name := "indexOf", desc := "([BIII)I" } : MethodName) prog_20_method_40_code (4 : Nat) (Option.some FieldType.int)) ∈ tb_all := tb_in 736 (by decide +kernel) rfl
theorem tw_645 : (Cond.methodLink "java/lang/StringUTF16" (224 : Nat) ({ cls := "java/lang/Math", name := "max", desc := "(II)I" } : MethodName)) ∈ tb_all := tb_in 737 (by decide +kernel) rfl
theorem tw_646 : (Cond.methodLink "java/lang/StringUTF16" (183 : Nat) ({ cls := "java/lang/Math", name := "min", desc := "(II)I" } : MethodName)) ∈ tb_all := tb_in 738 (by decide +kernel) rfl
theorem tw_648 : (Cond.methodLink "java/lang/StringUTF16" (228 : Nat) ({ cls := "java/lang/StringUTF16", name := "indexOfChar", desc := "([BIII)I" } : MethodName)) ∈ tb_all := tb_in 740 (by decide +kernel) rfl
theorem tw_649 : (Cond.static ({ cls := "java/lang/StringUTF16", name := "indexOfChar", desc := "([BIII)I" } : MethodName)) ∈ tb_all := tb_in 741 (by decide +kernel) rfl
theorem tw_650 : (Cond.code ({ cls := "java/lang/StringUTF16", name := "indexOfChar", desc := "([BIII)I" } : MethodName) prog_20_method_47_code (4 : Nat) (Option.some FieldType.int)) ∈ tb_all := tb_in 742 (by decide +kernel) rfl
theorem tw_651 : (Cond.methodLink "java/lang/StringUTF16" (96 : Nat) ({ cls := "java/lang/StringUTF16", name := "checkBoundsBeginEnd", desc := "(II[B)V" } : MethodName)) ∈ tb_all := tb_in 743 (by decide +kernel) rfl
theorem tw_652 : (Cond.static ({ cls := "java/lang/StringUTF16", name := "checkBoundsBeginEnd", desc := "(II[B)V" } : MethodName)) ∈ tb_all := tb_in 744 (by decide +kernel) rfl
theorem tw_653 : (Cond.code ({ cls := "java/lang/StringUTF16", name := "checkBoundsBeginEnd", desc := "(II[B)V" } : MethodName) prog_20_method_93_code (3 : Nat) (Option.none : Option Jvm.ClassFile.FieldType)) ∈ tb_all := tb_in 745 (by decide +kernel) rfl
theorem tw_654 : (Cond.methodLink "java/lang/StringUTF16" (48 : Nat) ({ cls := "java/lang/StringUTF16", name := "length", desc := "([B)I" } : MethodName)) ∈ tb_all := tb_in 746 (by decide +kernel) rfl
theorem tw_655 : (Cond.static ({ cls := "java/lang/StringUTF16", name := "length", desc := "([B)I" } : MethodName)) ∈ tb_all := tb_in 747 (by decide +kernel) rfl
theorem tw_656 : (Cond.code ({ cls := "java/lang/StringUTF16", name := "length", desc := "([B)I" } : MethodName) prog_20_method_6_code (1 : Nat) (Option.some FieldType.int)) ∈ tb_all := tb_in 748 (by decide +kernel) rfl
theorem tw_657 : (Cond.methodLink "java/lang/StringUTF16" (241 : Nat) ({ cls := "java/lang/String", name := "checkBoundsBeginEnd", desc := "(III)V" } : MethodName)) ∈ tb_all := tb_in 749 (by decide +kernel) rfl
theorem tw_658 : (Cond.static ({ cls := "java/lang/String", name := "checkBoundsBeginEnd", desc := "(III)V" } : MethodName)) ∈ tb_all := tb_in 750 (by decide +kernel) rfl
theorem tw_659 : (Cond.code ({ cls := "java/lang/String", name := "checkBoundsBeginEnd", desc := "(III)V" } : MethodName) prog_18_method_158_code (3 : Nat) (Option.none : Option Jvm.ClassFile.FieldType)) ∈ tb_all := tb_in 751 (by decide +kernel) rfl
theorem tw_662 : (Cond.methodLink "java/lang/String" (1062 : Nat) ({ cls := "jdk/internal/util/Preconditions", name := "checkFromToIndex", desc := "(IIILjava/util/function/BiFunction;)I" } : MethodName)) ∈ tb_all := tb_in 754 (by decide +kernel) rfl
theorem tw_663 : (Cond.static ({ cls := "jdk/internal/util/Preconditions", name := "checkFromToIndex", desc := "(IIILjava/util/function/BiFunction;)I" } : MethodName)) ∈ tb_all := tb_in 755 (by decide +kernel) rfl
theorem tw_664 : (Cond.code ({ cls := "jdk/internal/util/Preconditions", name := "checkFromToIndex", desc := "(IIILjava/util/function/BiFunction;)I" } : MethodName) prog_24_method_12_code (4 : Nat) (Option.some FieldType.int)) ∈ tb_all := tb_in 756 (by decide +kernel) rfl
theorem tw_665 : (Cond.methodLink "java/lang/StringUTF16" (244 : Nat) ({ cls := "java/lang/StringUTF16", name := "indexOfCharUnsafe", desc := "([BIII)I" } : MethodName)) ∈ tb_all := tb_in 757 (by decide +kernel) rfl
theorem tw_666 : (Cond.static ({ cls := "java/lang/StringUTF16", name := "indexOfCharUnsafe", desc := "([BIII)I" } : MethodName)) ∈ tb_all := tb_in 758 (by decide +kernel) rfl
theorem tw_667 : (Cond.code ({ cls := "java/lang/StringUTF16", name := "indexOfCharUnsafe", desc := "([BIII)I" } : MethodName) prog_20_method_48_code (5 : Nat) (Option.some FieldType.int)) ∈ tb_all := tb_in 759 (by decide +kernel) rfl
theorem tw_668 : (Cond.methodLink "java/lang/StringUTF16" (71 : Nat) ({ cls := "java/lang/StringUTF16", name := "getChar", desc := "([BI)C" } : MethodName)) ∈ tb_all := tb_in 760 (by decide +kernel) rfl
theorem tw_669 : (Cond.static ({ cls := "java/lang/StringUTF16", name := "getChar", desc := "([BI)C" } : MethodName)) ∈ tb_all := tb_in 761 (by decide +kernel) rfl
theorem tw_670 : (Cond.code ({ cls := "java/lang/StringUTF16", name := "getChar", desc := "([BI)C" } : MethodName) prog_20_method_5_code (2 : Nat) (Option.some FieldType.char)) ∈ tb_all := tb_in 762 (by decide +kernel) rfl
theorem tw_677 : (Cond.methodLink "java/lang/StringUTF16" (232 : Nat) ({ cls := "java/lang/StringUTF16", name := "indexOfSupplementary", desc := "([BIII)I" } : MethodName)) ∈ tb_all := tb_in 769 (by decide +kernel) rfl
theorem tw_678 : (Cond.static ({ cls := "java/lang/StringUTF16", name := "indexOfSupplementary", desc := "([BIII)I" } : MethodName)) ∈ tb_all := tb_in 770 (by decide +kernel) rfl
theorem tw_679 : (Cond.code ({ cls := "java/lang/StringUTF16", name := "indexOfSupplementary", desc := "([BIII)I" } : MethodName) prog_20_method_49_code (7 : Nat) (Option.some FieldType.int)) ∈ tb_all := tb_in 771 (by decide +kernel) rfl
theorem tw_680 : (Cond.methodLink "java/lang/StringUTF16" (164 : Nat) ({ cls := "java/lang/Character", name := "isValidCodePoint", desc := "(I)Z" } : MethodName)) ∈ tb_all := tb_in 772 (by decide +kernel) rfl
theorem tw_681 : (Cond.static ({ cls := "java/lang/Character", name := "isValidCodePoint", desc := "(I)Z" } : MethodName)) ∈ tb_all := tb_in 773 (by decide +kernel) rfl
theorem tw_682 : (Cond.code ({ cls := "java/lang/Character", name := "isValidCodePoint", desc := "(I)Z" } : MethodName) prog_12_method_11_code (2 : Nat) (Option.some FieldType.boolean)) ∈ tb_all := tb_in 774 (by decide +kernel) rfl
theorem tw_683 : (Cond.methodLink "java/lang/StringUTF16" (157 : Nat) ({ cls := "java/lang/Character", name := "highSurrogate", desc := "(I)C" } : MethodName)) ∈ tb_all := tb_in 775 (by decide +kernel) rfl
theorem tw_684 : (Cond.static ({ cls := "java/lang/Character", name := "highSurrogate", desc := "(I)C" } : MethodName)) ∈ tb_all := tb_in 776 (by decide +kernel) rfl
theorem tw_685 : (Cond.code ({ cls := "java/lang/Character", name := "highSurrogate", desc := "(I)C" } : MethodName) prog_12_method_28_code (1 : Nat) (Option.some FieldType.char)) ∈ tb_all := tb_in 777 (by decide +kernel) rfl
theorem tw_687 : (Cond.methodLink "java/lang/StringUTF16" (161 : Nat) ({ cls := "java/lang/Character", name := "lowSurrogate", desc := "(I)C" } : MethodName)) ∈ tb_all := tb_in 779 (by decide +kernel) rfl
theorem tw_688 : (Cond.static ({ cls := "java/lang/Character", name := "lowSurrogate", desc := "(I)C" } : MethodName)) ∈ tb_all := tb_in 780 (by decide +kernel) rfl
theorem tw_689 : (Cond.code ({ cls := "java/lang/Character", name := "lowSurrogate", desc := "(I)C" } : MethodName) prog_12_method_29_code (1 : Nat) (Option.some FieldType.char)) ∈ tb_all := tb_in 781 (by decide +kernel) rfl
theorem tw_691 : (Cond.methodLink "MailHeads$Words" (82 : Nat) ({ cls := "MailHeads$Words", name := "cutAtom", desc := "(II)I" } : MethodName)) ∈ tb_all := tb_in 783 (by decide +kernel) rfl
theorem tw_693 : (Cond.instanceMethod ({ cls := "MailHeads$Words", name := "cutAtom", desc := "(II)I" } : MethodName)) ∈ tb_all := tb_in 785 (by decide +kernel) rfl
theorem tw_694 : (Cond.code ({ cls := "MailHeads$Words", name := "cutAtom", desc := "(II)I" } : MethodName) prog_9_method_8_code (5 : Nat) (Option.some FieldType.int)) ∈ tb_all := tb_in 786 (by decide +kernel) rfl
theorem tw_695 : (Cond.methodLink "MailHeads$Words" (53 : Nat) ({ cls := "java/lang/Math", name := "max", desc := "(II)I" } : MethodName)) ∈ tb_all := tb_in 787 (by decide +kernel) rfl
theorem tw_696 : (Cond.methodLink "MailHeads" (126 : Nat) ({ cls := "MailHeads$Addresses", name := "readWords", desc := "()V" } : MethodName)) ∈ tb_all := tb_in 788 (by decide +kernel) rfl
theorem tw_697 : (Cond.instanceMethod ({ cls := "MailHeads$Addresses", name := "readWords", desc := "()V" } : MethodName)) ∈ tb_all := tb_in 789 (by decide +kernel) rfl
theorem tw_698 : (Cond.selects "MailHeads$Addresses" ({ cls := "MailHeads$Addresses", name := "readWords", desc := "()V" } : MethodName) ({ cls := "MailHeads$Addresses", name := "readWords", desc := "()V" } : MethodName)) ∈ tb_all := tb_in 790 (by decide +kernel) rfl
theorem tw_699 : (Cond.code ({ cls := "MailHeads$Addresses", name := "readWords", desc := "()V" } : MethodName) prog_2_method_8_code (4 : Nat) (Option.none : Option Jvm.ClassFile.FieldType)) ∈ tb_all := tb_in 791 (by decide +kernel) rfl
theorem tw_700 : (Cond.methodLink "MailHeads$Addresses" (56 : Nat) ({ cls := "MailHeads$Texts", name := "clear", desc := "()V" } : MethodName)) ∈ tb_all := tb_in 792 (by decide +kernel) rfl
theorem tw_701 : (Cond.methodLink "MailHeads$Addresses" (59 : Nat) ({ cls := "MailHeads$Row", name := "cutTo", desc := "(I)V" } : MethodName)) ∈ tb_all := tb_in 793 (by decide +kernel) rfl
theorem tw_702 : (Cond.methodLink "MailHeads$Addresses" (63 : Nat) ({ cls := "MailHeads$Addresses", name := "beginGathering", desc := "()V" } : MethodName)) ∈ tb_all := tb_in 794 (by decide +kernel) rfl
theorem tw_704 : (Cond.instanceMethod ({ cls := "MailHeads$Addresses", name := "beginGathering", desc := "()V" } : MethodName)) ∈ tb_all := tb_in 796 (by decide +kernel) rfl
theorem tw_705 : (Cond.code ({ cls := "MailHeads$Addresses", name := "beginGathering", desc := "()V" } : MethodName) prog_2_method_9_code (1 : Nat) (Option.none : Option Jvm.ClassFile.FieldType)) ∈ tb_all := tb_in 797 (by decide +kernel) rfl
theorem tw_706 : (Cond.methodLink "MailHeads$Addresses" (66 : Nat) ({ cls := "MailHeads$Words", name := "kinds", desc := "()LMailHeads$Row;" } : MethodName)) ∈ tb_all := tb_in 798 (by decide +kernel) rfl
theorem tw_707 : (Cond.instanceMethod ({ cls := "MailHeads$Words", name := "kinds", desc := "()LMailHeads$Row;" } : MethodName)) ∈ tb_all := tb_in 799 (by decide +kernel) rfl
theorem tw_708 : (Cond.selects "MailHeads$Words" ({ cls := "MailHeads$Words", name := "kinds", desc := "()LMailHeads$Row;" } : MethodName) ({ cls := "MailHeads$Words", name := "kinds", desc := "()LMailHeads$Row;" } : MethodName)) ∈ tb_all := tb_in 800 (by decide +kernel) rfl
theorem tw_709 : (Cond.code ({ cls := "MailHeads$Words", name := "kinds", desc := "()LMailHeads$Row;" } : MethodName) prog_9_method_3_code (1 : Nat) (Option.some (FieldType.object "MailHeads$Row"))) ∈ tb_all := tb_in 801 (by decide +kernel) rfl
theorem tw_710 : (Cond.methodLink "MailHeads$Addresses" (72 : Nat) ({ cls := "MailHeads$Addresses", name := "takeGathered", desc := "(I)V" } : MethodName)) ∈ tb_all := tb_in 802 (by decide +kernel) rfl
theorem tw_712 : (Cond.instanceMethod ({ cls := "MailHeads$Addresses", name := "takeGathered", desc := "(I)V" } : MethodName)) ∈ tb_all := tb_in 804 (by decide +kernel) rfl
theorem tw_713 : (Cond.code ({ cls := "MailHeads$Addresses", name := "takeGathered", desc := "(I)V" } : MethodName) prog_2_method_10_code (2 : Nat) (Option.none : Option Jvm.ClassFile.FieldType)) ∈ tb_all := tb_in 805 (by decide +kernel) rfl
theorem tw_714 : (Cond.methodLink "MailHeads$Addresses" (78 : Nat) ({ cls := "MailHeads$Addresses", name := "takeColon", desc := "()V" } : MethodName)) ∈ tb_all := tb_in 806 (by decide +kernel) rfl
theorem tw_716 : (Cond.instanceMethod ({ cls := "MailHeads$Addresses", name := "takeColon", desc := "()V" } : MethodName)) ∈ tb_all := tb_in 808 (by decide +kernel) rfl
theorem tw_717 : (Cond.code ({ cls := "MailHeads$Addresses", name := "takeColon", desc := "()V" } : MethodName) prog_2_method_11_code (1 : Nat) (Option.none : Option Jvm.ClassFile.FieldType)) ∈ tb_all := tb_in 809 (by decide +kernel) rfl
theorem tw_718 : (Cond.methodLink "MailHeads$Addresses" (85 : Nat) ({ cls := "MailHeads$Texts", name := "count", desc := "()I" } : MethodName)) ∈ tb_all := tb_in 810 (by decide +kernel) rfl
theorem tw_719 : (Cond.methodLink "MailHeads$Addresses" (86 : Nat) ({ cls := "MailHeads$Addresses", name := "isName", desc := "(I)Z" } : MethodName)) ∈ tb_all := tb_in 811 (by decide +kernel) rfl
theorem tw_721 : (Cond.instanceMethod ({ cls := "MailHeads$Addresses", name := "isName", desc := "(I)Z" } : MethodName)) ∈ tb_all := tb_in 813 (by decide +kernel) rfl
theorem tw_722 : (Cond.code ({ cls := "MailHeads$Addresses", name := "isName", desc := "(I)Z" } : MethodName) prog_2_method_15_code (4 : Nat) (Option.some FieldType.boolean)) ∈ tb_all := tb_in 814 (by decide +kernel) rfl
theorem tw_723 : (Cond.methodLink "MailHeads$Addresses" (100 : Nat) ({ cls := "MailHeads$Addresses", name := "kindAt", desc := "(I)I" } : MethodName)) ∈ tb_all := tb_in 815 (by decide +kernel) rfl
theorem tw_725 : (Cond.instanceMethod ({ cls := "MailHeads$Addresses", name := "kindAt", desc := "(I)I" } : MethodName)) ∈ tb_all := tb_in 817 (by decide +kernel) rfl
theorem tw_726 : (Cond.code ({ cls := "MailHeads$Addresses", name := "kindAt", desc := "(I)I" } : MethodName) prog_2_method_13_code (2 : Nat) (Option.some FieldType.int)) ∈ tb_all := tb_in 818 (by decide +kernel) rfl
theorem tw_727 : (Cond.methodLink "MailHeads$Addresses" (90 : Nat) ({ cls := "MailHeads$Addresses", name := "putName", desc := "(LMailHeads$Texts;I)V" } : MethodName)) ∈ tb_all := tb_in 819 (by decide +kernel) rfl
theorem tw_729 : (Cond.instanceMethod ({ cls := "MailHeads$Addresses", name := "putName", desc := "(LMailHeads$Texts;I)V" } : MethodName)) ∈ tb_all := tb_in 821 (by decide +kernel) rfl
theorem tw_730 : (Cond.code ({ cls := "MailHeads$Addresses", name := "putName", desc := "(LMailHeads$Texts;I)V" } : MethodName) prog_2_method_19_code (4 : Nat) (Option.none : Option Jvm.ClassFile.FieldType)) ∈ tb_all := tb_in 822 (by decide +kernel) rfl
theorem tw_731 : (Cond.methodLink "MailHeads$Addresses" (125 : Nat) ({ cls := "MailHeads$Texts", name := "put", desc := "(I)V" } : MethodName)) ∈ tb_all := tb_in 823 (by decide +kernel) rfl
theorem tw_732 : (Cond.methodLink "MailHeads$Addresses" (115 : Nat) ({ cls := "MailHeads$Words", name := "texts", desc := "()LMailHeads$Texts;" } : MethodName)) ∈ tb_all := tb_in 824 (by decide +kernel) rfl
theorem tw_733 : (Cond.instanceMethod ({ cls := "MailHeads$Words", name := "texts", desc := "()LMailHeads$Texts;" } : MethodName)) ∈ tb_all := tb_in 825 (by decide +kernel) rfl
theorem tw_734 : (Cond.selects "MailHeads$Words" ({ cls := "MailHeads$Words", name := "texts", desc := "()LMailHeads$Texts;" } : MethodName) ({ cls := "MailHeads$Words", name := "texts", desc := "()LMailHeads$Texts;" } : MethodName)) ∈ tb_all := tb_in 826 (by decide +kernel) rfl
theorem tw_735 : (Cond.code ({ cls := "MailHeads$Words", name := "texts", desc := "()LMailHeads$Texts;" } : MethodName) prog_9_method_2_code (1 : Nat) (Option.some (FieldType.object "MailHeads$Texts"))) ∈ tb_all := tb_in 827 (by decide +kernel) rfl
theorem tw_736 : (Cond.methodLink "MailHeads$Addresses" (118 : Nat) ({ cls := "MailHeads$Texts", name := "putText", desc := "(LMailHeads$Texts;I)V" } : MethodName)) ∈ tb_all := tb_in 828 (by decide +kernel) rfl
theorem tw_737 : (Cond.instanceMethod ({ cls := "MailHeads$Texts", name := "putText", desc := "(LMailHeads$Texts;I)V" } : MethodName)) ∈ tb_all := tb_in 829 (by decide +kernel) rfl
theorem tw_738 : (Cond.selects "MailHeads$Texts" ({ cls := "MailHeads$Texts", name := "putText", desc := "(LMailHeads$Texts;I)V" } : MethodName) ({ cls := "MailHeads$Texts", name := "putText", desc := "(LMailHeads$Texts;I)V" } : MethodName)) ∈ tb_all := tb_in 830 (by decide +kernel) rfl
theorem tw_739 : (Cond.code ({ cls := "MailHeads$Texts", name := "putText", desc := "(LMailHeads$Texts;I)V" } : MethodName) prog_8_method_6_code (6 : Nat) (Option.none : Option Jvm.ClassFile.FieldType)) ∈ tb_all := tb_in 831 (by decide +kernel) rfl
theorem tw_740 : (Cond.methodLink "MailHeads$Addresses" (94 : Nat) ({ cls := "MailHeads$Texts", name := "close", desc := "()V" } : MethodName)) ∈ tb_all := tb_in 832 (by decide +kernel) rfl
theorem tw_741 : (Cond.methodLink "MailHeads$Addresses" (81 : Nat) ({ cls := "MailHeads$Addresses", name := "takeMailbox", desc := "()Z" } : MethodName)) ∈ tb_all := tb_in 833 (by decide +kernel) rfl
theorem tw_743 : (Cond.instanceMethod ({ cls := "MailHeads$Addresses", name := "takeMailbox", desc := "()Z" } : MethodName)) ∈ tb_all := tb_in 835 (by decide +kernel) rfl
theorem tw_744 : (Cond.code ({ cls := "MailHeads$Addresses", name := "takeMailbox", desc := "()Z" } : MethodName) prog_2_method_12_code (5 : Nat) (Option.some FieldType.boolean)) ∈ tb_all := tb_in 836 (by decide +kernel) rfl
theorem tw_745 : (Cond.methodLink "MailHeads$Addresses" (97 : Nat) ({ cls := "MailHeads$Addresses", name := "firstOpen", desc := "()I" } : MethodName)) ∈ tb_all := tb_in 837 (by decide +kernel) rfl
theorem tw_747 : (Cond.instanceMethod ({ cls := "MailHeads$Addresses", name := "firstOpen", desc := "()I" } : MethodName)) ∈ tb_all := tb_in 839 (by decide +kernel) rfl
theorem tw_748 : (Cond.code ({ cls := "MailHeads$Addresses", name := "firstOpen", desc := "()I" } : MethodName) prog_2_method_14_code (2 : Nat) (Option.some FieldType.int)) ∈ tb_all := tb_in 840 (by decide +kernel) rfl
theorem tw_749 : (Cond.methodLink "MailHeads$Addresses" (103 : Nat) ({ cls := "MailHeads$Addresses", name := "behindRoute", desc := "(II)I" } : MethodName)) ∈ tb_all := tb_in 841 (by decide +kernel) rfl
theorem tw_751 : (Cond.instanceMethod ({ cls := "MailHeads$Addresses", name := "behindRoute", desc := "(II)I" } : MethodName)) ∈ tb_all := tb_in 843 (by decide +kernel) rfl
theorem tw_752 : (Cond.code ({ cls := "MailHeads$Addresses", name := "behindRoute", desc := "(II)I" } : MethodName) prog_2_method_16_code (5 : Nat) (Option.some FieldType.int)) ∈ tb_all := tb_in 844 (by decide +kernel) rfl
theorem tw_753 : (Cond.methodLink "MailHeads$Addresses" (107 : Nat) ({ cls := "MailHeads$Addresses", name := "dottedEnd", desc := "(IIZ)I" } : MethodName)) ∈ tb_all := tb_in 845 (by decide +kernel) rfl
theorem tw_755 : (Cond.instanceMethod ({ cls := "MailHeads$Addresses", name := "dottedEnd", desc := "(IIZ)I" } : MethodName)) ∈ tb_all := tb_in 847 (by decide +kernel) rfl
theorem tw_756 : (Cond.code ({ cls := "MailHeads$Addresses", name := "dottedEnd", desc := "(IIZ)I" } : MethodName) prog_2_method_17_code (6 : Nat) (Option.some FieldType.int)) ∈ tb_all := tb_in 848 (by decide +kernel) rfl
theorem tw_757 : (Cond.methodLink "MailHeads$Addresses" (111 : Nat) ({ cls := "MailHeads$Addresses", name := "isDomainBehind", desc := "(II)Z" } : MethodName)) ∈ tb_all := tb_in 849 (by decide +kernel) rfl
theorem tw_759 : (Cond.instanceMethod ({ cls := "MailHeads$Addresses", name := "isDomainBehind", desc := "(II)Z" } : MethodName)) ∈ tb_all := tb_in 851 (by decide +kernel) rfl
theorem tw_760 : (Cond.code ({ cls := "MailHeads$Addresses", name := "isDomainBehind", desc := "(II)Z" } : MethodName) prog_2_method_18_code (4 : Nat) (Option.some FieldType.boolean)) ∈ tb_all := tb_in 852 (by decide +kernel) rfl
theorem tw_761 : (Cond.methodLink "MailHeads$Addresses" (121 : Nat) ({ cls := "MailHeads$Addresses", name := "putWords", desc := "(II)V" } : MethodName)) ∈ tb_all := tb_in 853 (by decide +kernel) rfl
theorem tw_763 : (Cond.instanceMethod ({ cls := "MailHeads$Addresses", name := "putWords", desc := "(II)V" } : MethodName)) ∈ tb_all := tb_in 855 (by decide +kernel) rfl
theorem tw_764 : (Cond.code ({ cls := "MailHeads$Addresses", name := "putWords", desc := "(II)V" } : MethodName) prog_2_method_20_code (5 : Nat) (Option.none : Option Jvm.ClassFile.FieldType)) ∈ tb_all := tb_in 856 (by decide +kernel) rfl
theorem tw_765 : (Cond.methodLink "MailHeads$Addresses" (75 : Nat) ({ cls := "MailHeads$Row", name := "add", desc := "(I)V" } : MethodName)) ∈ tb_all := tb_in 857 (by decide +kernel) rfl
theorem tw_766 : (Cond.methodLink "MailHeads" (129 : Nat) ({ cls := "MailHeads$Addresses", name := "count", desc := "()I" } : MethodName)) ∈ tb_all := tb_in 858 (by decide +kernel) rfl
theorem tw_774 : (Cond.methodLink "MailHeads" (130 : Nat) ({ cls := "MailHeads$Identities", name := "readBytes", desc := "(LMailHeads$Texts;I)V" } : MethodName)) ∈ tb_all := tb_in 866 (by decide +kernel) rfl
theorem tw_775 : (Cond.instanceMethod ({ cls := "MailHeads$Identities", name := "readBytes", desc := "(LMailHeads$Texts;I)V" } : MethodName)) ∈ tb_all := tb_in 867 (by decide +kernel) rfl
theorem tw_776 : (Cond.selects "MailHeads$Identities" ({ cls := "MailHeads$Identities", name := "readBytes", desc := "(LMailHeads$Texts;I)V" } : MethodName) ({ cls := "MailHeads$Identities", name := "readBytes", desc := "(LMailHeads$Texts;I)V" } : MethodName)) ∈ tb_all := tb_in 868 (by decide +kernel) rfl
theorem tw_777 : (Cond.code ({ cls := "MailHeads$Identities", name := "readBytes", desc := "(LMailHeads$Texts;I)V" } : MethodName) prog_6_method_3_code (7 : Nat) (Option.none : Option Jvm.ClassFile.FieldType)) ∈ tb_all := tb_in 869 (by decide +kernel) rfl
theorem tw_778 : (Cond.methodLink "MailHeads$Identities" (18 : Nat) ({ cls := "MailHeads$Texts", name := "clear", desc := "()V" } : MethodName)) ∈ tb_all := tb_in 870 (by decide +kernel) rfl
theorem tw_779 : (Cond.methodLink "MailHeads$Identities" (21 : Nat) ({ cls := "MailHeads$Texts", name := "sizeOf", desc := "(I)I" } : MethodName)) ∈ tb_all := tb_in 871 (by decide +kernel) rfl
theorem tw_780 : (Cond.methodLink "MailHeads$Identities" (25 : Nat) ({ cls := "MailHeads$Texts", name := "byteOf", desc := "(II)I" } : MethodName)) ∈ tb_all := tb_in 872 (by decide +kernel) rfl
theorem tw_781 : (Cond.methodLink "MailHeads$Identities" (29 : Nat) ({ cls := "MailHeads$Identities", name := "takeBetween", desc := "(LMailHeads$Texts;III)V" } : MethodName)) ∈ tb_all := tb_in 873 (by decide +kernel) rfl
theorem tw_783 : (Cond.instanceMethod ({ cls := "MailHeads$Identities", name := "takeBetween", desc := "(LMailHeads$Texts;III)V" } : MethodName)) ∈ tb_all := tb_in 875 (by decide +kernel) rfl
theorem tw_784 : (Cond.code ({ cls := "MailHeads$Identities", name := "takeBetween", desc := "(LMailHeads$Texts;III)V" } : MethodName) prog_6_method_4_code (7 : Nat) (Option.none : Option Jvm.ClassFile.FieldType)) ∈ tb_all := tb_in 876 (by decide +kernel) rfl
theorem tw_786 : (Cond.methodLink "MailHeads$Identities" (37 : Nat) ({ cls := "MailHeads$Texts", name := "dropOpen", desc := "()V" } : MethodName)) ∈ tb_all := tb_in 878 (by decide +kernel) rfl
theorem tw_787 : (Cond.methodLink "MailHeads$Identities" (40 : Nat) ({ cls := "MailHeads$Texts", name := "put", desc := "(I)V" } : MethodName)) ∈ tb_all := tb_in 879 (by decide +kernel) rfl
theorem tw_788 : (Cond.methodLink "MailHeads$Identities" (44 : Nat) ({ cls := "MailHeads$Texts", name := "close", desc := "()V" } : MethodName)) ∈ tb_all := tb_in 880 (by decide +kernel) rfl
theorem tw_796 : (Cond.methodLink "MailHeads" (136 : Nat) ({ cls := "MailHeads$DateReader", name := "seconds", desc := "()J" } : MethodName)) ∈ tb_all := tb_in 888 (by decide +kernel) rfl
theorem tw_797 : (Cond.instanceMethod ({ cls := "MailHeads$DateReader", name := "seconds", desc := "()J" } : MethodName)) ∈ tb_all := tb_in 889 (by decide +kernel) rfl
theorem tw_798 : (Cond.selects "MailHeads$DateReader" ({ cls := "MailHeads$DateReader", name := "seconds", desc := "()J" } : MethodName) ({ cls := "MailHeads$DateReader", name := "seconds", desc := "()J" } : MethodName)) ∈ tb_all := tb_in 890 (by decide +kernel) rfl
theorem tw_799 : (Cond.code ({ cls := "MailHeads$DateReader", name := "seconds", desc := "()J" } : MethodName) prog_4_method_2_code (12 : Nat) (Option.some FieldType.long)) ∈ tb_all := tb_in 891 (by decide +kernel) rfl
theorem tw_800 : (Cond.methodLink "MailHeads$DateReader" (21 : Nat) ({ cls := "MailHeads$Words", name := "kinds", desc := "()LMailHeads$Row;" } : MethodName)) ∈ tb_all := tb_in 892 (by decide +kernel) rfl
theorem tw_801 : (Cond.methodLink "MailHeads$DateReader" (27 : Nat) ({ cls := "MailHeads$Row", name := "get", desc := "(I)I" } : MethodName)) ∈ tb_all := tb_in 893 (by decide +kernel) rfl
theorem tw_802 : (Cond.methodLink "MailHeads$DateReader" (33 : Nat) ({ cls := "MailHeads$DateReader", name := "takeNumber", desc := "(II)I" } : MethodName)) ∈ tb_all := tb_in 894 (by decide +kernel) rfl
theorem tw_804 : (Cond.instanceMethod ({ cls := "MailHeads$DateReader", name := "takeNumber", desc := "(II)I" } : MethodName)) ∈ tb_all := tb_in 896 (by decide +kernel) rfl
theorem tw_805 : (Cond.code ({ cls := "MailHeads$DateReader", name := "takeNumber", desc := "(II)I" } : MethodName) prog_4_method_3_code (5 : Nat) (Option.some FieldType.int)) ∈ tb_all := tb_in 897 (by decide +kernel) rfl
theorem tw_806 : (Cond.methodLink "MailHeads$DateReader" (69 : Nat) ({ cls := "MailHeads$Words", name := "texts", desc := "()LMailHeads$Texts;" } : MethodName)) ∈ tb_all := tb_in 898 (by decide +kernel) rfl
theorem tw_807 : (Cond.methodLink "MailHeads$DateReader" (73 : Nat) ({ cls := "MailHeads$Texts", name := "sizeOf", desc := "(I)I" } : MethodName)) ∈ tb_all := tb_in 899 (by decide +kernel) rfl
theorem tw_808 : (Cond.methodLink "MailHeads$DateReader" (78 : Nat) ({ cls := "MailHeads$DateReader", name := "digits", desc := "(II)I" } : MethodName)) ∈ tb_all := tb_in 900 (by decide +kernel) rfl
theorem tw_810 : (Cond.instanceMethod ({ cls := "MailHeads$DateReader", name := "digits", desc := "(II)I" } : MethodName)) ∈ tb_all := tb_in 902 (by decide +kernel) rfl
theorem tw_811 : (Cond.code ({ cls := "MailHeads$DateReader", name := "digits", desc := "(II)I" } : MethodName) prog_4_method_7_code (6 : Nat) (Option.some FieldType.int)) ∈ tb_all := tb_in 903 (by decide +kernel) rfl
theorem tw_812 : (Cond.methodLink "MailHeads$DateReader" (87 : Nat) ({ cls := "MailHeads$Texts", name := "byteOf", desc := "(II)I" } : MethodName)) ∈ tb_all := tb_in 904 (by decide +kernel) rfl
theorem tw_814 : (Cond.methodLink "MailHeads$DateReader" (37 : Nat) ({ cls := "MailHeads$DateReader", name := "takeMonth", desc := "()I" } : MethodName)) ∈ tb_all := tb_in 906 (by decide +kernel) rfl
theorem tw_816 : (Cond.instanceMethod ({ cls := "MailHeads$DateReader", name := "takeMonth", desc := "()I" } : MethodName)) ∈ tb_all := tb_in 908 (by decide +kernel) rfl
theorem tw_817 : (Cond.code ({ cls := "MailHeads$DateReader", name := "takeMonth", desc := "()I" } : MethodName) prog_4_method_4_code (2 : Nat) (Option.some FieldType.int)) ∈ tb_all := tb_in 909 (by decide +kernel) rfl
theorem tw_819 : (Cond.methodLink "MailHeads$DateReader" (83 : Nat) ({ cls := "MailHeads$DateReader", name := "threeLetters", desc := "(Ljava/lang/String;)I" } : MethodName)) ∈ tb_all := tb_in 911 (by decide +kernel) rfl
theorem tw_821 : (Cond.instanceMethod ({ cls := "MailHeads$DateReader", name := "threeLetters", desc := "(Ljava/lang/String;)I" } : MethodName)) ∈ tb_all := tb_in 913 (by decide +kernel) rfl
theorem tw_822 : (Cond.code ({ cls := "MailHeads$DateReader", name := "threeLetters", desc := "(Ljava/lang/String;)I" } : MethodName) prog_4_method_8_code (3 : Nat) (Option.some FieldType.int)) ∈ tb_all := tb_in 914 (by decide +kernel) rfl
theorem tw_823 : (Cond.methodLink "MailHeads$DateReader" (93 : Nat) ({ cls := "java/lang/String", name := "length", desc := "()I" } : MethodName)) ∈ tb_all := tb_in 915 (by decide +kernel) rfl
theorem tw_824 : (Cond.methodLink "MailHeads$DateReader" (98 : Nat) ({ cls := "java/lang/String", name := "charAt", desc := "(I)C" } : MethodName)) ∈ tb_all := tb_in 916 (by decide +kernel) rfl
theorem tw_825 : (Cond.instanceMethod ({ cls := "java/lang/String", name := "charAt", desc := "(I)C" } : MethodName)) ∈ tb_all := tb_in 917 (by decide +kernel) rfl
theorem tw_826 : (Cond.selects "java/lang/String" ({ cls := "java/lang/String", name := "charAt", desc := "(I)C" } : MethodName) ({ cls := "java/lang/String", name := "charAt", desc := "(I)C" } : MethodName)) ∈ tb_all := tb_in 918 (by decide +kernel) rfl
theorem tw_827 : (Cond.code ({ cls := "java/lang/String", name := "charAt", desc := "(I)C" } : MethodName) prog_18_method_56_code (2 : Nat) (Option.some FieldType.char)) ∈ tb_all := tb_in 919 (by decide +kernel) rfl
theorem tw_828 : (Cond.methodLink "java/lang/String" (495 : Nat) ({ cls := "java/lang/StringLatin1", name := "charAt", desc := "([BI)C" } : MethodName)) ∈ tb_all := tb_in 920 (by decide +kernel) rfl
theorem tw_829 : (Cond.static ({ cls := "java/lang/StringLatin1", name := "charAt", desc := "([BI)C" } : MethodName)) ∈ tb_all := tb_in 921 (by decide +kernel) rfl
theorem tw_830 : (Cond.code ({ cls := "java/lang/StringLatin1", name := "charAt", desc := "([BI)C" } : MethodName) prog_19_method_2_code (2 : Nat) (Option.some FieldType.char)) ∈ tb_all := tb_in 922 (by decide +kernel) rfl
theorem tw_831 : (Cond.methodLink "java/lang/StringLatin1" (9 : Nat) ({ cls := "java/lang/String", name := "checkIndex", desc := "(II)V" } : MethodName)) ∈ tb_all := tb_in 923 (by decide +kernel) rfl
theorem tw_832 : (Cond.static ({ cls := "java/lang/String", name := "checkIndex", desc := "(II)V" } : MethodName)) ∈ tb_all := tb_in 924 (by decide +kernel) rfl
theorem tw_833 : (Cond.code ({ cls := "java/lang/String", name := "checkIndex", desc := "(II)V" } : MethodName) prog_18_method_155_code (2 : Nat) (Option.none : Option Jvm.ClassFile.FieldType)) ∈ tb_all := tb_in 925 (by decide +kernel) rfl
theorem tw_834 : (Cond.methodLink "java/lang/String" (1059 : Nat) ({ cls := "jdk/internal/util/Preconditions", name := "checkIndex", desc := "(IILjava/util/function/BiFunction;)I" } : MethodName)) ∈ tb_all := tb_in 926 (by decide +kernel) rfl
theorem tw_835 : (Cond.static ({ cls := "jdk/internal/util/Preconditions", name := "checkIndex", desc := "(IILjava/util/function/BiFunction;)I" } : MethodName)) ∈ tb_all := tb_in 927 (by decide +kernel) rfl
theorem tw_836 : (Cond.code ({ cls := "jdk/internal/util/Preconditions", name := "checkIndex", desc := "(IILjava/util/function/BiFunction;)I" } : MethodName) prog_24_method_11_code (3 : Nat) (Option.some FieldType.int)) ∈ tb_all := tb_in 928 (by decide +kernel) rfl
theorem tw_837 : (Cond.methodLink "java/lang/String" (498 : Nat) ({ cls := "java/lang/StringUTF16", name := "charAt", desc := "([BI)C" } : MethodName)) ∈ tb_all := tb_in 929 (by decide +kernel) rfl
theorem tw_838 : (Cond.static ({ cls := "java/lang/StringUTF16", name := "charAt", desc := "([BI)C" } : MethodName)) ∈ tb_all := tb_in 930 (by decide +kernel) rfl
theorem tw_839 : (Cond.code ({ cls := "java/lang/StringUTF16", name := "charAt", desc := "([BI)C" } : MethodName) prog_20_method_83_code (2 : Nat) (Option.some FieldType.char)) ∈ tb_all := tb_in 931 (by decide +kernel) rfl
theorem tw_840 : (Cond.methodLink "java/lang/StringUTF16" (67 : Nat) ({ cls := "java/lang/StringUTF16", name := "checkIndex", desc := "(I[B)V" } : MethodName)) ∈ tb_all := tb_in 932 (by decide +kernel) rfl
theorem tw_841 : (Cond.static ({ cls := "java/lang/StringUTF16", name := "checkIndex", desc := "(I[B)V" } : MethodName)) ∈ tb_all := tb_in 933 (by decide +kernel) rfl
theorem tw_842 : (Cond.code ({ cls := "java/lang/StringUTF16", name := "checkIndex", desc := "(I[B)V" } : MethodName) prog_20_method_91_code (2 : Nat) (Option.none : Option Jvm.ClassFile.FieldType)) ∈ tb_all := tb_in 934 (by decide +kernel) rfl
theorem tw_843 : (Cond.methodLink "java/lang/StringUTF16" (414 : Nat) ({ cls := "java/lang/String", name := "checkIndex", desc := "(II)V" } : MethodName)) ∈ tb_all := tb_in 935 (by decide +kernel) rfl
theorem tw_844 : (Cond.methodLink "MailHeads$DateReader" (102 : Nat) ({ cls := "MailHeads$DateReader", name := "isLetter", desc := "(II)Z" } : MethodName)) ∈ tb_all := tb_in 936 (by decide +kernel) rfl
theorem tw_846 : (Cond.instanceMethod ({ cls := "MailHeads$DateReader", name := "isLetter", desc := "(II)Z" } : MethodName)) ∈ tb_all := tb_in 938 (by decide +kernel) rfl
theorem tw_847 : (Cond.code ({ cls := "MailHeads$DateReader", name := "isLetter", desc := "(II)Z" } : MethodName) prog_4_method_9_code (3 : Nat) (Option.some FieldType.boolean)) ∈ tb_all := tb_in 939 (by decide +kernel) rfl
theorem tw_849 : (Cond.methodLink "MailHeads$DateReader" (41 : Nat) ({ cls := "MailHeads$DateReader", name := "takeYear", desc := "()I" } : MethodName)) ∈ tb_all := tb_in 941 (by decide +kernel) rfl
theorem tw_851 : (Cond.instanceMethod ({ cls := "MailHeads$DateReader", name := "takeYear", desc := "()I" } : MethodName)) ∈ tb_all := tb_in 943 (by decide +kernel) rfl
theorem tw_852 : (Cond.code ({ cls := "MailHeads$DateReader", name := "takeYear", desc := "()I" } : MethodName) prog_4_method_5_code (3 : Nat) (Option.some FieldType.int)) ∈ tb_all := tb_in 944 (by decide +kernel) rfl
theorem tw_853 : (Cond.methodLink "MailHeads$DateReader" (44 : Nat) ({ cls := "MailHeads$DateReader", name := "takeColon", desc := "()Z" } : MethodName)) ∈ tb_all := tb_in 945 (by decide +kernel) rfl
theorem tw_855 : (Cond.instanceMethod ({ cls := "MailHeads$DateReader", name := "takeColon", desc := "()Z" } : MethodName)) ∈ tb_all := tb_in 947 (by decide +kernel) rfl
theorem tw_856 : (Cond.code ({ cls := "MailHeads$DateReader", name := "takeColon", desc := "()Z" } : MethodName) prog_4_method_6_code (2 : Nat) (Option.some FieldType.boolean)) ∈ tb_all := tb_in 948 (by decide +kernel) rfl
theorem tw_857 : (Cond.methodLink "MailHeads$DateReader" (48 : Nat) ({ cls := "MailHeads$DateReader", name := "isBelow", desc := "(II)Z" } : MethodName)) ∈ tb_all := tb_in 949 (by decide +kernel) rfl
theorem tw_858 : (Cond.static ({ cls := "MailHeads$DateReader", name := "isBelow", desc := "(II)Z" } : MethodName)) ∈ tb_all := tb_in 950 (by decide +kernel) rfl
theorem tw_859 : (Cond.code ({ cls := "MailHeads$DateReader", name := "isBelow", desc := "(II)Z" } : MethodName) prog_4_method_12_code (2 : Nat) (Option.some FieldType.boolean)) ∈ tb_all := tb_in 951 (by decide +kernel) rfl
theorem tw_860 : (Cond.methodLink "MailHeads$DateReader" (52 : Nat) ({ cls := "MailHeads$DateReader", name := "isDay", desc := "(III)Z" } : MethodName)) ∈ tb_all := tb_in 952 (by decide +kernel) rfl
theorem tw_861 : (Cond.static ({ cls := "MailHeads$DateReader", name := "isDay", desc := "(III)Z" } : MethodName)) ∈ tb_all := tb_in 953 (by decide +kernel) rfl
theorem tw_862 : (Cond.code ({ cls := "MailHeads$DateReader", name := "isDay", desc := "(III)Z" } : MethodName) prog_4_method_13_code (3 : Nat) (Option.some FieldType.boolean)) ∈ tb_all := tb_in 954 (by decide +kernel) rfl
theorem tw_863 : (Cond.methodLink "MailHeads$DateReader" (117 : Nat) ({ cls := "MailHeads$DateReader", name := "daysOf", desc := "(II)I" } : MethodName)) ∈ tb_all := tb_in 955 (by decide +kernel) rfl
theorem tw_864 : (Cond.static ({ cls := "MailHeads$DateReader", name := "daysOf", desc := "(II)I" } : MethodName)) ∈ tb_all := tb_in 956 (by decide +kernel) rfl
theorem tw_865 : (Cond.code ({ cls := "MailHeads$DateReader", name := "daysOf", desc := "(II)I" } : MethodName) prog_4_method_14_code (3 : Nat) (Option.some FieldType.int)) ∈ tb_all := tb_in 957 (by decide +kernel) rfl
theorem tw_868 : (Cond.constantLong "MailHeads$DateReader" (56 : Nat) (-9223372036854775808 : Int64)) ∈ tb_all := tb_in 960 (by decide +kernel) rfl
theorem tw_869 : (Cond.constantLong "MailHeads$DateReader" (58 : Nat) (24 : Int64)) ∈ tb_all := tb_in 961 (by decide +kernel) rfl
theorem tw_870 : (Cond.methodLink "MailHeads$DateReader" (60 : Nat) ({ cls := "MailHeads$DateReader", name := "daysSince1970", desc := "(III)I" } : MethodName)) ∈ tb_all := tb_in 962 (by decide +kernel) rfl
theorem tw_871 : (Cond.static ({ cls := "MailHeads$DateReader", name := "daysSince1970", desc := "(III)I" } : MethodName)) ∈ tb_all := tb_in 963 (by decide +kernel) rfl
theorem tw_872 : (Cond.code ({ cls := "MailHeads$DateReader", name := "daysSince1970", desc := "(III)I" } : MethodName) prog_4_method_15_code (5 : Nat) (Option.some FieldType.int)) ∈ tb_all := tb_in 964 (by decide +kernel) rfl
theorem tw_873 : (Cond.methodLink "MailHeads$DateReader" (123 : Nat) ({ cls := "MailHeads$DateReader", name := "daysAhead", desc := "(I)I" } : MethodName)) ∈ tb_all := tb_in 965 (by decide +kernel) rfl
theorem tw_874 : (Cond.static ({ cls := "MailHeads$DateReader", name := "daysAhead", desc := "(I)I" } : MethodName)) ∈ tb_all := tb_in 966 (by decide +kernel) rfl
theorem tw_875 : (Cond.code ({ cls := "MailHeads$DateReader", name := "daysAhead", desc := "(I)I" } : MethodName) prog_4_method_16_code (2 : Nat) (Option.some FieldType.int)) ∈ tb_all := tb_in 967 (by decide +kernel) rfl
theorem tw_876 : (Cond.constantLong "MailHeads$DateReader" (64 : Nat) (60 : Int64)) ∈ tb_all := tb_in 968 (by decide +kernel) rfl
theorem tw_877 : (Cond.methodLink "MailHeads$DateReader" (66 : Nat) ({ cls := "MailHeads$DateReader", name := "zoneSeconds", desc := "()I" } : MethodName)) ∈ tb_all := tb_in 969 (by decide +kernel) rfl
theorem tw_879 : (Cond.instanceMethod ({ cls := "MailHeads$DateReader", name := "zoneSeconds", desc := "()I" } : MethodName)) ∈ tb_all := tb_in 971 (by decide +kernel) rfl
theorem tw_880 : (Cond.code ({ cls := "MailHeads$DateReader", name := "zoneSeconds", desc := "()I" } : MethodName) prog_4_method_10_code (3 : Nat) (Option.some FieldType.int)) ∈ tb_all := tb_in 972 (by decide +kernel) rfl
theorem tw_884 : (Cond.methodLink "MailHeads$DateReader" (114 : Nat) ({ cls := "MailHeads$DateReader", name := "signedZone", desc := "(I)I" } : MethodName)) ∈ tb_all := tb_in 976 (by decide +kernel) rfl
theorem tw_886 : (Cond.instanceMethod ({ cls := "MailHeads$DateReader", name := "signedZone", desc := "(I)I" } : MethodName)) ∈ tb_all := tb_in 978 (by decide +kernel) rfl
theorem tw_887 : (Cond.code ({ cls := "MailHeads$DateReader", name := "signedZone", desc := "(I)I" } : MethodName) prog_4_method_11_code (5 : Nat) (Option.some FieldType.int)) ∈ tb_all := tb_in 979 (by decide +kernel) rfl
theorem tw_896 : (Cond.methodLink "MailHeads" (142 : Nat) ({ cls := "MailHeads$ContentType", name := "readWords", desc := "()Z" } : MethodName)) ∈ tb_all := tb_in 988 (by decide +kernel) rfl
theorem tw_897 : (Cond.instanceMethod ({ cls := "MailHeads$ContentType", name := "readWords", desc := "()Z" } : MethodName)) ∈ tb_all := tb_in 989 (by decide +kernel) rfl
theorem tw_898 : (Cond.selects "MailHeads$ContentType" ({ cls := "MailHeads$ContentType", name := "readWords", desc := "()Z" } : MethodName) ({ cls := "MailHeads$ContentType", name := "readWords", desc := "()Z" } : MethodName)) ∈ tb_all := tb_in 990 (by decide +kernel) rfl
theorem tw_899 : (Cond.code ({ cls := "MailHeads$ContentType", name := "readWords", desc := "()Z" } : MethodName) prog_3_method_3_code (2 : Nat) (Option.some FieldType.boolean)) ∈ tb_all := tb_in 991 (by decide +kernel) rfl
theorem tw_900 : (Cond.methodLink "MailHeads$ContentType" (44 : Nat) ({ cls := "MailHeads$Row", name := "cutTo", desc := "(I)V" } : MethodName)) ∈ tb_all := tb_in 992 (by decide +kernel) rfl
theorem tw_901 : (Cond.methodLink "MailHeads$ContentType" (48 : Nat) ({ cls := "MailHeads$Words", name := "kinds", desc := "()LMailHeads$Row;" } : MethodName)) ∈ tb_all := tb_in 993 (by decide +kernel) rfl
theorem tw_902 : (Cond.methodLink "MailHeads$ContentType" (58 : Nat) ({ cls := "MailHeads$ContentType", name := "takePart", desc := "(I)V" } : MethodName)) ∈ tb_all := tb_in 994 (by decide +kernel) rfl
theorem tw_904 : (Cond.instanceMethod ({ cls := "MailHeads$ContentType", name := "takePart", desc := "(I)V" } : MethodName)) ∈ tb_all := tb_in 996 (by decide +kernel) rfl
theorem tw_905 : (Cond.code ({ cls := "MailHeads$ContentType", name := "takePart", desc := "(I)V" } : MethodName) prog_3_method_4_code (2 : Nat) (Option.none : Option Jvm.ClassFile.FieldType)) ∈ tb_all := tb_in 997 (by decide +kernel) rfl
theorem tw_906 : (Cond.methodLink "MailHeads$ContentType" (68 : Nat) ({ cls := "MailHeads$Words", name := "texts", desc := "()LMailHeads$Texts;" } : MethodName)) ∈ tb_all := tb_in 998 (by decide +kernel) rfl
theorem tw_907 : (Cond.methodLink "MailHeads$ContentType" (61 : Nat) ({ cls := "MailHeads$Row", name := "size", desc := "()I" } : MethodName)) ∈ tb_all := tb_in 999 (by decide +kernel) rfl
theorem tw_908 : (Cond.methodLink "MailHeads$ContentType" (65 : Nat) ({ cls := "MailHeads$ContentType", name := "takeParameter", desc := "(I)V" } : MethodName)) ∈ tb_all := tb_in 1000 (by decide +kernel) rfl
theorem tw_910 : (Cond.instanceMethod ({ cls := "MailHeads$ContentType", name := "takeParameter", desc := "(I)V" } : MethodName)) ∈ tb_all := tb_in 1002 (by decide +kernel) rfl
theorem tw_911 : (Cond.code ({ cls := "MailHeads$ContentType", name := "takeParameter", desc := "(I)V" } : MethodName) prog_3_method_5_code (8 : Nat) (Option.none : Option Jvm.ClassFile.FieldType)) ∈ tb_all := tb_in 1003 (by decide +kernel) rfl
theorem tw_912 : (Cond.methodLink "MailHeads$ContentType" (89 : Nat) ({ cls := "MailHeads$Texts", name := "putText", desc := "(LMailHeads$Texts;I)V" } : MethodName)) ∈ tb_all := tb_in 1004 (by decide +kernel) rfl
theorem tw_913 : (Cond.methodLink "MailHeads$ContentType" (93 : Nat) ({ cls := "MailHeads$Row", name := "add", desc := "(I)V" } : MethodName)) ∈ tb_all := tb_in 1005 (by decide +kernel) rfl
theorem tw_914 : (Cond.classLink "MailHeadsLaw" (27 : Nat) "MailHeadsModel") ∈ tb_all := tb_in 1006 (by decide +kernel) rfl
theorem tw_915 : (Cond.instantiable "MailHeadsModel" (45 : Nat)) ∈ tb_all := tb_in 1007 (by decide +kernel) rfl
theorem tw_919 : (Cond.methodLink "MailHeadsModel" (1 : Nat) ({ cls := "java/lang/Object", name := "<init>", desc := "()V" } : MethodName)) ∈ tb_all := tb_in 1011 (by decide +kernel) rfl
theorem tw_920 : (Cond.fieldLink "MailHeadsModel" (99 : Nat) "MailHeadsModel" "thrown" "I") ∈ tb_all := tb_in 1012 (by decide +kernel) rfl
theorem tw_921 : (Cond.fieldLink "MailHeadsModel" (7 : Nat) "MailHeadsModel" "ready" "[I") ∈ tb_all := tb_in 1013 (by decide +kernel) rfl
theorem tw_922 : (Cond.fieldLink "MailHeadsModel" (13 : Nat) "MailHeadsModel" "tape" "[I") ∈ tb_all := tb_in 1014 (by decide +kernel) rfl
theorem tw_923 : (Cond.fieldLink "MailHeadsModel" (106 : Nat) "MailHeadsModel" "tapeLong" "I") ∈ tb_all := tb_in 1015 (by decide +kernel) rfl
theorem tw_924 : (Cond.fieldLink "MailHeadsModel" (116 : Nat) "MailHeadsModel" "fields" "I") ∈ tb_all := tb_in 1016 (by decide +kernel) rfl
theorem tw_925 : (Cond.fieldLink "MailHeadsModel" (122 : Nat) "MailHeadsModel" "bad" "I") ∈ tb_all := tb_in 1017 (by decide +kernel) rfl
theorem tw_926 : (Cond.fieldLink "MailHeadsModel" (16 : Nat) "MailHeadsModel" "nameAt" "[I") ∈ tb_all := tb_in 1018 (by decide +kernel) rfl
theorem tw_927 : (Cond.fieldLink "MailHeadsModel" (19 : Nat) "MailHeadsModel" "nameLong" "[I") ∈ tb_all := tb_in 1019 (by decide +kernel) rfl
theorem tw_928 : (Cond.fieldLink "MailHeadsModel" (22 : Nat) "MailHeadsModel" "valueAt" "[I") ∈ tb_all := tb_in 1020 (by decide +kernel) rfl
theorem tw_929 : (Cond.fieldLink "MailHeadsModel" (25 : Nat) "MailHeadsModel" "valueLong" "[I") ∈ tb_all := tb_in 1021 (by decide +kernel) rfl
theorem tw_930 : (Cond.fieldLink "MailHeadsModel" (28 : Nat) "MailHeadsModel" "kept" "[I") ∈ tb_all := tb_in 1022 (by decide +kernel) rfl
theorem tw_931 : (Cond.fieldLink "MailHeadsModel" (113 : Nat) "MailHeadsModel" "keptLong" "I") ∈ tb_all := tb_in 1023 (by decide +kernel) rfl
theorem tw_932 : (Cond.fieldLink "MailHeadsModel" (149 : Nat) "MailHeadsModel" "words" "I") ∈ tb_all := tb_in 1024 (by decide +kernel) rfl
theorem tw_933 : (Cond.fieldLink "MailHeadsModel" (31 : Nat) "MailHeadsModel" "kind" "[I") ∈ tb_all := tb_in 1025 (by decide +kernel) rfl
theorem tw_934 : (Cond.fieldLink "MailHeadsModel" (34 : Nat) "MailHeadsModel" "sign" "[I") ∈ tb_all := tb_in 1026 (by decide +kernel) rfl
theorem tw_935 : (Cond.fieldLink "MailHeadsModel" (37 : Nat) "MailHeadsModel" "from" "[I") ∈ tb_all := tb_in 1027 (by decide +kernel) rfl
theorem tw_936 : (Cond.fieldLink "MailHeadsModel" (40 : Nat) "MailHeadsModel" "to" "[I") ∈ tb_all := tb_in 1028 (by decide +kernel) rfl
theorem tw_937 : (Cond.fieldLink "MailHeadsModel" (43 : Nat) "MailHeadsModel" "bytes" "[I") ∈ tb_all := tb_in 1029 (by decide +kernel) rfl
theorem tw_938 : (Cond.fieldLink "MailHeadsModel" (152 : Nat) "MailHeadsModel" "bytesLong" "I") ∈ tb_all := tb_in 1030 (by decide +kernel) rfl
theorem tw_939 : (Cond.fieldLink "MailHeadsModel" (46 : Nat) "MailHeadsModel" "made" "[I") ∈ tb_all := tb_in 1031 (by decide +kernel) rfl
theorem tw_940 : (Cond.fieldLink "MailHeadsModel" (49 : Nat) "MailHeadsModel" "madeLong" "[I") ∈ tb_all := tb_in 1032 (by decide +kernel) rfl
theorem tw_941 : (Cond.fieldLink "MailHeadsModel" (52 : Nat) "MailHeadsModel" "many" "[I") ∈ tb_all := tb_in 1033 (by decide +kernel) rfl
theorem tw_942 : (Cond.fieldLink "MailHeadsModel" (55 : Nat) "MailHeadsModel" "partAt" "[I") ∈ tb_all := tb_in 1034 (by decide +kernel) rfl
theorem tw_943 : (Cond.fieldLink "MailHeadsModel" (58 : Nat) "MailHeadsModel" "partLong" "[I") ∈ tb_all := tb_in 1035 (by decide +kernel) rfl
theorem tw_944 : (Cond.fieldLink "MailHeadsModel" (248 : Nat) "MailHeadsModel" "groups" "I") ∈ tb_all := tb_in 1036 (by decide +kernel) rfl
theorem tw_945 : (Cond.fieldLink "MailHeadsModel" (227 : Nat) "MailHeadsModel" "badOnes" "I") ∈ tb_all := tb_in 1037 (by decide +kernel) rfl
theorem tw_946 : (Cond.fieldLink "MailHeadsModel" (61 : Nat) "MailHeadsModel" "groupOf" "[I") ∈ tb_all := tb_in 1038 (by decide +kernel) rfl
theorem tw_947 : (Cond.fieldLink "MailHeadsModel" (347 : Nat) "MailHeadsModel" "parameters" "I") ∈ tb_all := tb_in 1039 (by decide +kernel) rfl
theorem tw_948 : (Cond.fieldLink "MailHeadsModel" (64 : Nat) "MailHeadsModel" "parameterFrom" "[I") ∈ tb_all := tb_in 1040 (by decide +kernel) rfl
theorem tw_949 : (Cond.fieldLink "MailHeadsModel" (67 : Nat) "MailHeadsModel" "parameterTo" "[I") ∈ tb_all := tb_in 1041 (by decide +kernel) rfl
theorem tw_950 : (Cond.fieldLink "MailHeadsModel" (70 : Nat) "MailHeadsModel" "piece" "[I") ∈ tb_all := tb_in 1042 (by decide +kernel) rfl
theorem tw_951 : (Cond.fieldLink "MailHeadsModel" (73 : Nat) "MailHeadsModel" "coded" "[Z") ∈ tb_all := tb_in 1043 (by decide +kernel) rfl
theorem tw_952 : (Cond.fieldLink "MailHeadsModel" (77 : Nat) "MailHeadsModel" "valueFrom" "[I") ∈ tb_all := tb_in 1044 (by decide +kernel) rfl
theorem tw_953 : (Cond.fieldLink "MailHeadsModel" (80 : Nat) "MailHeadsModel" "valueTo" "[I") ∈ tb_all := tb_in 1045 (by decide +kernel) rfl
theorem tw_954 : (Cond.fieldLink "MailHeadsModel" (83 : Nat) "MailHeadsModel" "typeBytes" "[I") ∈ tb_all := tb_in 1046 (by decide +kernel) rfl
theorem tw_955 : (Cond.fieldLink "MailHeadsModel" (86 : Nat) "MailHeadsModel" "hand" "[I") ∈ tb_all := tb_in 1047 (by decide +kernel) rfl
theorem tw_956 : (Cond.fieldLink "MailHeadsModel" (89 : Nat) "MailHeadsModel" "charset" "[I") ∈ tb_all := tb_in 1048 (by decide +kernel) rfl
theorem tw_957 : (Cond.fieldLink "MailHeadsModel" (92 : Nat) "MailHeadsModel" "handLong" "I") ∈ tb_all := tb_in 1049 (by decide +kernel) rfl
theorem tw_958 : (Cond.fieldLink "MailHeadsModel" (96 : Nat) "MailHeadsModel" "charsetLong" "I") ∈ tb_all := tb_in 1050 (by decide +kernel) rfl
theorem tw_959 : (Cond.fieldLink "MailHeadsModel" (143 : Nat) "MailHeadsModel" "p" "I") ∈ tb_all := tb_in 1051 (by decide +kernel) rfl
theorem tw_960 : (Cond.fieldLink "MailHeadsModel" (146 : Nat) "MailHeadsModel" "valueEnd" "I") ∈ tb_all := tb_in 1052 (by decide +kernel) rfl
theorem tw_961 : (Cond.fieldLink "MailHeadsModel" (165 : Nat) "MailHeadsModel" "ofType" "Z") ∈ tb_all := tb_in 1053 (by decide +kernel) rfl
theorem tw_962 : (Cond.fieldLink "MailHeadsModel" (221 : Nat) "MailHeadsModel" "localEnd" "I") ∈ tb_all := tb_in 1054 (by decide +kernel) rfl
theorem tw_963 : (Cond.fieldLink "MailHeadsModel" (224 : Nat) "MailHeadsModel" "domainFrom" "I") ∈ tb_all := tb_in 1055 (by decide +kernel) rfl
theorem tw_964 : (Cond.fieldLink "MailHeadsModel" (265 : Nat) "MailHeadsModel" "w" "I") ∈ tb_all := tb_in 1056 (by decide +kernel) rfl
theorem tw_1056 : (Cond.arrayClass FieldType.boolean) ∈ tb_all := tb_in 1148 (by decide +kernel) rfl
theorem tw_1065 : (Cond.methodLink "MailHeadsModel" (102 : Nat) ({ cls := "MailHeadsModel", name := "readyWord", desc := "(II)V" } : MethodName)) ∈ tb_all := tb_in 1157 (by decide +kernel) rfl
theorem tw_1067 : (Cond.instanceMethod ({ cls := "MailHeadsModel", name := "readyWord", desc := "(II)V" } : MethodName)) ∈ tb_all := tb_in 1159 (by decide +kernel) rfl
theorem tw_1068 : (Cond.code ({ cls := "MailHeadsModel", name := "readyWord", desc := "(II)V" } : MethodName) prog_11_method_3_code (4 : Nat) (Option.none : Option Jvm.ClassFile.FieldType)) ∈ tb_all := tb_in 1160 (by decide +kernel) rfl
theorem tw_1077 : (Cond.methodLink "MailHeadsModel" (125 : Nat) ({ cls := "MailHeadsModel", name := "colonOf", desc := "(II)I" } : MethodName)) ∈ tb_all := tb_in 1169 (by decide +kernel) rfl
theorem tw_1079 : (Cond.instanceMethod ({ cls := "MailHeadsModel", name := "colonOf", desc := "(II)I" } : MethodName)) ∈ tb_all := tb_in 1171 (by decide +kernel) rfl
theorem tw_1080 : (Cond.code ({ cls := "MailHeadsModel", name := "colonOf", desc := "(II)I" } : MethodName) prog_11_method_9_code (4 : Nat) (Option.some FieldType.int)) ∈ tb_all := tb_in 1172 (by decide +kernel) rfl
theorem tw_1081 : (Cond.methodLink "MailHeadsModel" (109 : Nat) ({ cls := "MailHeadsModel", name := "isBlank", desc := "(I)Z" } : MethodName)) ∈ tb_all := tb_in 1173 (by decide +kernel) rfl
theorem tw_1082 : (Cond.static ({ cls := "MailHeadsModel", name := "isBlank", desc := "(I)Z" } : MethodName)) ∈ tb_all := tb_in 1174 (by decide +kernel) rfl
theorem tw_1083 : (Cond.code ({ cls := "MailHeadsModel", name := "isBlank", desc := "(I)Z" } : MethodName) prog_11_method_6_code (1 : Nat) (Option.some FieldType.boolean)) ∈ tb_all := tb_in 1175 (by decide +kernel) rfl
theorem tw_1084 : (Cond.methodLink "MailHeadsModel" (119 : Nat) ({ cls := "MailHeadsModel", name := "keep", desc := "(II)V" } : MethodName)) ∈ tb_all := tb_in 1176 (by decide +kernel) rfl
theorem tw_1086 : (Cond.instanceMethod ({ cls := "MailHeadsModel", name := "keep", desc := "(II)V" } : MethodName)) ∈ tb_all := tb_in 1178 (by decide +kernel) rfl
theorem tw_1087 : (Cond.code ({ cls := "MailHeadsModel", name := "keep", desc := "(II)V" } : MethodName) prog_11_method_10_code (4 : Nat) (Option.none : Option Jvm.ClassFile.FieldType)) ∈ tb_all := tb_in 1179 (by decide +kernel) rfl
theorem tw_1088 : (Cond.methodLink "MailHeadsModel" (129 : Nat) ({ cls := "MailHeadsModel", name := "addField", desc := "(III)V" } : MethodName)) ∈ tb_all := tb_in 1180 (by decide +kernel) rfl
theorem tw_1090 : (Cond.instanceMethod ({ cls := "MailHeadsModel", name := "addField", desc := "(III)V" } : MethodName)) ∈ tb_all := tb_in 1182 (by decide +kernel) rfl
theorem tw_1091 : (Cond.code ({ cls := "MailHeadsModel", name := "addField", desc := "(III)V" } : MethodName) prog_11_method_11_code (5 : Nat) (Option.none : Option Jvm.ClassFile.FieldType)) ∈ tb_all := tb_in 1183 (by decide +kernel) rfl
theorem tw_1100 : (Cond.methodLink "MailHeadsModel" (133 : Nat) ({ cls := "MailHeadsModel", name := "small", desc := "(I)I" } : MethodName)) ∈ tb_all := tb_in 1192 (by decide +kernel) rfl
theorem tw_1101 : (Cond.static ({ cls := "MailHeadsModel", name := "small", desc := "(I)I" } : MethodName)) ∈ tb_all := tb_in 1193 (by decide +kernel) rfl
theorem tw_1102 : (Cond.code ({ cls := "MailHeadsModel", name := "small", desc := "(I)I" } : MethodName) prog_11_method_7_code (1 : Nat) (Option.some FieldType.int)) ∈ tb_all := tb_in 1194 (by decide +kernel) rfl
theorem tw_1104 : (Cond.instanceMethod ({ cls := "MailHeadsModel", name := "field", desc := "(II)I" } : MethodName)) ∈ tb_all := tb_in 1196 (by decide +kernel) rfl
theorem tw_1105 : (Cond.selects "MailHeadsModel" ({ cls := "MailHeadsModel", name := "field", desc := "(II)I" } : MethodName) ({ cls := "MailHeadsModel", name := "field", desc := "(II)I" } : MethodName)) ∈ tb_all := tb_in 1197 (by decide +kernel) rfl
theorem tw_1106 : (Cond.code ({ cls := "MailHeadsModel", name := "field", desc := "(II)I" } : MethodName) prog_11_method_16_code (3 : Nat) (Option.some FieldType.int)) ∈ tb_all := tb_in 1198 (by decide +kernel) rfl
theorem tw_1107 : (Cond.methodLink "MailHeadsModel" (137 : Nat) ({ cls := "MailHeadsModel", name := "isField", desc := "(I)Z" } : MethodName)) ∈ tb_all := tb_in 1199 (by decide +kernel) rfl
theorem tw_1109 : (Cond.instanceMethod ({ cls := "MailHeadsModel", name := "isField", desc := "(I)Z" } : MethodName)) ∈ tb_all := tb_in 1201 (by decide +kernel) rfl
theorem tw_1110 : (Cond.code ({ cls := "MailHeadsModel", name := "isField", desc := "(I)Z" } : MethodName) prog_11_method_15_code (2 : Nat) (Option.some FieldType.boolean)) ∈ tb_all := tb_in 1202 (by decide +kernel) rfl
theorem tw_1115 : (Cond.methodLink "MailHeadsModel" (140 : Nat) ({ cls := "MailHeadsModel", name := "field", desc := "(II)I" } : MethodName)) ∈ tb_all := tb_in 1207 (by decide +kernel) rfl
theorem tw_1117 : (Cond.instanceMethod ({ cls := "MailHeadsModel", name := "length", desc := "(II)I" } : MethodName)) ∈ tb_all := tb_in 1209 (by decide +kernel) rfl
theorem tw_1118 : (Cond.selects "MailHeadsModel" ({ cls := "MailHeadsModel", name := "length", desc := "(II)I" } : MethodName) ({ cls := "MailHeadsModel", name := "length", desc := "(II)I" } : MethodName)) ∈ tb_all := tb_in 1210 (by decide +kernel) rfl
theorem tw_1119 : (Cond.code ({ cls := "MailHeadsModel", name := "length", desc := "(II)I" } : MethodName) prog_11_method_36_code (3 : Nat) (Option.some FieldType.int)) ∈ tb_all := tb_in 1211 (by decide +kernel) rfl
theorem tw_1124 : (Cond.methodLink "MailHeadsModel" (194 : Nat) ({ cls := "MailHeadsModel", name := "length", desc := "(II)I" } : MethodName)) ∈ tb_all := tb_in 1216 (by decide +kernel) rfl
theorem tw_1129 : (Cond.methodLink "MailHeadsModel" (251 : Nat) ({ cls := "MailHeadsModel", name := "cut", desc := "(IZ)V" } : MethodName)) ∈ tb_all := tb_in 1221 (by decide +kernel) rfl
theorem tw_1131 : (Cond.instanceMethod ({ cls := "MailHeadsModel", name := "cut", desc := "(IZ)V" } : MethodName)) ∈ tb_all := tb_in 1223 (by decide +kernel) rfl
theorem tw_1132 : (Cond.code ({ cls := "MailHeadsModel", name := "cut", desc := "(IZ)V" } : MethodName) prog_11_method_25_code (4 : Nat) (Option.none : Option Jvm.ClassFile.FieldType)) ∈ tb_all := tb_in 1224 (by decide +kernel) rfl
theorem tw_1133 : (Cond.methodLink "MailHeadsModel" (169 : Nat) ({ cls := "MailHeadsModel", name := "isNothing", desc := "(I)Z" } : MethodName)) ∈ tb_all := tb_in 1225 (by decide +kernel) rfl
theorem tw_1134 : (Cond.static ({ cls := "MailHeadsModel", name := "isNothing", desc := "(I)Z" } : MethodName)) ∈ tb_all := tb_in 1226 (by decide +kernel) rfl
theorem tw_1135 : (Cond.code ({ cls := "MailHeadsModel", name := "isNothing", desc := "(I)Z" } : MethodName) prog_11_method_24_code (1 : Nat) (Option.some FieldType.boolean)) ∈ tb_all := tb_in 1227 (by decide +kernel) rfl
theorem tw_1136 : (Cond.methodLink "MailHeadsModel" (172 : Nat) ({ cls := "MailHeadsModel", name := "takeEnclosed", desc := "(II)V" } : MethodName)) ∈ tb_all := tb_in 1228 (by decide +kernel) rfl
theorem tw_1138 : (Cond.instanceMethod ({ cls := "MailHeadsModel", name := "takeEnclosed", desc := "(II)V" } : MethodName)) ∈ tb_all := tb_in 1230 (by decide +kernel) rfl
theorem tw_1139 : (Cond.code ({ cls := "MailHeadsModel", name := "takeEnclosed", desc := "(II)V" } : MethodName) prog_11_method_22_code (5 : Nat) (Option.none : Option Jvm.ClassFile.FieldType)) ∈ tb_all := tb_in 1231 (by decide +kernel) rfl
theorem tw_1140 : (Cond.methodLink "MailHeadsModel" (155 : Nat) ({ cls := "MailHeadsModel", name := "beginWord", desc := "(II)V" } : MethodName)) ∈ tb_all := tb_in 1232 (by decide +kernel) rfl
theorem tw_1142 : (Cond.instanceMethod ({ cls := "MailHeadsModel", name := "beginWord", desc := "(II)V" } : MethodName)) ∈ tb_all := tb_in 1234 (by decide +kernel) rfl
theorem tw_1143 : (Cond.code ({ cls := "MailHeadsModel", name := "beginWord", desc := "(II)V" } : MethodName) prog_11_method_19_code (3 : Nat) (Option.none : Option Jvm.ClassFile.FieldType)) ∈ tb_all := tb_in 1235 (by decide +kernel) rfl
theorem tw_1144 : (Cond.methodLink "MailHeadsModel" (158 : Nat) ({ cls := "MailHeadsModel", name := "put", desc := "(I)V" } : MethodName)) ∈ tb_all := tb_in 1236 (by decide +kernel) rfl
theorem tw_1146 : (Cond.instanceMethod ({ cls := "MailHeadsModel", name := "put", desc := "(I)V" } : MethodName)) ∈ tb_all := tb_in 1238 (by decide +kernel) rfl
theorem tw_1147 : (Cond.code ({ cls := "MailHeadsModel", name := "put", desc := "(I)V" } : MethodName) prog_11_method_21_code (2 : Nat) (Option.none : Option Jvm.ClassFile.FieldType)) ∈ tb_all := tb_in 1239 (by decide +kernel) rfl
theorem tw_1148 : (Cond.methodLink "MailHeadsModel" (162 : Nat) ({ cls := "MailHeadsModel", name := "endWord", desc := "()V" } : MethodName)) ∈ tb_all := tb_in 1240 (by decide +kernel) rfl
theorem tw_1150 : (Cond.instanceMethod ({ cls := "MailHeadsModel", name := "endWord", desc := "()V" } : MethodName)) ∈ tb_all := tb_in 1242 (by decide +kernel) rfl
theorem tw_1151 : (Cond.code ({ cls := "MailHeadsModel", name := "endWord", desc := "()V" } : MethodName) prog_11_method_20_code (1 : Nat) (Option.none : Option Jvm.ClassFile.FieldType)) ∈ tb_all := tb_in 1243 (by decide +kernel) rfl
theorem tw_1152 : (Cond.methodLink "MailHeadsModel" (175 : Nat) ({ cls := "MailHeadsModel", name := "isSign", desc := "(I)Z" } : MethodName)) ∈ tb_all := tb_in 1244 (by decide +kernel) rfl
theorem tw_1154 : (Cond.instanceMethod ({ cls := "MailHeadsModel", name := "isSign", desc := "(I)Z" } : MethodName)) ∈ tb_all := tb_in 1246 (by decide +kernel) rfl
theorem tw_1155 : (Cond.code ({ cls := "MailHeadsModel", name := "isSign", desc := "(I)Z" } : MethodName) prog_11_method_23_code (2 : Nat) (Option.some FieldType.boolean)) ∈ tb_all := tb_in 1247 (by decide +kernel) rfl
theorem tw_1156 : (Cond.methodLink "MailHeadsModel" (178 : Nat) ({ cls := "MailHeadsModel", name := "takeAtom", desc := "()V" } : MethodName)) ∈ tb_all := tb_in 1248 (by decide +kernel) rfl
theorem tw_1158 : (Cond.instanceMethod ({ cls := "MailHeadsModel", name := "takeAtom", desc := "()V" } : MethodName)) ∈ tb_all := tb_in 1250 (by decide +kernel) rfl
theorem tw_1159 : (Cond.code ({ cls := "MailHeadsModel", name := "takeAtom", desc := "()V" } : MethodName) prog_11_method_26_code (2 : Nat) (Option.none : Option Jvm.ClassFile.FieldType)) ∈ tb_all := tb_in 1251 (by decide +kernel) rfl
theorem tw_1160 : (Cond.methodLink "MailHeadsModel" (181 : Nat) ({ cls := "MailHeadsModel", name := "look", desc := "()I" } : MethodName)) ∈ tb_all := tb_in 1252 (by decide +kernel) rfl
theorem tw_1162 : (Cond.instanceMethod ({ cls := "MailHeadsModel", name := "look", desc := "()I" } : MethodName)) ∈ tb_all := tb_in 1254 (by decide +kernel) rfl
theorem tw_1163 : (Cond.code ({ cls := "MailHeadsModel", name := "look", desc := "()I" } : MethodName) prog_11_method_18_code (1 : Nat) (Option.some FieldType.int)) ∈ tb_all := tb_in 1255 (by decide +kernel) rfl
theorem tw_1164 : (Cond.methodLink "MailHeadsModel" (255 : Nat) ({ cls := "MailHeadsModel", name := "forget", desc := "(III)V" } : MethodName)) ∈ tb_all := tb_in 1256 (by decide +kernel) rfl
theorem tw_1166 : (Cond.instanceMethod ({ cls := "MailHeadsModel", name := "forget", desc := "(III)V" } : MethodName)) ∈ tb_all := tb_in 1258 (by decide +kernel) rfl
theorem tw_1167 : (Cond.code ({ cls := "MailHeadsModel", name := "forget", desc := "(III)V" } : MethodName) prog_11_method_29_code (5 : Nat) (Option.none : Option Jvm.ClassFile.FieldType)) ∈ tb_all := tb_in 1259 (by decide +kernel) rfl
theorem tw_1168 : (Cond.methodLink "MailHeadsModel" (200 : Nat) ({ cls := "MailHeadsModel", name := "is", desc := "(II)Z" } : MethodName)) ∈ tb_all := tb_in 1260 (by decide +kernel) rfl
theorem tw_1170 : (Cond.instanceMethod ({ cls := "MailHeadsModel", name := "is", desc := "(II)Z" } : MethodName)) ∈ tb_all := tb_in 1262 (by decide +kernel) rfl
theorem tw_1171 : (Cond.code ({ cls := "MailHeadsModel", name := "is", desc := "(II)Z" } : MethodName) prog_11_method_27_code (3 : Nat) (Option.some FieldType.boolean)) ∈ tb_all := tb_in 1263 (by decide +kernel) rfl
theorem tw_1172 : (Cond.methodLink "MailHeadsModel" (258 : Nat) ({ cls := "MailHeadsModel", name := "beginGroup", desc := "(II)V" } : MethodName)) ∈ tb_all := tb_in 1264 (by decide +kernel) rfl
theorem tw_1174 : (Cond.instanceMethod ({ cls := "MailHeadsModel", name := "beginGroup", desc := "(II)V" } : MethodName)) ∈ tb_all := tb_in 1266 (by decide +kernel) rfl
theorem tw_1175 : (Cond.code ({ cls := "MailHeadsModel", name := "beginGroup", desc := "(II)V" } : MethodName) prog_11_method_47_code (4 : Nat) (Option.none : Option Jvm.ClassFile.FieldType)) ∈ tb_all := tb_in 1267 (by decide +kernel) rfl
theorem tw_1176 : (Cond.methodLink "MailHeadsModel" (233 : Nat) ({ cls := "MailHeadsModel", name := "isName", desc := "(II)Z" } : MethodName)) ∈ tb_all := tb_in 1268 (by decide +kernel) rfl
theorem tw_1178 : (Cond.instanceMethod ({ cls := "MailHeadsModel", name := "isName", desc := "(II)Z" } : MethodName)) ∈ tb_all := tb_in 1270 (by decide +kernel) rfl
theorem tw_1179 : (Cond.code ({ cls := "MailHeadsModel", name := "isName", desc := "(II)Z" } : MethodName) prog_11_method_38_code (5 : Nat) (Option.some FieldType.boolean)) ∈ tb_all := tb_in 1271 (by decide +kernel) rfl
theorem tw_1180 : (Cond.methodLink "MailHeadsModel" (197 : Nat) ({ cls := "MailHeadsModel", name := "next", desc := "(II)I" } : MethodName)) ∈ tb_all := tb_in 1272 (by decide +kernel) rfl
theorem tw_1182 : (Cond.instanceMethod ({ cls := "MailHeadsModel", name := "next", desc := "(II)I" } : MethodName)) ∈ tb_all := tb_in 1274 (by decide +kernel) rfl
theorem tw_1183 : (Cond.code ({ cls := "MailHeadsModel", name := "next", desc := "(II)I" } : MethodName) prog_11_method_28_code (4 : Nat) (Option.some FieldType.int)) ∈ tb_all := tb_in 1275 (by decide +kernel) rfl
theorem tw_1184 : (Cond.methodLink "MailHeadsModel" (239 : Nat) ({ cls := "MailHeadsModel", name := "makeName", desc := "(III)V" } : MethodName)) ∈ tb_all := tb_in 1276 (by decide +kernel) rfl
theorem tw_1186 : (Cond.instanceMethod ({ cls := "MailHeadsModel", name := "makeName", desc := "(III)V" } : MethodName)) ∈ tb_all := tb_in 1278 (by decide +kernel) rfl
theorem tw_1187 : (Cond.code ({ cls := "MailHeadsModel", name := "makeName", desc := "(III)V" } : MethodName) prog_11_method_39_code (6 : Nat) (Option.none : Option Jvm.ClassFile.FieldType)) ∈ tb_all := tb_in 1279 (by decide +kernel) rfl
theorem tw_1188 : (Cond.methodLink "MailHeadsModel" (204 : Nat) ({ cls := "MailHeadsModel", name := "beginPart", desc := "(I)V" } : MethodName)) ∈ tb_all := tb_in 1280 (by decide +kernel) rfl
theorem tw_1190 : (Cond.instanceMethod ({ cls := "MailHeadsModel", name := "beginPart", desc := "(I)V" } : MethodName)) ∈ tb_all := tb_in 1282 (by decide +kernel) rfl
theorem tw_1191 : (Cond.code ({ cls := "MailHeadsModel", name := "beginPart", desc := "(I)V" } : MethodName) prog_11_method_32_code (3 : Nat) (Option.none : Option Jvm.ClassFile.FieldType)) ∈ tb_all := tb_in 1283 (by decide +kernel) rfl
theorem tw_1192 : (Cond.methodLink "MailHeadsModel" (188 : Nat) ({ cls := "MailHeadsModel", name := "roomAt", desc := "(I)I" } : MethodName)) ∈ tb_all := tb_in 1284 (by decide +kernel) rfl
theorem tw_1194 : (Cond.instanceMethod ({ cls := "MailHeadsModel", name := "roomAt", desc := "(I)I" } : MethodName)) ∈ tb_all := tb_in 1286 (by decide +kernel) rfl
theorem tw_1195 : (Cond.code ({ cls := "MailHeadsModel", name := "roomAt", desc := "(I)I" } : MethodName) prog_11_method_31_code (2 : Nat) (Option.some FieldType.int)) ∈ tb_all := tb_in 1287 (by decide +kernel) rfl
theorem tw_1196 : (Cond.methodLink "MailHeadsModel" (185 : Nat) ({ cls := "MailHeadsModel", name := "areaOf", desc := "(I)I" } : MethodName)) ∈ tb_all := tb_in 1288 (by decide +kernel) rfl
theorem tw_1197 : (Cond.static ({ cls := "MailHeadsModel", name := "areaOf", desc := "(I)I" } : MethodName)) ∈ tb_all := tb_in 1289 (by decide +kernel) rfl
theorem tw_1198 : (Cond.code ({ cls := "MailHeadsModel", name := "areaOf", desc := "(I)I" } : MethodName) prog_11_method_30_code (1 : Nat) (Option.some FieldType.int)) ∈ tb_all := tb_in 1290 (by decide +kernel) rfl
theorem tw_1199 : (Cond.methodLink "MailHeadsModel" (191 : Nat) ({ cls := "MailHeadsModel", name := "add", desc := "(II)V" } : MethodName)) ∈ tb_all := tb_in 1291 (by decide +kernel) rfl
theorem tw_1201 : (Cond.instanceMethod ({ cls := "MailHeadsModel", name := "add", desc := "(II)V" } : MethodName)) ∈ tb_all := tb_in 1293 (by decide +kernel) rfl
theorem tw_1202 : (Cond.code ({ cls := "MailHeadsModel", name := "add", desc := "(II)V" } : MethodName) prog_11_method_33_code (3 : Nat) (Option.none : Option Jvm.ClassFile.FieldType)) ∈ tb_all := tb_in 1294 (by decide +kernel) rfl
theorem tw_1203 : (Cond.methodLink "MailHeadsModel" (207 : Nat) ({ cls := "MailHeadsModel", name := "addWord", desc := "(II)V" } : MethodName)) ∈ tb_all := tb_in 1295 (by decide +kernel) rfl
theorem tw_1205 : (Cond.instanceMethod ({ cls := "MailHeadsModel", name := "addWord", desc := "(II)V" } : MethodName)) ∈ tb_all := tb_in 1297 (by decide +kernel) rfl
theorem tw_1206 : (Cond.code ({ cls := "MailHeadsModel", name := "addWord", desc := "(II)V" } : MethodName) prog_11_method_34_code (4 : Nat) (Option.none : Option Jvm.ClassFile.FieldType)) ∈ tb_all := tb_in 1298 (by decide +kernel) rfl
theorem tw_1207 : (Cond.methodLink "MailHeadsModel" (210 : Nat) ({ cls := "MailHeadsModel", name := "endPart", desc := "(I)V" } : MethodName)) ∈ tb_all := tb_in 1299 (by decide +kernel) rfl
theorem tw_1209 : (Cond.instanceMethod ({ cls := "MailHeadsModel", name := "endPart", desc := "(I)V" } : MethodName)) ∈ tb_all := tb_in 1301 (by decide +kernel) rfl
theorem tw_1210 : (Cond.code ({ cls := "MailHeadsModel", name := "endPart", desc := "(I)V" } : MethodName) prog_11_method_35_code (2 : Nat) (Option.none : Option Jvm.ClassFile.FieldType)) ∈ tb_all := tb_in 1302 (by decide +kernel) rfl
theorem tw_1211 : (Cond.methodLink "MailHeadsModel" (261 : Nat) ({ cls := "MailHeadsModel", name := "takeMailbox", desc := "(IIZI)V" } : MethodName)) ∈ tb_all := tb_in 1303 (by decide +kernel) rfl
theorem tw_1213 : (Cond.instanceMethod ({ cls := "MailHeadsModel", name := "takeMailbox", desc := "(IIZI)V" } : MethodName)) ∈ tb_all := tb_in 1305 (by decide +kernel) rfl
theorem tw_1214 : (Cond.code ({ cls := "MailHeadsModel", name := "takeMailbox", desc := "(IIZI)V" } : MethodName) prog_11_method_46_code (11 : Nat) (Option.none : Option Jvm.ClassFile.FieldType)) ∈ tb_all := tb_in 1306 (by decide +kernel) rfl
theorem tw_1215 : (Cond.methodLink "MailHeadsModel" (230 : Nat) ({ cls := "MailHeadsModel", name := "behindRoute", desc := "(II)I" } : MethodName)) ∈ tb_all := tb_in 1307 (by decide +kernel) rfl
theorem tw_1217 : (Cond.instanceMethod ({ cls := "MailHeadsModel", name := "behindRoute", desc := "(II)I" } : MethodName)) ∈ tb_all := tb_in 1309 (by decide +kernel) rfl
theorem tw_1218 : (Cond.code ({ cls := "MailHeadsModel", name := "behindRoute", desc := "(II)I" } : MethodName) prog_11_method_45_code (4 : Nat) (Option.some FieldType.int)) ∈ tb_all := tb_in 1310 (by decide +kernel) rfl
theorem tw_1219 : (Cond.methodLink "MailHeadsModel" (236 : Nat) ({ cls := "MailHeadsModel", name := "isSpec", desc := "(II)Z" } : MethodName)) ∈ tb_all := tb_in 1311 (by decide +kernel) rfl
theorem tw_1221 : (Cond.instanceMethod ({ cls := "MailHeadsModel", name := "isSpec", desc := "(II)Z" } : MethodName)) ∈ tb_all := tb_in 1313 (by decide +kernel) rfl
theorem tw_1222 : (Cond.code ({ cls := "MailHeadsModel", name := "isSpec", desc := "(II)Z" } : MethodName) prog_11_method_42_code (6 : Nat) (Option.some FieldType.boolean)) ∈ tb_all := tb_in 1314 (by decide +kernel) rfl
theorem tw_1223 : (Cond.methodLink "MailHeadsModel" (217 : Nat) ({ cls := "MailHeadsModel", name := "rowEnd", desc := "(IIZ)I" } : MethodName)) ∈ tb_all := tb_in 1315 (by decide +kernel) rfl
theorem tw_1225 : (Cond.instanceMethod ({ cls := "MailHeadsModel", name := "rowEnd", desc := "(IIZ)I" } : MethodName)) ∈ tb_all := tb_in 1317 (by decide +kernel) rfl
theorem tw_1226 : (Cond.code ({ cls := "MailHeadsModel", name := "rowEnd", desc := "(IIZ)I" } : MethodName) prog_11_method_40_code (8 : Nat) (Option.some FieldType.int)) ∈ tb_all := tb_in 1318 (by decide +kernel) rfl
theorem tw_1227 : (Cond.methodLink "MailHeadsModel" (213 : Nat) ({ cls := "MailHeadsModel", name := "isRowWord", desc := "(IIZ)Z" } : MethodName)) ∈ tb_all := tb_in 1319 (by decide +kernel) rfl
theorem tw_1229 : (Cond.instanceMethod ({ cls := "MailHeadsModel", name := "isRowWord", desc := "(IIZ)Z" } : MethodName)) ∈ tb_all := tb_in 1321 (by decide +kernel) rfl
theorem tw_1230 : (Cond.code ({ cls := "MailHeadsModel", name := "isRowWord", desc := "(IIZ)Z" } : MethodName) prog_11_method_41_code (4 : Nat) (Option.some FieldType.boolean)) ∈ tb_all := tb_in 1322 (by decide +kernel) rfl
theorem tw_1231 : (Cond.methodLink "MailHeadsModel" (242 : Nat) ({ cls := "MailHeadsModel", name := "makeComment", desc := "(II)V" } : MethodName)) ∈ tb_all := tb_in 1323 (by decide +kernel) rfl
theorem tw_1233 : (Cond.instanceMethod ({ cls := "MailHeadsModel", name := "makeComment", desc := "(II)V" } : MethodName)) ∈ tb_all := tb_in 1325 (by decide +kernel) rfl
theorem tw_1234 : (Cond.code ({ cls := "MailHeadsModel", name := "makeComment", desc := "(II)V" } : MethodName) prog_11_method_44_code (5 : Nat) (Option.none : Option Jvm.ClassFile.FieldType)) ∈ tb_all := tb_in 1326 (by decide +kernel) rfl
theorem tw_1235 : (Cond.methodLink "MailHeadsModel" (245 : Nat) ({ cls := "MailHeadsModel", name := "makeWords", desc := "(III)V" } : MethodName)) ∈ tb_all := tb_in 1327 (by decide +kernel) rfl
theorem tw_1237 : (Cond.instanceMethod ({ cls := "MailHeadsModel", name := "makeWords", desc := "(III)V" } : MethodName)) ∈ tb_all := tb_in 1329 (by decide +kernel) rfl
theorem tw_1238 : (Cond.code ({ cls := "MailHeadsModel", name := "makeWords", desc := "(III)V" } : MethodName) prog_11_method_43_code (5 : Nat) (Option.none : Option Jvm.ClassFile.FieldType)) ∈ tb_all := tb_in 1330 (by decide +kernel) rfl
theorem tw_1251 : (Cond.constantLong "MailHeadsModel" (320 : Nat) (-9223372036854775808 : Int64)) ∈ tb_all := tb_in 1343 (by decide +kernel) rfl
theorem tw_1252 : (Cond.methodLink "MailHeadsModel" (294 : Nat) ({ cls := "MailHeadsModel", name := "isDigits", desc := "(III)Z" } : MethodName)) ∈ tb_all := tb_in 1344 (by decide +kernel) rfl
theorem tw_1254 : (Cond.instanceMethod ({ cls := "MailHeadsModel", name := "isDigits", desc := "(III)Z" } : MethodName)) ∈ tb_all := tb_in 1346 (by decide +kernel) rfl
theorem tw_1255 : (Cond.code ({ cls := "MailHeadsModel", name := "isDigits", desc := "(III)Z" } : MethodName) prog_11_method_53_code (5 : Nat) (Option.some FieldType.boolean)) ∈ tb_all := tb_in 1347 (by decide +kernel) rfl
theorem tw_1256 : (Cond.methodLink "MailHeadsModel" (268 : Nat) ({ cls := "MailHeadsModel", name := "longOf", desc := "(I)I" } : MethodName)) ∈ tb_all := tb_in 1348 (by decide +kernel) rfl
theorem tw_1258 : (Cond.instanceMethod ({ cls := "MailHeadsModel", name := "longOf", desc := "(I)I" } : MethodName)) ∈ tb_all := tb_in 1350 (by decide +kernel) rfl
theorem tw_1259 : (Cond.code ({ cls := "MailHeadsModel", name := "longOf", desc := "(I)I" } : MethodName) prog_11_method_52_code (2 : Nat) (Option.some FieldType.int)) ∈ tb_all := tb_in 1351 (by decide +kernel) rfl
theorem tw_1260 : (Cond.methodLink "MailHeadsModel" (271 : Nat) ({ cls := "MailHeadsModel", name := "isDigit", desc := "(I)Z" } : MethodName)) ∈ tb_all := tb_in 1352 (by decide +kernel) rfl
theorem tw_1261 : (Cond.static ({ cls := "MailHeadsModel", name := "isDigit", desc := "(I)Z" } : MethodName)) ∈ tb_all := tb_in 1353 (by decide +kernel) rfl
theorem tw_1262 : (Cond.code ({ cls := "MailHeadsModel", name := "isDigit", desc := "(I)Z" } : MethodName) prog_11_method_8_code (1 : Nat) (Option.some FieldType.boolean)) ∈ tb_all := tb_in 1354 (by decide +kernel) rfl
theorem tw_1263 : (Cond.methodLink "MailHeadsModel" (297 : Nat) ({ cls := "MailHeadsModel", name := "number", desc := "(I)I" } : MethodName)) ∈ tb_all := tb_in 1355 (by decide +kernel) rfl
theorem tw_1265 : (Cond.instanceMethod ({ cls := "MailHeadsModel", name := "number", desc := "(I)I" } : MethodName)) ∈ tb_all := tb_in 1357 (by decide +kernel) rfl
theorem tw_1266 : (Cond.code ({ cls := "MailHeadsModel", name := "number", desc := "(I)I" } : MethodName) prog_11_method_55_code (2 : Nat) (Option.some FieldType.int)) ∈ tb_all := tb_in 1358 (by decide +kernel) rfl
theorem tw_1267 : (Cond.methodLink "MailHeadsModel" (275 : Nat) ({ cls := "MailHeadsModel", name := "numberOf", desc := "(II)I" } : MethodName)) ∈ tb_all := tb_in 1359 (by decide +kernel) rfl
theorem tw_1269 : (Cond.instanceMethod ({ cls := "MailHeadsModel", name := "numberOf", desc := "(II)I" } : MethodName)) ∈ tb_all := tb_in 1361 (by decide +kernel) rfl
theorem tw_1270 : (Cond.code ({ cls := "MailHeadsModel", name := "numberOf", desc := "(II)I" } : MethodName) prog_11_method_54_code (5 : Nat) (Option.some FieldType.int)) ∈ tb_all := tb_in 1362 (by decide +kernel) rfl
theorem tw_1271 : (Cond.constant "MailHeadsModel" (274 : Nat) (100000 : Int32)) ∈ tb_all := tb_in 1363 (by decide +kernel) rfl
theorem tw_1272 : (Cond.methodLink "MailHeadsModel" (322 : Nat) ({ cls := "MailHeadsModel", name := "step", desc := "()V" } : MethodName)) ∈ tb_all := tb_in 1364 (by decide +kernel) rfl
theorem tw_1274 : (Cond.instanceMethod ({ cls := "MailHeadsModel", name := "step", desc := "()V" } : MethodName)) ∈ tb_all := tb_in 1366 (by decide +kernel) rfl
theorem tw_1275 : (Cond.code ({ cls := "MailHeadsModel", name := "step", desc := "()V" } : MethodName) prog_11_method_51_code (1 : Nat) (Option.none : Option Jvm.ClassFile.FieldType)) ∈ tb_all := tb_in 1367 (by decide +kernel) rfl
theorem tw_1276 : (Cond.methodLink "MailHeadsModel" (325 : Nat) ({ cls := "MailHeadsModel", name := "monthOf", desc := "(I)I" } : MethodName)) ∈ tb_all := tb_in 1368 (by decide +kernel) rfl
theorem tw_1278 : (Cond.instanceMethod ({ cls := "MailHeadsModel", name := "monthOf", desc := "(I)I" } : MethodName)) ∈ tb_all := tb_in 1370 (by decide +kernel) rfl
theorem tw_1279 : (Cond.code ({ cls := "MailHeadsModel", name := "monthOf", desc := "(I)I" } : MethodName) prog_11_method_57_code (2 : Nat) (Option.some FieldType.int)) ∈ tb_all := tb_in 1371 (by decide +kernel) rfl
theorem tw_1280 : (Cond.constant "MailHeadsModel" (278 : Nat) (6971758 : Int32)) ∈ tb_all := tb_in 1372 (by decide +kernel) rfl
theorem tw_1281 : (Cond.methodLink "MailHeadsModel" (279 : Nat) ({ cls := "MailHeadsModel", name := "isThree", desc := "(III)Z" } : MethodName)) ∈ tb_all := tb_in 1373 (by decide +kernel) rfl
theorem tw_1283 : (Cond.instanceMethod ({ cls := "MailHeadsModel", name := "isThree", desc := "(III)Z" } : MethodName)) ∈ tb_all := tb_in 1375 (by decide +kernel) rfl
theorem tw_1284 : (Cond.code ({ cls := "MailHeadsModel", name := "isThree", desc := "(III)Z" } : MethodName) prog_11_method_56_code (5 : Nat) (Option.some FieldType.boolean)) ∈ tb_all := tb_in 1376 (by decide +kernel) rfl
theorem tw_1285 : (Cond.constant "MailHeadsModel" (283 : Nat) (6710626 : Int32)) ∈ tb_all := tb_in 1377 (by decide +kernel) rfl
theorem tw_1286 : (Cond.constant "MailHeadsModel" (284 : Nat) (7168370 : Int32)) ∈ tb_all := tb_in 1378 (by decide +kernel) rfl
theorem tw_1287 : (Cond.constant "MailHeadsModel" (285 : Nat) (6385778 : Int32)) ∈ tb_all := tb_in 1379 (by decide +kernel) rfl
theorem tw_1288 : (Cond.constant "MailHeadsModel" (286 : Nat) (7168377 : Int32)) ∈ tb_all := tb_in 1380 (by decide +kernel) rfl
theorem tw_1289 : (Cond.constant "MailHeadsModel" (287 : Nat) (6976878 : Int32)) ∈ tb_all := tb_in 1381 (by decide +kernel) rfl
theorem tw_1290 : (Cond.constant "MailHeadsModel" (288 : Nat) (6976876 : Int32)) ∈ tb_all := tb_in 1382 (by decide +kernel) rfl
theorem tw_1291 : (Cond.constant "MailHeadsModel" (289 : Nat) (6387047 : Int32)) ∈ tb_all := tb_in 1383 (by decide +kernel) rfl
theorem tw_1292 : (Cond.constant "MailHeadsModel" (290 : Nat) (7562608 : Int32)) ∈ tb_all := tb_in 1384 (by decide +kernel) rfl
theorem tw_1293 : (Cond.constant "MailHeadsModel" (291 : Nat) (7299956 : Int32)) ∈ tb_all := tb_in 1385 (by decide +kernel) rfl
theorem tw_1294 : (Cond.constant "MailHeadsModel" (292 : Nat) (7237494 : Int32)) ∈ tb_all := tb_in 1386 (by decide +kernel) rfl
theorem tw_1295 : (Cond.constant "MailHeadsModel" (293 : Nat) (6579555 : Int32)) ∈ tb_all := tb_in 1387 (by decide +kernel) rfl
theorem tw_1296 : (Cond.methodLink "MailHeadsModel" (328 : Nat) ({ cls := "MailHeadsModel", name := "yearOf", desc := "(I)I" } : MethodName)) ∈ tb_all := tb_in 1388 (by decide +kernel) rfl
theorem tw_1298 : (Cond.instanceMethod ({ cls := "MailHeadsModel", name := "yearOf", desc := "(I)I" } : MethodName)) ∈ tb_all := tb_in 1390 (by decide +kernel) rfl
theorem tw_1299 : (Cond.code ({ cls := "MailHeadsModel", name := "yearOf", desc := "(I)I" } : MethodName) prog_11_method_58_code (4 : Nat) (Option.some FieldType.int)) ∈ tb_all := tb_in 1391 (by decide +kernel) rfl
theorem tw_1300 : (Cond.methodLink "MailHeadsModel" (315 : Nat) ({ cls := "MailHeadsModel", name := "daysOf", desc := "(II)I" } : MethodName)) ∈ tb_all := tb_in 1392 (by decide +kernel) rfl
theorem tw_1301 : (Cond.static ({ cls := "MailHeadsModel", name := "daysOf", desc := "(II)I" } : MethodName)) ∈ tb_all := tb_in 1393 (by decide +kernel) rfl
theorem tw_1302 : (Cond.code ({ cls := "MailHeadsModel", name := "daysOf", desc := "(II)I" } : MethodName) prog_11_method_60_code (2 : Nat) (Option.some FieldType.int)) ∈ tb_all := tb_in 1394 (by decide +kernel) rfl
theorem tw_1303 : (Cond.methodLink "MailHeadsModel" (300 : Nat) ({ cls := "MailHeadsModel", name := "isLeap", desc := "(I)Z" } : MethodName)) ∈ tb_all := tb_in 1395 (by decide +kernel) rfl
theorem tw_1304 : (Cond.static ({ cls := "MailHeadsModel", name := "isLeap", desc := "(I)Z" } : MethodName)) ∈ tb_all := tb_in 1396 (by decide +kernel) rfl
theorem tw_1305 : (Cond.code ({ cls := "MailHeadsModel", name := "isLeap", desc := "(I)Z" } : MethodName) prog_11_method_59_code (1 : Nat) (Option.some FieldType.boolean)) ∈ tb_all := tb_in 1397 (by decide +kernel) rfl
theorem tw_1306 : (Cond.methodLink "MailHeadsModel" (331 : Nat) ({ cls := "MailHeadsModel", name := "two", desc := "(I)I" } : MethodName)) ∈ tb_all := tb_in 1398 (by decide +kernel) rfl
theorem tw_1308 : (Cond.instanceMethod ({ cls := "MailHeadsModel", name := "two", desc := "(I)I" } : MethodName)) ∈ tb_all := tb_in 1400 (by decide +kernel) rfl
theorem tw_1309 : (Cond.code ({ cls := "MailHeadsModel", name := "two", desc := "(I)I" } : MethodName) prog_11_method_62_code (3 : Nat) (Option.some FieldType.int)) ∈ tb_all := tb_in 1401 (by decide +kernel) rfl
theorem tw_1310 : (Cond.methodLink "MailHeadsModel" (334 : Nat) ({ cls := "MailHeadsModel", name := "dayNumber", desc := "(III)J" } : MethodName)) ∈ tb_all := tb_in 1402 (by decide +kernel) rfl
theorem tw_1312 : (Cond.instanceMethod ({ cls := "MailHeadsModel", name := "dayNumber", desc := "(III)J" } : MethodName)) ∈ tb_all := tb_in 1404 (by decide +kernel) rfl
theorem tw_1313 : (Cond.code ({ cls := "MailHeadsModel", name := "dayNumber", desc := "(III)J" } : MethodName) prog_11_method_63_code (7 : Nat) (Option.some FieldType.long)) ∈ tb_all := tb_in 1405 (by decide +kernel) rfl
theorem tw_1314 : (Cond.constantLong "MailHeadsModel" (311 : Nat) (366 : Int64)) ∈ tb_all := tb_in 1406 (by decide +kernel) rfl
theorem tw_1315 : (Cond.constantLong "MailHeadsModel" (313 : Nat) (365 : Int64)) ∈ tb_all := tb_in 1407 (by decide +kernel) rfl
theorem tw_1316 : (Cond.constantLong "MailHeadsModel" (318 : Nat) (25567 : Int64)) ∈ tb_all := tb_in 1408 (by decide +kernel) rfl
theorem tw_1317 : (Cond.constantLong "MailHeadsModel" (338 : Nat) (86400 : Int64)) ∈ tb_all := tb_in 1409 (by decide +kernel) rfl
theorem tw_1318 : (Cond.constantLong "MailHeadsModel" (340 : Nat) (3600 : Int64)) ∈ tb_all := tb_in 1410 (by decide +kernel) rfl
theorem tw_1319 : (Cond.constantLong "MailHeadsModel" (342 : Nat) (60 : Int64)) ∈ tb_all := tb_in 1411 (by decide +kernel) rfl
theorem tw_1320 : (Cond.methodLink "MailHeadsModel" (344 : Nat) ({ cls := "MailHeadsModel", name := "zoneOf", desc := "(I)I" } : MethodName)) ∈ tb_all := tb_in 1412 (by decide +kernel) rfl
theorem tw_1322 : (Cond.instanceMethod ({ cls := "MailHeadsModel", name := "zoneOf", desc := "(I)I" } : MethodName)) ∈ tb_all := tb_in 1414 (by decide +kernel) rfl
theorem tw_1323 : (Cond.code ({ cls := "MailHeadsModel", name := "zoneOf", desc := "(I)I" } : MethodName) prog_11_method_61_code (7 : Nat) (Option.some FieldType.int)) ∈ tb_all := tb_in 1415 (by decide +kernel) rfl
theorem tw_1324 : (Cond.constant "MailHeadsModel" (303 : Nat) (6644852 : Int32)) ∈ tb_all := tb_in 1416 (by decide +kernel) rfl
theorem tw_1325 : (Cond.constant "MailHeadsModel" (304 : Nat) (6648692 : Int32)) ∈ tb_all := tb_in 1417 (by decide +kernel) rfl
theorem tw_1326 : (Cond.constant "MailHeadsModel" (305 : Nat) (6513780 : Int32)) ∈ tb_all := tb_in 1418 (by decide +kernel) rfl
theorem tw_1327 : (Cond.constant "MailHeadsModel" (306 : Nat) (6517620 : Int32)) ∈ tb_all := tb_in 1419 (by decide +kernel) rfl
theorem tw_1328 : (Cond.constant "MailHeadsModel" (307 : Nat) (7169140 : Int32)) ∈ tb_all := tb_in 1420 (by decide +kernel) rfl
theorem tw_1329 : (Cond.constant "MailHeadsModel" (308 : Nat) (7172980 : Int32)) ∈ tb_all := tb_in 1421 (by decide +kernel) rfl
theorem tw_1330 : (Cond.constant "MailHeadsModel" (309 : Nat) (7365748 : Int32)) ∈ tb_all := tb_in 1422 (by decide +kernel) rfl
theorem tw_1331 : (Cond.constant "MailHeadsModel" (310 : Nat) (7369588 : Int32)) ∈ tb_all := tb_in 1423 (by decide +kernel) rfl
theorem tw_1336 : (Cond.methodLink "MailHeadsModel" (350 : Nat) ({ cls := "MailHeadsModel", name := "makeSmall", desc := "(II)V" } : MethodName)) ∈ tb_all := tb_in 1428 (by decide +kernel) rfl
theorem tw_1338 : (Cond.instanceMethod ({ cls := "MailHeadsModel", name := "makeSmall", desc := "(II)V" } : MethodName)) ∈ tb_all := tb_in 1430 (by decide +kernel) rfl
theorem tw_1339 : (Cond.code ({ cls := "MailHeadsModel", name := "makeSmall", desc := "(II)V" } : MethodName) prog_11_method_65_code (4 : Nat) (Option.none : Option Jvm.ClassFile.FieldType)) ∈ tb_all := tb_in 1431 (by decide +kernel) rfl
theorem tw_1340 : (Cond.methodLink "MailHeadsModel" (353 : Nat) ({ cls := "MailHeadsModel", name := "takeParameter", desc := "(I)V" } : MethodName)) ∈ tb_all := tb_in 1432 (by decide +kernel) rfl
theorem tw_1342 : (Cond.instanceMethod ({ cls := "MailHeadsModel", name := "takeParameter", desc := "(I)V" } : MethodName)) ∈ tb_all := tb_in 1434 (by decide +kernel) rfl
theorem tw_1343 : (Cond.code ({ cls := "MailHeadsModel", name := "takeParameter", desc := "(I)V" } : MethodName) prog_11_method_67_code (8 : Nat) (Option.none : Option Jvm.ClassFile.FieldType)) ∈ tb_all := tb_in 1435 (by decide +kernel) rfl
theorem tw_1348 : (Cond.methodLink "MailHeadsModel" (365 : Nat) ({ cls := "MailHeadsModel", name := "parameterOf", desc := "(II)I" } : MethodName)) ∈ tb_all := tb_in 1440 (by decide +kernel) rfl
theorem tw_1350 : (Cond.instanceMethod ({ cls := "MailHeadsModel", name := "parameterOf", desc := "(II)I" } : MethodName)) ∈ tb_all := tb_in 1442 (by decide +kernel) rfl
theorem tw_1351 : (Cond.code ({ cls := "MailHeadsModel", name := "parameterOf", desc := "(II)I" } : MethodName) prog_11_method_69_code (4 : Nat) (Option.some FieldType.int)) ∈ tb_all := tb_in 1443 (by decide +kernel) rfl
theorem tw_1352 : (Cond.methodLink "MailHeadsModel" (356 : Nat) ({ cls := "MailHeadsModel", name := "isNamed", desc := "(II)Z" } : MethodName)) ∈ tb_all := tb_in 1444 (by decide +kernel) rfl
theorem tw_1354 : (Cond.instanceMethod ({ cls := "MailHeadsModel", name := "isNamed", desc := "(II)Z" } : MethodName)) ∈ tb_all := tb_in 1446 (by decide +kernel) rfl
theorem tw_1355 : (Cond.code ({ cls := "MailHeadsModel", name := "isNamed", desc := "(II)Z" } : MethodName) prog_11_method_68_code (4 : Nat) (Option.some FieldType.boolean)) ∈ tb_all := tb_in 1447 (by decide +kernel) rfl
theorem tw_1356 : (Cond.methodLink "MailHeadsModel" (368 : Nat) ({ cls := "MailHeadsModel", name := "takeValue", desc := "(I)V" } : MethodName)) ∈ tb_all := tb_in 1448 (by decide +kernel) rfl
theorem tw_1358 : (Cond.instanceMethod ({ cls := "MailHeadsModel", name := "takeValue", desc := "(I)V" } : MethodName)) ∈ tb_all := tb_in 1450 (by decide +kernel) rfl
theorem tw_1359 : (Cond.code ({ cls := "MailHeadsModel", name := "takeValue", desc := "(I)V" } : MethodName) prog_11_method_72_code (5 : Nat) (Option.none : Option Jvm.ClassFile.FieldType)) ∈ tb_all := tb_in 1451 (by decide +kernel) rfl
theorem tw_1360 : (Cond.methodLink "MailHeadsModel" (359 : Nat) ({ cls := "MailHeadsModel", name := "behindCharset", desc := "(I)I" } : MethodName)) ∈ tb_all := tb_in 1452 (by decide +kernel) rfl
theorem tw_1362 : (Cond.instanceMethod ({ cls := "MailHeadsModel", name := "behindCharset", desc := "(I)I" } : MethodName)) ∈ tb_all := tb_in 1454 (by decide +kernel) rfl
theorem tw_1363 : (Cond.code ({ cls := "MailHeadsModel", name := "behindCharset", desc := "(I)I" } : MethodName) prog_11_method_71_code (7 : Nat) (Option.some FieldType.int)) ∈ tb_all := tb_in 1455 (by decide +kernel) rfl
theorem tw_1364 : (Cond.methodLink "MailHeadsModel" (362 : Nat) ({ cls := "MailHeadsModel", name := "sixteenth", desc := "(I)I" } : MethodName)) ∈ tb_all := tb_in 1456 (by decide +kernel) rfl
theorem tw_1365 : (Cond.static ({ cls := "MailHeadsModel", name := "sixteenth", desc := "(I)I" } : MethodName)) ∈ tb_all := tb_in 1457 (by decide +kernel) rfl
theorem tw_1366 : (Cond.code ({ cls := "MailHeadsModel", name := "sixteenth", desc := "(I)I" } : MethodName) prog_11_method_70_code (1 : Nat) (Option.some FieldType.int)) ∈ tb_all := tb_in 1458 (by decide +kernel) rfl
theorem tw_1371 : (Cond.arrayClass FieldType.long) ∈ tb_all := tb_in 1463 (by decide +kernel) rfl
theorem ts_0 : Cond.selects "MailHeads$Head" ⟨"MailHeads$Head", "takeLine", "(LMailHeads$Row;II)Z"⟩ ⟨"MailHeads$Head", "takeLine", "(LMailHeads$Row;II)Z"⟩ ∈ tb_all := tb_in 0 (by decide +kernel) rfl
theorem ts_1 : Cond.selects "MailHeads$Head" ⟨"MailHeads$Head", "takeFolded", "(LMailHeads$Row;II)V"⟩ ⟨"MailHeads$Head", "takeFolded", "(LMailHeads$Row;II)V"⟩ ∈ tb_all := tb_in 1 (by decide +kernel) rfl
theorem ts_2 : Cond.selects "MailHeads$Head" ⟨"MailHeads$Head", "putBytes", "(LMailHeads$Row;II)V"⟩ ⟨"MailHeads$Head", "putBytes", "(LMailHeads$Row;II)V"⟩ ∈ tb_all := tb_in 2 (by decide +kernel) rfl
theorem ts_3 : Cond.selects "MailHeads$Head" ⟨"MailHeads$Head", "closeValue", "()V"⟩ ⟨"MailHeads$Head", "closeValue", "()V"⟩ ∈ tb_all := tb_in 3 (by decide +kernel) rfl
theorem ts_4 : Cond.selects "MailHeads" ⟨"MailHeads", "textsFor", "(I)LMailHeads$Texts;"⟩ ⟨"MailHeads", "textsFor", "(I)LMailHeads$Texts;"⟩ ∈ tb_all := tb_in 4 (by decide +kernel) rfl
theorem ts_5 : Cond.selects "MailHeads" ⟨"MailHeads", "textFor", "(II)I"⟩ ⟨"MailHeads", "textFor", "(II)I"⟩ ∈ tb_all := tb_in 5 (by decide +kernel) rfl
theorem ts_6 : Cond.selects "MailHeads$ContentType" ⟨"MailHeads$ContentType", "firstOf", "(LMailHeads$Row;I)I"⟩ ⟨"MailHeads$ContentType", "firstOf", "(LMailHeads$Row;I)I"⟩ ∈ tb_all := tb_in 6 (by decide +kernel) rfl
theorem ts_7 : Cond.selects "MailHeads$ContentType" ⟨"MailHeads$ContentType", "putCharset", "(I)I"⟩ ⟨"MailHeads$ContentType", "putCharset", "(I)I"⟩ ∈ tb_all := tb_in 7 (by decide +kernel) rfl
theorem ts_8 : Cond.selects "MailHeads$ContentType" ⟨"MailHeads$ContentType", "quoteFrom", "(II)I"⟩ ⟨"MailHeads$ContentType", "quoteFrom", "(II)I"⟩ ∈ tb_all := tb_in 8 (by decide +kernel) rfl
theorem ts_9 : Cond.selects "MailHeads$ContentType" ⟨"MailHeads$ContentType", "putBytes", "(II)V"⟩ ⟨"MailHeads$ContentType", "putBytes", "(II)V"⟩ ∈ tb_all := tb_in 9 (by decide +kernel) rfl
theorem ts_10 : Cond.selects "MailHeads$ContentType" ⟨"MailHeads$ContentType", "hexadecimal", "(II)I"⟩ ⟨"MailHeads$ContentType", "hexadecimal", "(II)I"⟩ ∈ tb_all := tb_in 10 (by decide +kernel) rfl
theorem ts_11 : Cond.selects "MailHeads" ⟨"MailHeads", "valueOf", "(I)I"⟩ ⟨"MailHeads", "valueOf", "(I)I"⟩ ∈ tb_all := tb_in 11 (by decide +kernel) rfl
theorem ts_13 : Cond.selects "MailHeads$Words" ⟨"MailHeads$Words", "cutWord", "(IIZ)I"⟩ ⟨"MailHeads$Words", "cutWord", "(IIZ)I"⟩ ∈ tb_all := tb_in 13 (by decide +kernel) rfl
theorem ts_14 : Cond.selects "MailHeads$Words" ⟨"MailHeads$Words", "cutComment", "(IIZ)I"⟩ ⟨"MailHeads$Words", "cutComment", "(IIZ)I"⟩ ∈ tb_all := tb_in 14 (by decide +kernel) rfl
theorem ts_15 : Cond.selects "MailHeads$Words" ⟨"MailHeads$Words", "putWithin", "(II)V"⟩ ⟨"MailHeads$Words", "putWithin", "(II)V"⟩ ∈ tb_all := tb_in 15 (by decide +kernel) rfl
theorem ts_16 : Cond.selects "MailHeads$Words" ⟨"MailHeads$Words", "close", "(I)V"⟩ ⟨"MailHeads$Words", "close", "(I)V"⟩ ∈ tb_all := tb_in 16 (by decide +kernel) rfl
theorem ts_17 : Cond.selects "MailHeads$Words" ⟨"MailHeads$Words", "cutEnclosed", "(IIII)I"⟩ ⟨"MailHeads$Words", "cutEnclosed", "(IIII)I"⟩ ∈ tb_all := tb_in 17 (by decide +kernel) rfl
theorem ts_18 : Cond.selects "MailHeads$Words" ⟨"MailHeads$Words", "isSign", "(I)Z"⟩ ⟨"MailHeads$Words", "isSign", "(I)Z"⟩ ∈ tb_all := tb_in 18 (by decide +kernel) rfl
theorem ts_19 : Cond.selects "MailHeads$Words" ⟨"MailHeads$Words", "cutAtom", "(II)I"⟩ ⟨"MailHeads$Words", "cutAtom", "(II)I"⟩ ∈ tb_all := tb_in 19 (by decide +kernel) rfl
theorem ts_20 : Cond.selects "MailHeads$Addresses" ⟨"MailHeads$Addresses", "beginGathering", "()V"⟩ ⟨"MailHeads$Addresses", "beginGathering", "()V"⟩ ∈ tb_all := tb_in 20 (by decide +kernel) rfl
theorem ts_21 : Cond.selects "MailHeads$Addresses" ⟨"MailHeads$Addresses", "takeGathered", "(I)V"⟩ ⟨"MailHeads$Addresses", "takeGathered", "(I)V"⟩ ∈ tb_all := tb_in 21 (by decide +kernel) rfl
theorem ts_22 : Cond.selects "MailHeads$Addresses" ⟨"MailHeads$Addresses", "takeColon", "()V"⟩ ⟨"MailHeads$Addresses", "takeColon", "()V"⟩ ∈ tb_all := tb_in 22 (by decide +kernel) rfl
theorem ts_23 : Cond.selects "MailHeads$Addresses" ⟨"MailHeads$Addresses", "isName", "(I)Z"⟩ ⟨"MailHeads$Addresses", "isName", "(I)Z"⟩ ∈ tb_all := tb_in 23 (by decide +kernel) rfl
theorem ts_24 : Cond.selects "MailHeads$Addresses" ⟨"MailHeads$Addresses", "kindAt", "(I)I"⟩ ⟨"MailHeads$Addresses", "kindAt", "(I)I"⟩ ∈ tb_all := tb_in 24 (by decide +kernel) rfl
theorem ts_25 : Cond.selects "MailHeads$Addresses" ⟨"MailHeads$Addresses", "putName", "(LMailHeads$Texts;I)V"⟩ ⟨"MailHeads$Addresses", "putName", "(LMailHeads$Texts;I)V"⟩ ∈ tb_all := tb_in 25 (by decide +kernel) rfl
theorem ts_26 : Cond.selects "MailHeads$Addresses" ⟨"MailHeads$Addresses", "takeMailbox", "()Z"⟩ ⟨"MailHeads$Addresses", "takeMailbox", "()Z"⟩ ∈ tb_all := tb_in 26 (by decide +kernel) rfl
theorem ts_27 : Cond.selects "MailHeads$Addresses" ⟨"MailHeads$Addresses", "firstOpen", "()I"⟩ ⟨"MailHeads$Addresses", "firstOpen", "()I"⟩ ∈ tb_all := tb_in 27 (by decide +kernel) rfl
theorem ts_28 : Cond.selects "MailHeads$Addresses" ⟨"MailHeads$Addresses", "behindRoute", "(II)I"⟩ ⟨"MailHeads$Addresses", "behindRoute", "(II)I"⟩ ∈ tb_all := tb_in 28 (by decide +kernel) rfl
theorem ts_29 : Cond.selects "MailHeads$Addresses" ⟨"MailHeads$Addresses", "dottedEnd", "(IIZ)I"⟩ ⟨"MailHeads$Addresses", "dottedEnd", "(IIZ)I"⟩ ∈ tb_all := tb_in 29 (by decide +kernel) rfl
theorem ts_30 : Cond.selects "MailHeads$Addresses" ⟨"MailHeads$Addresses", "isDomainBehind", "(II)Z"⟩ ⟨"MailHeads$Addresses", "isDomainBehind", "(II)Z"⟩ ∈ tb_all := tb_in 30 (by decide +kernel) rfl
theorem ts_31 : Cond.selects "MailHeads$Addresses" ⟨"MailHeads$Addresses", "putWords", "(II)V"⟩ ⟨"MailHeads$Addresses", "putWords", "(II)V"⟩ ∈ tb_all := tb_in 31 (by decide +kernel) rfl
theorem ts_32 : Cond.selects "MailHeads$Identities" ⟨"MailHeads$Identities", "takeBetween", "(LMailHeads$Texts;III)V"⟩ ⟨"MailHeads$Identities", "takeBetween", "(LMailHeads$Texts;III)V"⟩ ∈ tb_all := tb_in 32 (by decide +kernel) rfl
theorem ts_33 : Cond.selects "MailHeads$DateReader" ⟨"MailHeads$DateReader", "takeNumber", "(II)I"⟩ ⟨"MailHeads$DateReader", "takeNumber", "(II)I"⟩ ∈ tb_all := tb_in 33 (by decide +kernel) rfl
theorem ts_34 : Cond.selects "MailHeads$DateReader" ⟨"MailHeads$DateReader", "digits", "(II)I"⟩ ⟨"MailHeads$DateReader", "digits", "(II)I"⟩ ∈ tb_all := tb_in 34 (by decide +kernel) rfl
theorem ts_35 : Cond.selects "MailHeads$DateReader" ⟨"MailHeads$DateReader", "takeMonth", "()I"⟩ ⟨"MailHeads$DateReader", "takeMonth", "()I"⟩ ∈ tb_all := tb_in 35 (by decide +kernel) rfl
theorem ts_36 : Cond.selects "MailHeads$DateReader" ⟨"MailHeads$DateReader", "threeLetters", "(Ljava/lang/String;)I"⟩ ⟨"MailHeads$DateReader", "threeLetters", "(Ljava/lang/String;)I"⟩ ∈ tb_all := tb_in 36 (by decide +kernel) rfl
theorem ts_37 : Cond.selects "MailHeads$DateReader" ⟨"MailHeads$DateReader", "isLetter", "(II)Z"⟩ ⟨"MailHeads$DateReader", "isLetter", "(II)Z"⟩ ∈ tb_all := tb_in 37 (by decide +kernel) rfl
theorem ts_38 : Cond.selects "MailHeads$DateReader" ⟨"MailHeads$DateReader", "takeYear", "()I"⟩ ⟨"MailHeads$DateReader", "takeYear", "()I"⟩ ∈ tb_all := tb_in 38 (by decide +kernel) rfl
theorem ts_39 : Cond.selects "MailHeads$DateReader" ⟨"MailHeads$DateReader", "takeColon", "()Z"⟩ ⟨"MailHeads$DateReader", "takeColon", "()Z"⟩ ∈ tb_all := tb_in 39 (by decide +kernel) rfl
theorem ts_40 : Cond.selects "MailHeads$DateReader" ⟨"MailHeads$DateReader", "zoneSeconds", "()I"⟩ ⟨"MailHeads$DateReader", "zoneSeconds", "()I"⟩ ∈ tb_all := tb_in 40 (by decide +kernel) rfl
theorem ts_41 : Cond.selects "MailHeads$DateReader" ⟨"MailHeads$DateReader", "signedZone", "(I)I"⟩ ⟨"MailHeads$DateReader", "signedZone", "(I)I"⟩ ∈ tb_all := tb_in 41 (by decide +kernel) rfl
theorem ts_42 : Cond.selects "MailHeads$ContentType" ⟨"MailHeads$ContentType", "takePart", "(I)V"⟩ ⟨"MailHeads$ContentType", "takePart", "(I)V"⟩ ∈ tb_all := tb_in 42 (by decide +kernel) rfl
theorem ts_43 : Cond.selects "MailHeads$ContentType" ⟨"MailHeads$ContentType", "takeParameter", "(I)V"⟩ ⟨"MailHeads$ContentType", "takeParameter", "(I)V"⟩ ∈ tb_all := tb_in 43 (by decide +kernel) rfl
theorem ts_44 : Cond.selects "MailHeadsModel" ⟨"MailHeadsModel", "readyWord", "(II)V"⟩ ⟨"MailHeadsModel", "readyWord", "(II)V"⟩ ∈ tb_all := tb_in 44 (by decide +kernel) rfl
theorem ts_45 : Cond.selects "MailHeadsModel" ⟨"MailHeadsModel", "colonOf", "(II)I"⟩ ⟨"MailHeadsModel", "colonOf", "(II)I"⟩ ∈ tb_all := tb_in 45 (by decide +kernel) rfl
theorem ts_46 : Cond.selects "MailHeadsModel" ⟨"MailHeadsModel", "keep", "(II)V"⟩ ⟨"MailHeadsModel", "keep", "(II)V"⟩ ∈ tb_all := tb_in 46 (by decide +kernel) rfl
theorem ts_47 : Cond.selects "MailHeadsModel" ⟨"MailHeadsModel", "addField", "(III)V"⟩ ⟨"MailHeadsModel", "addField", "(III)V"⟩ ∈ tb_all := tb_in 47 (by decide +kernel) rfl
theorem ts_48 : Cond.selects "MailHeadsModel" ⟨"MailHeadsModel", "isField", "(I)Z"⟩ ⟨"MailHeadsModel", "isField", "(I)Z"⟩ ∈ tb_all := tb_in 48 (by decide +kernel) rfl
theorem ts_49 : Cond.selects "MailHeadsModel" ⟨"MailHeadsModel", "cut", "(IZ)V"⟩ ⟨"MailHeadsModel", "cut", "(IZ)V"⟩ ∈ tb_all := tb_in 49 (by decide +kernel) rfl
theorem ts_50 : Cond.selects "MailHeadsModel" ⟨"MailHeadsModel", "takeEnclosed", "(II)V"⟩ ⟨"MailHeadsModel", "takeEnclosed", "(II)V"⟩ ∈ tb_all := tb_in 50 (by decide +kernel) rfl
theorem ts_51 : Cond.selects "MailHeadsModel" ⟨"MailHeadsModel", "beginWord", "(II)V"⟩ ⟨"MailHeadsModel", "beginWord", "(II)V"⟩ ∈ tb_all := tb_in 51 (by decide +kernel) rfl
theorem ts_52 : Cond.selects "MailHeadsModel" ⟨"MailHeadsModel", "put", "(I)V"⟩ ⟨"MailHeadsModel", "put", "(I)V"⟩ ∈ tb_all := tb_in 52 (by decide +kernel) rfl
theorem ts_53 : Cond.selects "MailHeadsModel" ⟨"MailHeadsModel", "endWord", "()V"⟩ ⟨"MailHeadsModel", "endWord", "()V"⟩ ∈ tb_all := tb_in 53 (by decide +kernel) rfl
theorem ts_54 : Cond.selects "MailHeadsModel" ⟨"MailHeadsModel", "isSign", "(I)Z"⟩ ⟨"MailHeadsModel", "isSign", "(I)Z"⟩ ∈ tb_all := tb_in 54 (by decide +kernel) rfl
theorem ts_55 : Cond.selects "MailHeadsModel" ⟨"MailHeadsModel", "takeAtom", "()V"⟩ ⟨"MailHeadsModel", "takeAtom", "()V"⟩ ∈ tb_all := tb_in 55 (by decide +kernel) rfl
theorem ts_56 : Cond.selects "MailHeadsModel" ⟨"MailHeadsModel", "look", "()I"⟩ ⟨"MailHeadsModel", "look", "()I"⟩ ∈ tb_all := tb_in 56 (by decide +kernel) rfl
theorem ts_57 : Cond.selects "MailHeadsModel" ⟨"MailHeadsModel", "forget", "(III)V"⟩ ⟨"MailHeadsModel", "forget", "(III)V"⟩ ∈ tb_all := tb_in 57 (by decide +kernel) rfl
theorem ts_58 : Cond.selects "MailHeadsModel" ⟨"MailHeadsModel", "is", "(II)Z"⟩ ⟨"MailHeadsModel", "is", "(II)Z"⟩ ∈ tb_all := tb_in 58 (by decide +kernel) rfl
theorem ts_59 : Cond.selects "MailHeadsModel" ⟨"MailHeadsModel", "beginGroup", "(II)V"⟩ ⟨"MailHeadsModel", "beginGroup", "(II)V"⟩ ∈ tb_all := tb_in 59 (by decide +kernel) rfl
theorem ts_60 : Cond.selects "MailHeadsModel" ⟨"MailHeadsModel", "isName", "(II)Z"⟩ ⟨"MailHeadsModel", "isName", "(II)Z"⟩ ∈ tb_all := tb_in 60 (by decide +kernel) rfl
theorem ts_61 : Cond.selects "MailHeadsModel" ⟨"MailHeadsModel", "next", "(II)I"⟩ ⟨"MailHeadsModel", "next", "(II)I"⟩ ∈ tb_all := tb_in 61 (by decide +kernel) rfl
theorem ts_62 : Cond.selects "MailHeadsModel" ⟨"MailHeadsModel", "makeName", "(III)V"⟩ ⟨"MailHeadsModel", "makeName", "(III)V"⟩ ∈ tb_all := tb_in 62 (by decide +kernel) rfl
theorem ts_63 : Cond.selects "MailHeadsModel" ⟨"MailHeadsModel", "beginPart", "(I)V"⟩ ⟨"MailHeadsModel", "beginPart", "(I)V"⟩ ∈ tb_all := tb_in 63 (by decide +kernel) rfl
theorem ts_64 : Cond.selects "MailHeadsModel" ⟨"MailHeadsModel", "roomAt", "(I)I"⟩ ⟨"MailHeadsModel", "roomAt", "(I)I"⟩ ∈ tb_all := tb_in 64 (by decide +kernel) rfl
theorem ts_65 : Cond.selects "MailHeadsModel" ⟨"MailHeadsModel", "add", "(II)V"⟩ ⟨"MailHeadsModel", "add", "(II)V"⟩ ∈ tb_all := tb_in 65 (by decide +kernel) rfl
theorem ts_66 : Cond.selects "MailHeadsModel" ⟨"MailHeadsModel", "addWord", "(II)V"⟩ ⟨"MailHeadsModel", "addWord", "(II)V"⟩ ∈ tb_all := tb_in 66 (by decide +kernel) rfl
theorem ts_67 : Cond.selects "MailHeadsModel" ⟨"MailHeadsModel", "endPart", "(I)V"⟩ ⟨"MailHeadsModel", "endPart", "(I)V"⟩ ∈ tb_all := tb_in 67 (by decide +kernel) rfl
theorem ts_68 : Cond.selects "MailHeadsModel" ⟨"MailHeadsModel", "takeMailbox", "(IIZI)V"⟩ ⟨"MailHeadsModel", "takeMailbox", "(IIZI)V"⟩ ∈ tb_all := tb_in 68 (by decide +kernel) rfl
theorem ts_69 : Cond.selects "MailHeadsModel" ⟨"MailHeadsModel", "behindRoute", "(II)I"⟩ ⟨"MailHeadsModel", "behindRoute", "(II)I"⟩ ∈ tb_all := tb_in 69 (by decide +kernel) rfl
theorem ts_70 : Cond.selects "MailHeadsModel" ⟨"MailHeadsModel", "isSpec", "(II)Z"⟩ ⟨"MailHeadsModel", "isSpec", "(II)Z"⟩ ∈ tb_all := tb_in 70 (by decide +kernel) rfl
theorem ts_71 : Cond.selects "MailHeadsModel" ⟨"MailHeadsModel", "rowEnd", "(IIZ)I"⟩ ⟨"MailHeadsModel", "rowEnd", "(IIZ)I"⟩ ∈ tb_all := tb_in 71 (by decide +kernel) rfl
theorem ts_72 : Cond.selects "MailHeadsModel" ⟨"MailHeadsModel", "isRowWord", "(IIZ)Z"⟩ ⟨"MailHeadsModel", "isRowWord", "(IIZ)Z"⟩ ∈ tb_all := tb_in 72 (by decide +kernel) rfl
theorem ts_73 : Cond.selects "MailHeadsModel" ⟨"MailHeadsModel", "makeComment", "(II)V"⟩ ⟨"MailHeadsModel", "makeComment", "(II)V"⟩ ∈ tb_all := tb_in 73 (by decide +kernel) rfl
theorem ts_74 : Cond.selects "MailHeadsModel" ⟨"MailHeadsModel", "makeWords", "(III)V"⟩ ⟨"MailHeadsModel", "makeWords", "(III)V"⟩ ∈ tb_all := tb_in 74 (by decide +kernel) rfl
theorem ts_75 : Cond.selects "MailHeadsModel" ⟨"MailHeadsModel", "isDigits", "(III)Z"⟩ ⟨"MailHeadsModel", "isDigits", "(III)Z"⟩ ∈ tb_all := tb_in 75 (by decide +kernel) rfl
theorem ts_76 : Cond.selects "MailHeadsModel" ⟨"MailHeadsModel", "longOf", "(I)I"⟩ ⟨"MailHeadsModel", "longOf", "(I)I"⟩ ∈ tb_all := tb_in 76 (by decide +kernel) rfl
theorem ts_77 : Cond.selects "MailHeadsModel" ⟨"MailHeadsModel", "number", "(I)I"⟩ ⟨"MailHeadsModel", "number", "(I)I"⟩ ∈ tb_all := tb_in 77 (by decide +kernel) rfl
theorem ts_78 : Cond.selects "MailHeadsModel" ⟨"MailHeadsModel", "numberOf", "(II)I"⟩ ⟨"MailHeadsModel", "numberOf", "(II)I"⟩ ∈ tb_all := tb_in 78 (by decide +kernel) rfl
theorem ts_79 : Cond.selects "MailHeadsModel" ⟨"MailHeadsModel", "step", "()V"⟩ ⟨"MailHeadsModel", "step", "()V"⟩ ∈ tb_all := tb_in 79 (by decide +kernel) rfl
theorem ts_80 : Cond.selects "MailHeadsModel" ⟨"MailHeadsModel", "monthOf", "(I)I"⟩ ⟨"MailHeadsModel", "monthOf", "(I)I"⟩ ∈ tb_all := tb_in 80 (by decide +kernel) rfl
theorem ts_81 : Cond.selects "MailHeadsModel" ⟨"MailHeadsModel", "isThree", "(III)Z"⟩ ⟨"MailHeadsModel", "isThree", "(III)Z"⟩ ∈ tb_all := tb_in 81 (by decide +kernel) rfl
theorem ts_82 : Cond.selects "MailHeadsModel" ⟨"MailHeadsModel", "yearOf", "(I)I"⟩ ⟨"MailHeadsModel", "yearOf", "(I)I"⟩ ∈ tb_all := tb_in 82 (by decide +kernel) rfl
theorem ts_83 : Cond.selects "MailHeadsModel" ⟨"MailHeadsModel", "two", "(I)I"⟩ ⟨"MailHeadsModel", "two", "(I)I"⟩ ∈ tb_all := tb_in 83 (by decide +kernel) rfl
theorem ts_84 : Cond.selects "MailHeadsModel" ⟨"MailHeadsModel", "dayNumber", "(III)J"⟩ ⟨"MailHeadsModel", "dayNumber", "(III)J"⟩ ∈ tb_all := tb_in 84 (by decide +kernel) rfl
theorem ts_85 : Cond.selects "MailHeadsModel" ⟨"MailHeadsModel", "zoneOf", "(I)I"⟩ ⟨"MailHeadsModel", "zoneOf", "(I)I"⟩ ∈ tb_all := tb_in 85 (by decide +kernel) rfl
theorem ts_86 : Cond.selects "MailHeadsModel" ⟨"MailHeadsModel", "makeSmall", "(II)V"⟩ ⟨"MailHeadsModel", "makeSmall", "(II)V"⟩ ∈ tb_all := tb_in 86 (by decide +kernel) rfl
theorem ts_87 : Cond.selects "MailHeadsModel" ⟨"MailHeadsModel", "takeParameter", "(I)V"⟩ ⟨"MailHeadsModel", "takeParameter", "(I)V"⟩ ∈ tb_all := tb_in 87 (by decide +kernel) rfl
theorem ts_88 : Cond.selects "MailHeadsModel" ⟨"MailHeadsModel", "parameterOf", "(II)I"⟩ ⟨"MailHeadsModel", "parameterOf", "(II)I"⟩ ∈ tb_all := tb_in 88 (by decide +kernel) rfl
theorem ts_89 : Cond.selects "MailHeadsModel" ⟨"MailHeadsModel", "isNamed", "(II)Z"⟩ ⟨"MailHeadsModel", "isNamed", "(II)Z"⟩ ∈ tb_all := tb_in 89 (by decide +kernel) rfl
theorem ts_90 : Cond.selects "MailHeadsModel" ⟨"MailHeadsModel", "takeValue", "(I)V"⟩ ⟨"MailHeadsModel", "takeValue", "(I)V"⟩ ∈ tb_all := tb_in 90 (by decide +kernel) rfl
theorem ts_91 : Cond.selects "MailHeadsModel" ⟨"MailHeadsModel", "behindCharset", "(I)I"⟩ ⟨"MailHeadsModel", "behindCharset", "(I)I"⟩ ∈ tb_all := tb_in 91 (by decide +kernel) rfl
theorem tb_Mail : ∀ w ∈ u_ws cR_Mail cF_Mail 9, w ∈ tb_all := fun w h => by
  have e : u_ws cR_Mail cF_Mail 9 = [319, 321, 323, 325, 327, 329, 331, 333, 335].filterMap (fun i => lw_tbl[i]?) := by decide +kernel
  have g : (u_ws cR_Mail cF_Mail 9).all goodWord = true := by decide +kernel
  have hg := List.all_eq_true.mp g w h
  rw [e] at h
  obtain ⟨i, -, hi⟩ := List.mem_filterMap.mp h
  exact tb_in i hi hg
theorem tb_Row : ∀ w ∈ u_ws cR_Row cF_Row 2, w ∈ tb_all := fun w h => by
  have e : u_ws cR_Row cF_Row 2 = [131, 133].filterMap (fun i => lw_tbl[i]?) := by decide +kernel
  have g : (u_ws cR_Row cF_Row 2).all goodWord = true := by decide +kernel
  have hg := List.all_eq_true.mp g w h
  rw [e] at h
  obtain ⟨i, -, hi⟩ := List.mem_filterMap.mp h
  exact tb_in i hi hg
theorem tb_Head : ∀ w ∈ u_ws cR_Head cF_Head 3, w ∈ tb_all := fun w h => by
  have e : u_ws cR_Head cF_Head 3 = [181, 183, 185].filterMap (fun i => lw_tbl[i]?) := by decide +kernel
  have g : (u_ws cR_Head cF_Head 3).all goodWord = true := by decide +kernel
  have hg := List.all_eq_true.mp g w h
  rw [e] at h
  obtain ⟨i, -, hi⟩ := List.mem_filterMap.mp h
  exact tb_in i hi hg
theorem tb_Texts : ∀ w ∈ u_ws cR_Texts cF_Texts 2, w ∈ tb_all := fun w h => by
  have e : u_ws cR_Texts cF_Texts 2 = [173, 175].filterMap (fun i => lw_tbl[i]?) := by decide +kernel
  have g : (u_ws cR_Texts cF_Texts 2).all goodWord = true := by decide +kernel
  have hg := List.all_eq_true.mp g w h
  rw [e] at h
  obtain ⟨i, -, hi⟩ := List.mem_filterMap.mp h
  exact tb_in i hi hg
theorem tb_Words : ∀ w ∈ u_ws cR_Words cF_Words 5, w ∈ tb_all := fun w h => by
  have e : u_ws cR_Words cF_Words 5 = [204, 206, 208, 210, 212].filterMap (fun i => lw_tbl[i]?) := by decide +kernel
  have g : (u_ws cR_Words cF_Words 5).all goodWord = true := by decide +kernel
  have hg := List.all_eq_true.mp g w h
  rw [e] at h
  obtain ⟨i, -, hi⟩ := List.mem_filterMap.mp h
  exact tb_in i hi hg
theorem tb_Addresses : ∀ w ∈ u_ws cR_Addresses cF_Addresses 8, w ∈ tb_all := fun w h => by
  have e : u_ws cR_Addresses cF_Addresses 8 = [234, 236, 238, 240, 242, 244, 246, 248].filterMap (fun i => lw_tbl[i]?) := by decide +kernel
  have g : (u_ws cR_Addresses cF_Addresses 8).all goodWord = true := by decide +kernel
  have hg := List.all_eq_true.mp g w h
  rw [e] at h
  obtain ⟨i, -, hi⟩ := List.mem_filterMap.mp h
  exact tb_in i hi hg
theorem tb_Identities : ∀ w ∈ u_ws cR_Identities cF_Identities 1, w ∈ tb_all := fun w h => by
  have e : u_ws cR_Identities cF_Identities 1 = [260].filterMap (fun i => lw_tbl[i]?) := by decide +kernel
  have g : (u_ws cR_Identities cF_Identities 1).all goodWord = true := by decide +kernel
  have hg := List.all_eq_true.mp g w h
  rw [e] at h
  obtain ⟨i, -, hi⟩ := List.mem_filterMap.mp h
  exact tb_in i hi hg
theorem tb_DateReader : ∀ w ∈ u_ws cR_DateReader cF_DateReader 2, w ∈ tb_all := fun w h => by
  have e : u_ws cR_DateReader cF_DateReader 2 = [271, 273].filterMap (fun i => lw_tbl[i]?) := by decide +kernel
  have g : (u_ws cR_DateReader cF_DateReader 2).all goodWord = true := by decide +kernel
  have hg := List.all_eq_true.mp g w h
  rw [e] at h
  obtain ⟨i, -, hi⟩ := List.mem_filterMap.mp h
  exact tb_in i hi hg
theorem tb_ContentType : ∀ w ∈ u_ws cR_ContentType cF_ContentType 7, w ∈ tb_all := fun w h => by
  have e : u_ws cR_ContentType cF_ContentType 7 = [293, 295, 297, 299, 301, 303, 305].filterMap (fun i => lw_tbl[i]?) := by decide +kernel
  have g : (u_ws cR_ContentType cF_ContentType 7).all goodWord = true := by decide +kernel
  have hg := List.all_eq_true.mp g w h
  rw [e] at h
  obtain ⟨i, -, hi⟩ := List.mem_filterMap.mp h
  exact tb_in i hi hg
theorem tb_Model : ∀ w ∈ u_ws cR_Model cF_Model 45, w ∈ tb_all := fun w h => by
  have e : u_ws cR_Model cF_Model 45 = [1057, 1059, 1061, 1063, 1065, 1067, 1069, 1071, 1073, 1075, 1077, 1079, 1081, 1083, 1085, 1087, 1089, 1091, 1093, 1095, 1097, 1099, 1101, 1103, 1105, 1107, 1109, 1111, 1113, 1115, 1117, 1119, 1121, 1123, 1125, 1127, 1129, 1131, 1133, 1135, 1137, 1139, 1141, 1143, 1145].filterMap (fun i => lw_tbl[i]?) := by decide +kernel
  have g : (u_ws cR_Model cF_Model 45).all goodWord = true := by decide +kernel
  have hg := List.all_eq_true.mp g w h
  rw [e] at h
  obtain ⟨i, -, hi⟩ := List.mem_filterMap.mp h
  exact tb_in i hi hg
end
section
abbrev m_Model_isBlank : mt_M := (⟨"MailHeadsModel", "isBlank", "(I)Z"⟩, prog_11_method_6_code, 1, (some FieldType.boolean), Cond.code ⟨"MailHeadsModel", "isBlank", "(I)Z"⟩ prog_11_method_6_code 1 (some FieldType.boolean) :: tb_all, 12, 527)
abbrev m_Model_colonOf : mt_M := (⟨"MailHeadsModel", "colonOf", "(II)I"⟩, prog_11_method_9_code, 4, (some FieldType.int), Cond.code ⟨"MailHeadsModel", "colonOf", "(II)I"⟩ prog_11_method_9_code 4 (some FieldType.int) :: tb_all, 13, 547)
abbrev m_Model_keep : mt_M := (⟨"MailHeadsModel", "keep", "(II)V"⟩, prog_11_method_10_code, 4, none, Cond.code ⟨"MailHeadsModel", "keep", "(II)V"⟩ prog_11_method_10_code 4 none :: tb_all, 12, 523)
abbrev m_Model_addField : mt_M := (⟨"MailHeadsModel", "addField", "(III)V"⟩, prog_11_method_11_code, 5, none, Cond.code ⟨"MailHeadsModel", "addField", "(III)V"⟩ prog_11_method_11_code 5 none :: tb_all, 13, 546)
abbrev m_Model_read : mt_M := (⟨"MailHeadsModel", "read", "()I"⟩, prog_11_method_12_code, 7, (some FieldType.int), Cond.code ⟨"MailHeadsModel", "read", "()I"⟩ prog_11_method_12_code 7 (some FieldType.int) :: tb_all, 14, 570)
abbrev m_Model_length : mt_M := (⟨"MailHeadsModel", "length", "(II)I"⟩, prog_11_method_36_code, 3, (some FieldType.int), Cond.code ⟨"MailHeadsModel", "length", "(II)I"⟩ prog_11_method_36_code 3 (some FieldType.int) :: tb_all, 13, 550)
abbrev m_Model_parameterByte : mt_M := (⟨"MailHeadsModel", "parameterByte", "(ZI)I"⟩, prog_11_method_74_code, 4, (some FieldType.int), Cond.code ⟨"MailHeadsModel", "parameterByte", "(ZI)I"⟩ prog_11_method_74_code 4 (some FieldType.int) :: tb_all, 14, 573)
abbrev m_Row_get : mt_M := (⟨"MailHeads$Row", "get", "(I)I"⟩, prog_7_method_3_code, 2, (some FieldType.int), Cond.code ⟨"MailHeads$Row", "get", "(I)I"⟩ prog_7_method_3_code 2 (some FieldType.int) :: tb_all, 6, 386)
abbrev m_Addresses_groupOf : mt_M := (⟨"MailHeads$Addresses", "groupOf", "(I)I"⟩, prog_2_method_6_code, 2, (some FieldType.int), Cond.code ⟨"MailHeads$Addresses", "groupOf", "(I)I"⟩ prog_2_method_6_code 2 (some FieldType.int) :: tb_all, 13, 553)
abbrev m_Addresses_badOnes : mt_M := (⟨"MailHeads$Addresses", "badOnes", "()I"⟩, prog_2_method_5_code, 1, (some FieldType.int), Cond.code ⟨"MailHeads$Addresses", "badOnes", "()I"⟩ prog_2_method_5_code 1 (some FieldType.int) :: tb_all, 13, 554)
abbrev m_Row_size : mt_M := (⟨"MailHeads$Row", "size", "()I"⟩, prog_7_method_2_code, 1, (some FieldType.int), Cond.code ⟨"MailHeads$Row", "size", "()I"⟩ prog_7_method_2_code 1 (some FieldType.int) :: tb_all, 6, 387)
abbrev m_Texts_count : mt_M := (⟨"MailHeads$Texts", "count", "()I"⟩, prog_8_method_2_code, 1, (some FieldType.int), Cond.code ⟨"MailHeads$Texts", "count", "()I"⟩ prog_8_method_2_code 1 (some FieldType.int) :: tb_all, 9, 467)
abbrev m_Addresses_groupNames : mt_M := (⟨"MailHeads$Addresses", "groupNames", "()LMailHeads$Texts;"⟩, prog_2_method_3_code, 1, (some (FieldType.object "MailHeads$Texts")), Cond.code ⟨"MailHeads$Addresses", "groupNames", "()LMailHeads$Texts;"⟩ prog_2_method_3_code 1 (some (FieldType.object "MailHeads$Texts")) :: tb_all, 12, 532)
abbrev m_Mail_group : mt_M := (⟨"MailHeads", "group", "(II)I"⟩, prog_1_method_13_code, 3, (some FieldType.int), Cond.code ⟨"MailHeads", "group", "(II)I"⟩ prog_1_method_13_code 3 (some FieldType.int) :: tb_all, 14, 574)
abbrev m_Head_texts : mt_M := (⟨"MailHeads$Head", "texts", "()LMailHeads$Texts;"⟩, prog_5_method_2_code, 1, (some (FieldType.object "MailHeads$Texts")), Cond.code ⟨"MailHeads$Head", "texts", "()LMailHeads$Texts;"⟩ prog_5_method_2_code 1 (some (FieldType.object "MailHeads$Texts")) :: tb_all, 12, 532)
abbrev m_Head_count : mt_M := (⟨"MailHeads$Head", "count", "()I"⟩, prog_5_method_3_code, 1, (some FieldType.int), Cond.code ⟨"MailHeads$Head", "count", "()I"⟩ prog_5_method_3_code 1 (some FieldType.int) :: tb_all, 10, 487)
abbrev m_Head_textOf : mt_M := (⟨"MailHeads$Head", "textOf", "(II)I"⟩, prog_5_method_5_code, 4, (some FieldType.int), Cond.code ⟨"MailHeads$Head", "textOf", "(II)I"⟩ prog_5_method_5_code 4 (some FieldType.int) :: tb_all, 11, 507)
abbrev m_Texts_sizeOf : mt_M := (⟨"MailHeads$Texts", "sizeOf", "(I)I"⟩, prog_8_method_3_code, 2, (some FieldType.int), Cond.code ⟨"MailHeads$Texts", "sizeOf", "(I)I"⟩ prog_8_method_3_code 2 (some FieldType.int) :: tb_all, 7, 407)
abbrev m_Mail_field : mt_M := (⟨"MailHeads", "field", "(II)I"⟩, prog_1_method_7_code, 3, (some FieldType.int), Cond.code ⟨"MailHeads", "field", "(II)I"⟩ prog_1_method_7_code 3 (some FieldType.int) :: tb_all, 14, 574)
abbrev m_Model_thrown : mt_M := (⟨"MailHeadsModel", "thrown", "()I"⟩, prog_11_method_2_code, 1, (some FieldType.int), Cond.code ⟨"MailHeadsModel", "thrown", "()I"⟩ prog_11_method_2_code 1 (some FieldType.int) :: tb_all, 14, 576)
abbrev m_Model_bad : mt_M := (⟨"MailHeadsModel", "bad", "()I"⟩, prog_11_method_13_code, 1, (some FieldType.int), Cond.code ⟨"MailHeadsModel", "bad", "()I"⟩ prog_11_method_13_code 1 (some FieldType.int) :: tb_all, 14, 576)
abbrev m_Math_min : mt_M := (⟨"java/lang/Math", "min", "(II)I"⟩, prog_16_method_69_code, 2, (some FieldType.int), Cond.code ⟨"java/lang/Math", "min", "(II)I"⟩ prog_16_method_69_code 2 (some FieldType.int) :: tb_all, 5, 369)
abbrev m_Arrays_copyOf : mt_M := (⟨"java/util/Arrays", "copyOf", "([II)[I"⟩, prog_23_method_123_code, 3, (some (FieldType.array FieldType.int)), Cond.code ⟨"java/util/Arrays", "copyOf", "([II)[I"⟩ prog_23_method_123_code 3 (some (FieldType.array FieldType.int)) :: tb_all, 6, 390)
abbrev m_Row_add : mt_M := (⟨"MailHeads$Row", "add", "(I)V"⟩, prog_7_method_4_code, 2, none, Cond.code ⟨"MailHeads$Row", "add", "(I)V"⟩ prog_7_method_4_code 2 none :: tb_all, 7, 412)
abbrev m_Texts_close : mt_M := (⟨"MailHeads$Texts", "close", "()V"⟩, prog_8_method_8_code, 1, none, Cond.code ⟨"MailHeads$Texts", "close", "()V"⟩ prog_8_method_8_code 1 none :: tb_all, 8, 435)
abbrev m_Head_closeValue : mt_M := (⟨"MailHeads$Head", "closeValue", "()V"⟩, prog_5_method_13_code, 1, none, Cond.code ⟨"MailHeads$Head", "closeValue", "()V"⟩ prog_5_method_13_code 1 none :: tb_all, 11, 505)
abbrev m_Row_cutTo : mt_M := (⟨"MailHeads$Row", "cutTo", "(I)V"⟩, prog_7_method_5_code, 2, none, Cond.code ⟨"MailHeads$Row", "cutTo", "(I)V"⟩ prog_7_method_5_code 2 none :: tb_all, 8, 435)
abbrev m_Texts_clear : mt_M := (⟨"MailHeads$Texts", "clear", "()V"⟩, prog_8_method_10_code, 1, none, Cond.code ⟨"MailHeads$Texts", "clear", "()V"⟩ prog_8_method_10_code 1 none :: tb_all, 11, 506)
abbrev m_Mail_isBlank : mt_M := (⟨"MailHeads", "isBlank", "(I)Z"⟩, prog_1_method_21_code, 1, (some FieldType.boolean), Cond.code ⟨"MailHeads", "isBlank", "(I)Z"⟩ prog_1_method_21_code 1 (some FieldType.boolean) :: tb_all, 10, 480)
abbrev m_Head_behindBlanks : mt_M := (⟨"MailHeads$Head", "behindBlanks", "(LMailHeads$Row;II)I"⟩, prog_5_method_11_code, 4, (some FieldType.int), Cond.code ⟨"MailHeads$Head", "behindBlanks", "(LMailHeads$Row;II)I"⟩ prog_5_method_11_code 4 (some FieldType.int) :: tb_all, 11, 502)
abbrev m_Head_nameEnd : mt_M := (⟨"MailHeads$Head", "nameEnd", "(LMailHeads$Row;II)I"⟩, prog_5_method_10_code, 5, (some FieldType.int), Cond.code ⟨"MailHeads$Head", "nameEnd", "(LMailHeads$Row;II)I"⟩ prog_5_method_10_code 5 (some FieldType.int) :: tb_all, 11, 501)
abbrev m_Texts_put : mt_M := (⟨"MailHeads$Texts", "put", "(I)V"⟩, prog_8_method_5_code, 2, none, Cond.code ⟨"MailHeads$Texts", "put", "(I)V"⟩ prog_8_method_5_code 2 none :: tb_all, 8, 433)
abbrev m_Head_putBytes : mt_M := (⟨"MailHeads$Head", "putBytes", "(LMailHeads$Row;II)V"⟩, prog_5_method_12_code, 5, none, Cond.code ⟨"MailHeads$Head", "putBytes", "(LMailHeads$Row;II)V"⟩ prog_5_method_12_code 5 none :: tb_all, 10, 478)
abbrev m_Head_takeFolded : mt_M := (⟨"MailHeads$Head", "takeFolded", "(LMailHeads$Row;II)V"⟩, prog_5_method_9_code, 4, none, Cond.code ⟨"MailHeads$Head", "takeFolded", "(LMailHeads$Row;II)V"⟩ prog_5_method_9_code 4 none :: tb_all, 11, 502)
abbrev m_Head_takeLine : mt_M := (⟨"MailHeads$Head", "takeLine", "(LMailHeads$Row;II)Z"⟩, prog_5_method_8_code, 6, (some FieldType.boolean), Cond.code ⟨"MailHeads$Head", "takeLine", "(LMailHeads$Row;II)Z"⟩ prog_5_method_8_code 6 (some FieldType.boolean) :: tb_all, 12, 525)
abbrev m_Head_readLines : mt_M := (⟨"MailHeads$Head", "readLines", "(LMailHeads$Row;)V"⟩, prog_5_method_7_code, 7, none, Cond.code ⟨"MailHeads$Head", "readLines", "(LMailHeads$Row;)V"⟩ prog_5_method_7_code 7 none :: tb_all, 13, 550)
abbrev m_Mail_read : mt_M := (⟨"MailHeads", "read", "()I"⟩, prog_1_method_4_code, 1, (some FieldType.int), Cond.code ⟨"MailHeads", "read", "()I"⟩ prog_1_method_4_code 1 (some FieldType.int) :: tb_all, 14, 576)
abbrev m_Model_endPart : mt_M := (⟨"MailHeadsModel", "endPart", "(I)V"⟩, prog_11_method_35_code, 2, none, Cond.code ⟨"MailHeadsModel", "endPart", "(I)V"⟩ prog_11_method_35_code 2 none :: tb_all, 11, 492)
abbrev m_Model_areaOf : mt_M := (⟨"MailHeadsModel", "areaOf", "(I)I"⟩, prog_11_method_30_code, 1, (some FieldType.int), Cond.code ⟨"MailHeadsModel", "areaOf", "(I)I"⟩ prog_11_method_30_code 1 (some FieldType.int) :: tb_all, 8, 427)
abbrev m_Model_roomAt : mt_M := (⟨"MailHeadsModel", "roomAt", "(I)I"⟩, prog_11_method_31_code, 2, (some FieldType.int), Cond.code ⟨"MailHeadsModel", "roomAt", "(I)I"⟩ prog_11_method_31_code 2 (some FieldType.int) :: tb_all, 9, 447)
abbrev m_Model_add : mt_M := (⟨"MailHeadsModel", "add", "(II)V"⟩, prog_11_method_33_code, 3, none, Cond.code ⟨"MailHeadsModel", "add", "(II)V"⟩ prog_11_method_33_code 3 none :: tb_all, 10, 468)
abbrev m_Model_isField : mt_M := (⟨"MailHeadsModel", "isField", "(I)Z"⟩, prog_11_method_15_code, 2, (some FieldType.boolean), Cond.code ⟨"MailHeadsModel", "isField", "(I)Z"⟩ prog_11_method_15_code 2 (some FieldType.boolean) :: tb_all, 12, 529)
abbrev m_Model_beginPart : mt_M := (⟨"MailHeadsModel", "beginPart", "(I)V"⟩, prog_11_method_32_code, 3, none, Cond.code ⟨"MailHeadsModel", "beginPart", "(I)V"⟩ prog_11_method_32_code 3 none :: tb_all, 11, 491)
abbrev m_Model_forget : mt_M := (⟨"MailHeadsModel", "forget", "(III)V"⟩, prog_11_method_29_code, 5, none, Cond.code ⟨"MailHeadsModel", "forget", "(III)V"⟩ prog_11_method_29_code 5 none :: tb_all, 13, 544)
abbrev m_Model_identities : mt_M := (⟨"MailHeadsModel", "identities", "(I)I"⟩, prog_11_method_50_code, 9, (some FieldType.int), Cond.code ⟨"MailHeadsModel", "identities", "(I)I"⟩ prog_11_method_50_code 9 (some FieldType.int) :: tb_all, 14, 568)
abbrev m_Model_numberOf : mt_M := (⟨"MailHeadsModel", "numberOf", "(II)I"⟩, prog_11_method_54_code, 5, (some FieldType.int), Cond.code ⟨"MailHeadsModel", "numberOf", "(II)I"⟩ prog_11_method_54_code 5 (some FieldType.int) :: tb_all, 11, 497)
abbrev m_Model_number : mt_M := (⟨"MailHeadsModel", "number", "(I)I"⟩, prog_11_method_55_code, 2, (some FieldType.int), Cond.code ⟨"MailHeadsModel", "number", "(I)I"⟩ prog_11_method_55_code 2 (some FieldType.int) :: tb_all, 12, 521)
abbrev m_Model_isDigit : mt_M := (⟨"MailHeadsModel", "isDigit", "(I)Z"⟩, prog_11_method_8_code, 1, (some FieldType.boolean), Cond.code ⟨"MailHeadsModel", "isDigit", "(I)Z"⟩ prog_11_method_8_code 1 (some FieldType.boolean) :: tb_all, 11, 498)
abbrev m_Model_longOf : mt_M := (⟨"MailHeadsModel", "longOf", "(I)I"⟩, prog_11_method_52_code, 2, (some FieldType.int), Cond.code ⟨"MailHeadsModel", "longOf", "(I)I"⟩ prog_11_method_52_code 2 (some FieldType.int) :: tb_all, 11, 497)
abbrev m_Model_isDigits : mt_M := (⟨"MailHeadsModel", "isDigits", "(III)Z"⟩, prog_11_method_53_code, 5, (some FieldType.boolean), Cond.code ⟨"MailHeadsModel", "isDigits", "(III)Z"⟩ prog_11_method_53_code 5 (some FieldType.boolean) :: tb_all, 12, 518)
abbrev m_Model_two : mt_M := (⟨"MailHeadsModel", "two", "(I)I"⟩, prog_11_method_62_code, 3, (some FieldType.int), Cond.code ⟨"MailHeadsModel", "two", "(I)I"⟩ prog_11_method_62_code 3 (some FieldType.int) :: tb_all, 13, 543)
abbrev m_Model_next : mt_M := (⟨"MailHeadsModel", "next", "(II)I"⟩, prog_11_method_28_code, 4, (some FieldType.int), Cond.code ⟨"MailHeadsModel", "next", "(II)I"⟩ prog_11_method_28_code 4 (some FieldType.int) :: tb_all, 10, 463)
abbrev m_Model_beginWord : mt_M := (⟨"MailHeadsModel", "beginWord", "(II)V"⟩, prog_11_method_19_code, 3, none, Cond.code ⟨"MailHeadsModel", "beginWord", "(II)V"⟩ prog_11_method_19_code 3 none :: tb_all, 11, 496)
abbrev m_Model_endWord : mt_M := (⟨"MailHeadsModel", "endWord", "()V"⟩, prog_11_method_20_code, 1, none, Cond.code ⟨"MailHeadsModel", "endWord", "()V"⟩ prog_11_method_20_code 1 none :: tb_all, 11, 498)
abbrev m_Model_put : mt_M := (⟨"MailHeadsModel", "put", "(I)V"⟩, prog_11_method_21_code, 2, none, Cond.code ⟨"MailHeadsModel", "put", "(I)V"⟩ prog_11_method_21_code 2 none :: tb_all, 11, 497)
abbrev m_Model_takeEnclosed : mt_M := (⟨"MailHeadsModel", "takeEnclosed", "(II)V"⟩, prog_11_method_22_code, 5, none, Cond.code ⟨"MailHeadsModel", "takeEnclosed", "(II)V"⟩ prog_11_method_22_code 5 none :: tb_all, 12, 518)
abbrev m_Model_isNothing : mt_M := (⟨"MailHeadsModel", "isNothing", "(I)Z"⟩, prog_11_method_24_code, 1, (some FieldType.boolean), Cond.code ⟨"MailHeadsModel", "isNothing", "(I)Z"⟩ prog_11_method_24_code 1 (some FieldType.boolean) :: tb_all, 11, 501)
abbrev m_Model_isSign : mt_M := (⟨"MailHeadsModel", "isSign", "(I)Z"⟩, prog_11_method_23_code, 2, (some FieldType.boolean), Cond.code ⟨"MailHeadsModel", "isSign", "(I)Z"⟩ prog_11_method_23_code 2 (some FieldType.boolean) :: tb_all, 11, 500)
abbrev m_Model_look : mt_M := (⟨"MailHeadsModel", "look", "()I"⟩, prog_11_method_18_code, 1, (some FieldType.int), Cond.code ⟨"MailHeadsModel", "look", "()I"⟩ prog_11_method_18_code 1 (some FieldType.int) :: tb_all, 11, 501)
abbrev m_Model_takeAtom : mt_M := (⟨"MailHeadsModel", "takeAtom", "()V"⟩, prog_11_method_26_code, 2, none, Cond.code ⟨"MailHeadsModel", "takeAtom", "()V"⟩ prog_11_method_26_code 2 none :: tb_all, 12, 521)
abbrev m_Model_cut : mt_M := (⟨"MailHeadsModel", "cut", "(IZ)V"⟩, prog_11_method_25_code, 4, none, Cond.code ⟨"MailHeadsModel", "cut", "(IZ)V"⟩ prog_11_method_25_code 4 none :: tb_all, 13, 542)
abbrev m_Model_step : mt_M := (⟨"MailHeadsModel", "step", "()V"⟩, prog_11_method_51_code, 1, none, Cond.code ⟨"MailHeadsModel", "step", "()V"⟩ prog_11_method_51_code 1 none :: tb_all, 13, 545)
abbrev m_Model_isLeap : mt_M := (⟨"MailHeadsModel", "isLeap", "(I)Z"⟩, prog_11_method_59_code, 1, (some FieldType.boolean), Cond.code ⟨"MailHeadsModel", "isLeap", "(I)Z"⟩ prog_11_method_59_code 1 (some FieldType.boolean) :: tb_all, 11, 498)
abbrev m_Model_daysOf : mt_M := (⟨"MailHeadsModel", "daysOf", "(II)I"⟩, prog_11_method_60_code, 2, (some FieldType.int), Cond.code ⟨"MailHeadsModel", "daysOf", "(II)I"⟩ prog_11_method_60_code 2 (some FieldType.int) :: tb_all, 12, 518)
abbrev m_Model_dayNumber : mt_M := (⟨"MailHeadsModel", "dayNumber", "(III)J"⟩, prog_11_method_63_code, 7, (some FieldType.long), Cond.code ⟨"MailHeadsModel", "dayNumber", "(III)J"⟩ prog_11_method_63_code 7 (some FieldType.long) :: tb_all, 13, 539)
abbrev m_Model_small : mt_M := (⟨"MailHeadsModel", "small", "(I)I"⟩, prog_11_method_7_code, 1, (some FieldType.int), Cond.code ⟨"MailHeadsModel", "small", "(I)I"⟩ prog_11_method_7_code 1 (some FieldType.int) :: tb_all, 11, 495)
abbrev m_Model_isThree : mt_M := (⟨"MailHeadsModel", "isThree", "(III)Z"⟩, prog_11_method_56_code, 5, (some FieldType.boolean), Cond.code ⟨"MailHeadsModel", "isThree", "(III)Z"⟩ prog_11_method_56_code 5 (some FieldType.boolean) :: tb_all, 12, 515)
abbrev m_Model_zoneOf : mt_M := (⟨"MailHeadsModel", "zoneOf", "(I)I"⟩, prog_11_method_61_code, 7, (some FieldType.int), Cond.code ⟨"MailHeadsModel", "zoneOf", "(I)I"⟩ prog_11_method_61_code 7 (some FieldType.int) :: tb_all, 13, 539)
abbrev m_Model_monthOf : mt_M := (⟨"MailHeadsModel", "monthOf", "(I)I"⟩, prog_11_method_57_code, 2, (some FieldType.int), Cond.code ⟨"MailHeadsModel", "monthOf", "(I)I"⟩ prog_11_method_57_code 2 (some FieldType.int) :: tb_all, 13, 544)
abbrev m_Model_is : mt_M := (⟨"MailHeadsModel", "is", "(II)Z"⟩, prog_11_method_27_code, 3, (some FieldType.boolean), Cond.code ⟨"MailHeadsModel", "is", "(II)Z"⟩ prog_11_method_27_code 3 (some FieldType.boolean) :: tb_all, 10, 464)
abbrev m_Model_yearOf : mt_M := (⟨"MailHeadsModel", "yearOf", "(I)I"⟩, prog_11_method_58_code, 4, (some FieldType.int), Cond.code ⟨"MailHeadsModel", "yearOf", "(I)I"⟩ prog_11_method_58_code 4 (some FieldType.int) :: tb_all, 13, 542)
abbrev m_Model_date : mt_M := (⟨"MailHeadsModel", "date", "(I)J"⟩, prog_11_method_64_code, 12, (some FieldType.long), Cond.code ⟨"MailHeadsModel", "date", "(I)J"⟩ prog_11_method_64_code 12 (some FieldType.long) :: tb_all, 14, 565)
abbrev m_Object_init : mt_M := (⟨"java/lang/Object", "<init>", "()V"⟩, object_method_1_code, 1, none, Cond.code ⟨"java/lang/Object", "<init>", "()V"⟩ object_method_1_code 1 none :: tb_all, 7, 426)
abbrev m_Throwable_init2 : mt_M := (⟨"java/lang/Throwable", "<init>", "(Ljava/lang/String;)V"⟩, prog_22_method_2_code, 2, none, Cond.code ⟨"java/lang/Throwable", "<init>", "(Ljava/lang/String;)V"⟩ prog_22_method_2_code 2 none :: tb_all, 8, 446)
abbrev m_Exception_init : mt_M := (⟨"java/lang/Exception", "<init>", "(Ljava/lang/String;)V"⟩, prog_14_method_2_code, 2, none, Cond.code ⟨"java/lang/Exception", "<init>", "(Ljava/lang/String;)V"⟩ prog_14_method_2_code 2 none :: tb_all, 9, 467)
abbrev m_RuntimeException_init : mt_M := (⟨"java/lang/RuntimeException", "<init>", "(Ljava/lang/String;)V"⟩, prog_17_method_2_code, 2, none, Cond.code ⟨"java/lang/RuntimeException", "<init>", "(Ljava/lang/String;)V"⟩ prog_17_method_2_code 2 none :: tb_all, 10, 488)
abbrev m_IndexOutOfBoundsException_init : mt_M := (⟨"java/lang/IndexOutOfBoundsException", "<init>", "(Ljava/lang/String;)V"⟩, prog_15_method_2_code, 2, none, Cond.code ⟨"java/lang/IndexOutOfBoundsException", "<init>", "(Ljava/lang/String;)V"⟩ prog_15_method_2_code 2 none :: tb_all, 11, 509)
abbrev m_Mail_valueOf : mt_M := (⟨"MailHeads", "valueOf", "(I)I"⟩, prog_1_method_18_code, 3, (some FieldType.int), Cond.code ⟨"MailHeads", "valueOf", "(I)I"⟩ prog_1_method_18_code 3 (some FieldType.int) :: tb_all, 12, 530)
abbrev m_Texts_byteOf : mt_M := (⟨"MailHeads$Texts", "byteOf", "(II)I"⟩, prog_8_method_4_code, 3, (some FieldType.int), Cond.code ⟨"MailHeads$Texts", "byteOf", "(II)I"⟩ prog_8_method_4_code 3 (some FieldType.int) :: tb_all, 8, 428)
abbrev m_Mail_small : mt_M := (⟨"MailHeads", "small", "(I)I"⟩, prog_1_method_22_code, 1, (some FieldType.int), Cond.code ⟨"MailHeads", "small", "(I)I"⟩ prog_1_method_22_code 1 (some FieldType.int) :: tb_all, 8, 435)
abbrev m_Texts_putSmall : mt_M := (⟨"MailHeads$Texts", "putSmall", "(LMailHeads$Texts;II)V"⟩, prog_8_method_7_code, 5, none, Cond.code ⟨"MailHeads$Texts", "putSmall", "(LMailHeads$Texts;II)V"⟩ prog_8_method_7_code 5 none :: tb_all, 10, 480)
abbrev m_Words_texts : mt_M := (⟨"MailHeads$Words", "texts", "()LMailHeads$Texts;"⟩, prog_9_method_2_code, 1, (some (FieldType.object "MailHeads$Texts")), Cond.code ⟨"MailHeads$Words", "texts", "()LMailHeads$Texts;"⟩ prog_9_method_2_code 1 (some (FieldType.object "MailHeads$Texts")) :: tb_all, 8, 430)
abbrev m_Texts_putText : mt_M := (⟨"MailHeads$Texts", "putText", "(LMailHeads$Texts;I)V"⟩, prog_8_method_6_code, 6, none, Cond.code ⟨"MailHeads$Texts", "putText", "(LMailHeads$Texts;I)V"⟩ prog_8_method_6_code 6 none :: tb_all, 8, 435)
abbrev m_Words_kinds : mt_M := (⟨"MailHeads$Words", "kinds", "()LMailHeads$Row;"⟩, prog_9_method_3_code, 1, (some (FieldType.object "MailHeads$Row")), Cond.code ⟨"MailHeads$Words", "kinds", "()LMailHeads$Row;"⟩ prog_9_method_3_code 1 (some (FieldType.object "MailHeads$Row")) :: tb_all, 6, 395)
abbrev m_Mail_digit : mt_M := (⟨"MailHeads", "digit", "(I)I"⟩, prog_1_method_23_code, 1, (some FieldType.int), Cond.code ⟨"MailHeads", "digit", "(I)I"⟩ prog_1_method_23_code 1 (some FieldType.int) :: tb_all, 8, 430)
abbrev m_ContentType_takeParameter : mt_M := (⟨"MailHeads$ContentType", "takeParameter", "(I)V"⟩, prog_3_method_5_code, 8, none, Cond.code ⟨"MailHeads$ContentType", "takeParameter", "(I)V"⟩ prog_3_method_5_code 8 none :: tb_all, 11, 504)
abbrev m_ContentType_takePart : mt_M := (⟨"MailHeads$ContentType", "takePart", "(I)V"⟩, prog_3_method_4_code, 2, none, Cond.code ⟨"MailHeads$ContentType", "takePart", "(I)V"⟩ prog_3_method_4_code 2 none :: tb_all, 11, 510)
abbrev m_ContentType_readWords : mt_M := (⟨"MailHeads$ContentType", "readWords", "()Z"⟩, prog_3_method_3_code, 2, (some FieldType.boolean), Cond.code ⟨"MailHeads$ContentType", "readWords", "()Z"⟩ prog_3_method_3_code 2 (some FieldType.boolean) :: tb_all, 12, 531)
abbrev m_Math_max : mt_M := (⟨"java/lang/Math", "max", "(II)I"⟩, prog_16_method_65_code, 2, (some FieldType.int), Cond.code ⟨"java/lang/Math", "max", "(II)I"⟩ prog_16_method_65_code 2 (some FieldType.int) :: tb_all, 5, 370)
abbrev m_Texts_dropOpen : mt_M := (⟨"MailHeads$Texts", "dropOpen", "()V"⟩, prog_8_method_9_code, 1, none, Cond.code ⟨"MailHeads$Texts", "dropOpen", "()V"⟩ prog_8_method_9_code 1 none :: tb_all, 9, 456)
abbrev m_Words_putWithin : mt_M := (⟨"MailHeads$Words", "putWithin", "(II)V"⟩, prog_9_method_9_code, 3, none, Cond.code ⟨"MailHeads$Words", "putWithin", "(II)V"⟩ prog_9_method_9_code 3 none :: tb_all, 9, 454)
abbrev m_Words_close : mt_M := (⟨"MailHeads$Words", "close", "(I)V"⟩, prog_9_method_10_code, 2, none, Cond.code ⟨"MailHeads$Words", "close", "(I)V"⟩ prog_9_method_10_code 2 none :: tb_all, 9, 455)
abbrev m_Words_cutComment : mt_M := (⟨"MailHeads$Words", "cutComment", "(IIZ)I"⟩, prog_9_method_6_code, 7, (some FieldType.int), Cond.code ⟨"MailHeads$Words", "cutComment", "(IIZ)I"⟩ prog_9_method_6_code 7 (some FieldType.int) :: tb_all, 10, 476)
abbrev m_Words_cutEnclosed : mt_M := (⟨"MailHeads$Words", "cutEnclosed", "(IIII)I"⟩, prog_9_method_7_code, 7, (some FieldType.int), Cond.code ⟨"MailHeads$Words", "cutEnclosed", "(IIII)I"⟩ prog_9_method_7_code 7 (some FieldType.int) :: tb_all, 10, 476)
abbrev m_String_isLatin1 : mt_M := (⟨"java/lang/String", "isLatin1", "()Z"⟩, prog_18_method_154_code, 1, (some FieldType.boolean), Cond.code ⟨"java/lang/String", "isLatin1", "()Z"⟩ prog_18_method_154_code 1 (some FieldType.boolean) :: tb_all, 6, 394)
abbrev m_StringUTF16_length : mt_M := (⟨"java/lang/StringUTF16", "length", "([B)I"⟩, prog_20_method_6_code, 1, (some FieldType.int), Cond.code ⟨"java/lang/StringUTF16", "length", "([B)I"⟩ prog_20_method_6_code 1 (some FieldType.int) :: tb_all, 2, 303)
abbrev m_StringUTF16_getChar : mt_M := (⟨"java/lang/StringUTF16", "getChar", "([BI)C"⟩, prog_20_method_5_code, 2, (some FieldType.char), Cond.code ⟨"java/lang/StringUTF16", "getChar", "([BI)C"⟩ prog_20_method_5_code 2 (some FieldType.char) :: tb_all, 3, 323)
abbrev m_StringUTF16_indexOfCharUnsafe : mt_M := (⟨"java/lang/StringUTF16", "indexOfCharUnsafe", "([BIII)I"⟩, prog_20_method_48_code, 5, (some FieldType.int), Cond.code ⟨"java/lang/StringUTF16", "indexOfCharUnsafe", "([BIII)I"⟩ prog_20_method_48_code 5 (some FieldType.int) :: tb_all, 4, 344)
abbrev m_Preconditions_checkFromToIndex : mt_M := (⟨"jdk/internal/util/Preconditions", "checkFromToIndex", "(IIILjava/util/function/BiFunction;)I"⟩, prog_24_method_12_code, 4, (some FieldType.int), Cond.code ⟨"jdk/internal/util/Preconditions", "checkFromToIndex", "(IIILjava/util/function/BiFunction;)I"⟩ prog_24_method_12_code 4 (some FieldType.int) :: tb_all, 2, 298)
abbrev m_String_checkBoundsBeginEnd : mt_M := (⟨"java/lang/String", "checkBoundsBeginEnd", "(III)V"⟩, prog_18_method_158_code, 3, none, Cond.code ⟨"java/lang/String", "checkBoundsBeginEnd", "(III)V"⟩ prog_18_method_158_code 3 none :: tb_all, 3, 321)
abbrev m_StringUTF16_checkBoundsBeginEnd : mt_M := (⟨"java/lang/StringUTF16", "checkBoundsBeginEnd", "(II[B)V"⟩, prog_20_method_93_code, 3, none, Cond.code ⟨"java/lang/StringUTF16", "checkBoundsBeginEnd", "(II[B)V"⟩ prog_20_method_93_code 3 none :: tb_all, 4, 343)
abbrev m_StringUTF16_indexOfChar : mt_M := (⟨"java/lang/StringUTF16", "indexOfChar", "([BIII)I"⟩, prog_20_method_47_code, 4, (some FieldType.int), Cond.code ⟨"java/lang/StringUTF16", "indexOfChar", "([BIII)I"⟩ prog_20_method_47_code 4 (some FieldType.int) :: tb_all, 5, 368)
abbrev m_Character_lowSurrogate : mt_M := (⟨"java/lang/Character", "lowSurrogate", "(I)C"⟩, prog_12_method_29_code, 1, (some FieldType.char), Cond.code ⟨"java/lang/Character", "lowSurrogate", "(I)C"⟩ prog_12_method_29_code 1 (some FieldType.char) :: tb_all, 4, 345)
abbrev m_Character_highSurrogate : mt_M := (⟨"java/lang/Character", "highSurrogate", "(I)C"⟩, prog_12_method_28_code, 1, (some FieldType.char), Cond.code ⟨"java/lang/Character", "highSurrogate", "(I)C"⟩ prog_12_method_28_code 1 (some FieldType.char) :: tb_all, 4, 345)
abbrev m_Character_isValidCodePoint : mt_M := (⟨"java/lang/Character", "isValidCodePoint", "(I)Z"⟩, prog_12_method_11_code, 2, (some FieldType.boolean), Cond.code ⟨"java/lang/Character", "isValidCodePoint", "(I)Z"⟩ prog_12_method_11_code 2 (some FieldType.boolean) :: tb_all, 4, 344)
abbrev m_StringUTF16_indexOfSupplementary : mt_M := (⟨"java/lang/StringUTF16", "indexOfSupplementary", "([BIII)I"⟩, prog_20_method_49_code, 7, (some FieldType.int), Cond.code ⟨"java/lang/StringUTF16", "indexOfSupplementary", "([BIII)I"⟩ prog_20_method_49_code 7 (some FieldType.int) :: tb_all, 5, 365)
abbrev m_StringUTF16_indexOf : mt_M := (⟨"java/lang/StringUTF16", "indexOf", "([BIII)I"⟩, prog_20_method_40_code, 4, (some FieldType.int), Cond.code ⟨"java/lang/StringUTF16", "indexOf", "([BIII)I"⟩ prog_20_method_40_code 4 (some FieldType.int) :: tb_all, 6, 391)
abbrev m_String_coder : mt_M := (⟨"java/lang/String", "coder", "()B"⟩, prog_18_method_152_code, 1, (some FieldType.byte), Cond.code ⟨"java/lang/String", "coder", "()B"⟩ prog_18_method_152_code 1 (some FieldType.byte) :: tb_all, 5, 374)
abbrev m_String_length : mt_M := (⟨"java/lang/String", "length", "()I"⟩, prog_18_method_54_code, 1, (some FieldType.int), Cond.code ⟨"java/lang/String", "length", "()I"⟩ prog_18_method_54_code 1 (some FieldType.int) :: tb_all, 6, 394)
abbrev m_StringLatin1_indexOfChar : mt_M := (⟨"java/lang/StringLatin1", "indexOfChar", "([BIII)I"⟩, prog_19_method_23_code, 6, (some FieldType.int), Cond.code ⟨"java/lang/StringLatin1", "indexOfChar", "([BIII)I"⟩ prog_19_method_23_code 6 (some FieldType.int) :: tb_all, 5, 366)
abbrev m_StringLatin1_canEncode : mt_M := (⟨"java/lang/StringLatin1", "canEncode", "(I)Z"⟩, prog_19_method_4_code, 1, (some FieldType.boolean), Cond.code ⟨"java/lang/StringLatin1", "canEncode", "(I)Z"⟩ prog_19_method_4_code 1 (some FieldType.boolean) :: tb_all, 5, 371)
abbrev m_StringLatin1_indexOf : mt_M := (⟨"java/lang/StringLatin1", "indexOf", "([BIII)I"⟩, prog_19_method_22_code, 4, (some FieldType.int), Cond.code ⟨"java/lang/StringLatin1", "indexOf", "([BIII)I"⟩ prog_19_method_22_code 4 (some FieldType.int) :: tb_all, 6, 391)
abbrev m_String_indexOf2 : mt_M := (⟨"java/lang/String", "indexOf", "(II)I"⟩, prog_18_method_80_code, 3, (some FieldType.int), Cond.code ⟨"java/lang/String", "indexOf", "(II)I"⟩ prog_18_method_80_code 3 (some FieldType.int) :: tb_all, 7, 414)
abbrev m_String_indexOf : mt_M := (⟨"java/lang/String", "indexOf", "(I)I"⟩, prog_18_method_79_code, 2, (some FieldType.int), Cond.code ⟨"java/lang/String", "indexOf", "(I)I"⟩ prog_18_method_79_code 2 (some FieldType.int) :: tb_all, 8, 436)
abbrev m_Words_isSign : mt_M := (⟨"MailHeads$Words", "isSign", "(I)Z"⟩, prog_9_method_11_code, 2, (some FieldType.boolean), Cond.code ⟨"MailHeads$Words", "isSign", "(I)Z"⟩ prog_9_method_11_code 2 (some FieldType.boolean) :: tb_all, 9, 457)
abbrev m_Words_isNothing : mt_M := (⟨"MailHeads$Words", "isNothing", "(I)Z"⟩, prog_9_method_12_code, 1, (some FieldType.boolean), Cond.code ⟨"MailHeads$Words", "isNothing", "(I)Z"⟩ prog_9_method_12_code 1 (some FieldType.boolean) :: tb_all, 9, 458)
abbrev m_Words_cutAtom : mt_M := (⟨"MailHeads$Words", "cutAtom", "(II)I"⟩, prog_9_method_8_code, 5, (some FieldType.int), Cond.code ⟨"MailHeads$Words", "cutAtom", "(II)I"⟩ prog_9_method_8_code 5 (some FieldType.int) :: tb_all, 10, 478)
abbrev m_Words_cutWord : mt_M := (⟨"MailHeads$Words", "cutWord", "(IIZ)I"⟩, prog_9_method_5_code, 5, (some FieldType.int), Cond.code ⟨"MailHeads$Words", "cutWord", "(IIZ)I"⟩ prog_9_method_5_code 5 (some FieldType.int) :: tb_all, 11, 502)
abbrev m_Words_cut : mt_M := (⟨"MailHeads$Words", "cut", "(LMailHeads$Texts;ILjava/lang/String;Z)V"⟩, prog_9_method_4_code, 7, none, Cond.code ⟨"MailHeads$Words", "cut", "(LMailHeads$Texts;ILjava/lang/String;Z)V"⟩ prog_9_method_4_code 7 none :: tb_all, 12, 526)
abbrev m_Mail_type : mt_M := (⟨"MailHeads", "type", "(I)Z"⟩, prog_1_method_12_code, 2, (some FieldType.boolean), Cond.code ⟨"MailHeads", "type", "(I)Z"⟩ prog_1_method_12_code 2 (some FieldType.boolean) :: tb_all, 13, 552)
abbrev m_ContentType_byteInHand : mt_M := (⟨"MailHeads$ContentType", "byteInHand", "(ZI)I"⟩, prog_3_method_7_code, 3, (some FieldType.int), Cond.code ⟨"MailHeads$ContentType", "byteInHand", "(ZI)I"⟩ prog_3_method_7_code 3 (some FieldType.int) :: tb_all, 13, 552)
abbrev m_Mail_parameterByte : mt_M := (⟨"MailHeads", "parameterByte", "(ZI)I"⟩, prog_1_method_17_code, 3, (some FieldType.int), Cond.code ⟨"MailHeads", "parameterByte", "(ZI)I"⟩ prog_1_method_17_code 3 (some FieldType.int) :: tb_all, 14, 574)
abbrev m_Model_takeParameter : mt_M := (⟨"MailHeadsModel", "takeParameter", "(I)V"⟩, prog_11_method_67_code, 8, none, Cond.code ⟨"MailHeadsModel", "takeParameter", "(I)V"⟩ prog_11_method_67_code 8 none :: tb_all, 13, 544)
abbrev m_Model_makeSmall : mt_M := (⟨"MailHeadsModel", "makeSmall", "(II)V"⟩, prog_11_method_65_code, 4, none, Cond.code ⟨"MailHeadsModel", "makeSmall", "(II)V"⟩ prog_11_method_65_code 4 none :: tb_all, 13, 548)
abbrev m_Model_type : mt_M := (⟨"MailHeadsModel", "type", "(I)Z"⟩, prog_11_method_66_code, 6, (some FieldType.boolean), Cond.code ⟨"MailHeadsModel", "type", "(I)Z"⟩ prog_11_method_66_code 6 (some FieldType.boolean) :: tb_all, 14, 571)
abbrev m_Head_badLines : mt_M := (⟨"MailHeads$Head", "badLines", "()I"⟩, prog_5_method_4_code, 1, (some FieldType.int), Cond.code ⟨"MailHeads$Head", "badLines", "()I"⟩ prog_5_method_4_code 1 (some FieldType.int) :: tb_all, 13, 556)
abbrev m_Mail_bad : mt_M := (⟨"MailHeads", "bad", "()I"⟩, prog_1_method_5_code, 1, (some FieldType.int), Cond.code ⟨"MailHeads", "bad", "()I"⟩ prog_1_method_5_code 1 (some FieldType.int) :: tb_all, 14, 576)
abbrev m_Model_readyWord : mt_M := (⟨"MailHeadsModel", "readyWord", "(II)V"⟩, prog_11_method_3_code, 4, none, Cond.code ⟨"MailHeadsModel", "readyWord", "(II)V"⟩ prog_11_method_3_code 4 none :: tb_all, 13, 548)
abbrev m_Model_feed : mt_M := (⟨"MailHeadsModel", "feed", "(IIIII)V"⟩, prog_11_method_4_code, 6, none, Cond.code ⟨"MailHeadsModel", "feed", "(IIIII)V"⟩ prog_11_method_4_code 6 none :: tb_all, 14, 571)
abbrev m_Model_sixteenth : mt_M := (⟨"MailHeadsModel", "sixteenth", "(I)I"⟩, prog_11_method_70_code, 1, (some FieldType.int), Cond.code ⟨"MailHeadsModel", "sixteenth", "(I)I"⟩ prog_11_method_70_code 1 (some FieldType.int) :: tb_all, 12, 528)
abbrev m_Model_behindCharset : mt_M := (⟨"MailHeadsModel", "behindCharset", "(I)I"⟩, prog_11_method_71_code, 7, (some FieldType.int), Cond.code ⟨"MailHeadsModel", "behindCharset", "(I)I"⟩ prog_11_method_71_code 7 (some FieldType.int) :: tb_all, 12, 522)
abbrev m_Model_takeValue : mt_M := (⟨"MailHeadsModel", "takeValue", "(I)V"⟩, prog_11_method_72_code, 5, none, Cond.code ⟨"MailHeadsModel", "takeValue", "(I)V"⟩ prog_11_method_72_code 5 none :: tb_all, 13, 548)
abbrev m_Model_isNamed : mt_M := (⟨"MailHeadsModel", "isNamed", "(II)Z"⟩, prog_11_method_68_code, 4, (some FieldType.boolean), Cond.code ⟨"MailHeadsModel", "isNamed", "(II)Z"⟩ prog_11_method_68_code 4 (some FieldType.boolean) :: tb_all, 12, 526)
abbrev m_Model_parameterOf : mt_M := (⟨"MailHeadsModel", "parameterOf", "(II)I"⟩, prog_11_method_69_code, 4, (some FieldType.int), Cond.code ⟨"MailHeadsModel", "parameterOf", "(II)I"⟩ prog_11_method_69_code 4 (some FieldType.int) :: tb_all, 13, 549)
abbrev m_Model_parameter : mt_M := (⟨"MailHeadsModel", "parameter", "()I"⟩, prog_11_method_73_code, 5, (some FieldType.int), Cond.code ⟨"MailHeadsModel", "parameter", "()I"⟩ prog_11_method_73_code 5 (some FieldType.int) :: tb_all, 14, 572)
abbrev m_Addresses_count : mt_M := (⟨"MailHeads$Addresses", "count", "()I"⟩, prog_2_method_4_code, 1, (some FieldType.int), Cond.code ⟨"MailHeads$Addresses", "count", "()I"⟩ prog_2_method_4_code 1 (some FieldType.int) :: tb_all, 11, 509)
abbrev m_Addresses_kindAt : mt_M := (⟨"MailHeads$Addresses", "kindAt", "(I)I"⟩, prog_2_method_13_code, 2, (some FieldType.int), Cond.code ⟨"MailHeads$Addresses", "kindAt", "(I)I"⟩ prog_2_method_13_code 2 (some FieldType.int) :: tb_all, 7, 415)
abbrev m_Addresses_putName : mt_M := (⟨"MailHeads$Addresses", "putName", "(LMailHeads$Texts;I)V"⟩, prog_2_method_19_code, 4, none, Cond.code ⟨"MailHeads$Addresses", "putName", "(LMailHeads$Texts;I)V"⟩ prog_2_method_19_code 4 none :: tb_all, 9, 461)
abbrev m_Addresses_isName : mt_M := (⟨"MailHeads$Addresses", "isName", "(I)Z"⟩, prog_2_method_15_code, 4, (some FieldType.boolean), Cond.code ⟨"MailHeads$Addresses", "isName", "(I)Z"⟩ prog_2_method_15_code 4 (some FieldType.boolean) :: tb_all, 9, 461)
abbrev m_Addresses_takeColon : mt_M := (⟨"MailHeads$Addresses", "takeColon", "()V"⟩, prog_2_method_11_code, 1, none, Cond.code ⟨"MailHeads$Addresses", "takeColon", "()V"⟩ prog_2_method_11_code 1 none :: tb_all, 10, 488)
abbrev m_Addresses_dottedEnd : mt_M := (⟨"MailHeads$Addresses", "dottedEnd", "(IIZ)I"⟩, prog_2_method_17_code, 6, (some FieldType.int), Cond.code ⟨"MailHeads$Addresses", "dottedEnd", "(IIZ)I"⟩ prog_2_method_17_code 6 (some FieldType.int) :: tb_all, 8, 436)
abbrev m_Addresses_putWords : mt_M := (⟨"MailHeads$Addresses", "putWords", "(II)V"⟩, prog_2_method_20_code, 5, none, Cond.code ⟨"MailHeads$Addresses", "putWords", "(II)V"⟩ prog_2_method_20_code 5 none :: tb_all, 9, 460)
abbrev m_Addresses_behindRoute : mt_M := (⟨"MailHeads$Addresses", "behindRoute", "(II)I"⟩, prog_2_method_16_code, 5, (some FieldType.int), Cond.code ⟨"MailHeads$Addresses", "behindRoute", "(II)I"⟩ prog_2_method_16_code 5 (some FieldType.int) :: tb_all, 9, 460)
abbrev m_Addresses_firstOpen : mt_M := (⟨"MailHeads$Addresses", "firstOpen", "()I"⟩, prog_2_method_14_code, 2, (some FieldType.int), Cond.code ⟨"MailHeads$Addresses", "firstOpen", "()I"⟩ prog_2_method_14_code 2 (some FieldType.int) :: tb_all, 9, 463)
abbrev m_Addresses_isDomainBehind : mt_M := (⟨"MailHeads$Addresses", "isDomainBehind", "(II)Z"⟩, prog_2_method_18_code, 4, (some FieldType.boolean), Cond.code ⟨"MailHeads$Addresses", "isDomainBehind", "(II)Z"⟩ prog_2_method_18_code 4 (some FieldType.boolean) :: tb_all, 9, 461)
abbrev m_Addresses_takeMailbox : mt_M := (⟨"MailHeads$Addresses", "takeMailbox", "()Z"⟩, prog_2_method_12_code, 5, (some FieldType.boolean), Cond.code ⟨"MailHeads$Addresses", "takeMailbox", "()Z"⟩ prog_2_method_12_code 5 (some FieldType.boolean) :: tb_all, 10, 484)
abbrev m_Addresses_beginGathering : mt_M := (⟨"MailHeads$Addresses", "beginGathering", "()V"⟩, prog_2_method_9_code, 1, none, Cond.code ⟨"MailHeads$Addresses", "beginGathering", "()V"⟩ prog_2_method_9_code 1 none :: tb_all, 10, 488)
abbrev m_Addresses_takeGathered : mt_M := (⟨"MailHeads$Addresses", "takeGathered", "(I)V"⟩, prog_2_method_10_code, 2, none, Cond.code ⟨"MailHeads$Addresses", "takeGathered", "(I)V"⟩ prog_2_method_10_code 2 none :: tb_all, 11, 508)
abbrev m_Addresses_readWords : mt_M := (⟨"MailHeads$Addresses", "readWords", "()V"⟩, prog_2_method_8_code, 4, none, Cond.code ⟨"MailHeads$Addresses", "readWords", "()V"⟩ prog_2_method_8_code 4 none :: tb_all, 12, 529)
abbrev m_Mail_addresses : mt_M := (⟨"MailHeads", "addresses", "(I)I"⟩, prog_1_method_9_code, 2, (some FieldType.int), Cond.code ⟨"MailHeads", "addresses", "(I)I"⟩ prog_1_method_9_code 2 (some FieldType.int) :: tb_all, 13, 552)
abbrev m_Identities_texts : mt_M := (⟨"MailHeads$Identities", "texts", "()LMailHeads$Texts;"⟩, prog_6_method_2_code, 1, (some (FieldType.object "MailHeads$Texts")), Cond.code ⟨"MailHeads$Identities", "texts", "()LMailHeads$Texts;"⟩ prog_6_method_2_code 1 (some (FieldType.object "MailHeads$Texts")) :: tb_all, 12, 532)
abbrev m_ContentType_parts : mt_M := (⟨"MailHeads$ContentType", "parts", "()LMailHeads$Texts;"⟩, prog_3_method_2_code, 1, (some (FieldType.object "MailHeads$Texts")), Cond.code ⟨"MailHeads$ContentType", "parts", "()LMailHeads$Texts;"⟩ prog_3_method_2_code 1 (some (FieldType.object "MailHeads$Texts")) :: tb_all, 12, 532)
abbrev m_Addresses_texts : mt_M := (⟨"MailHeads$Addresses", "texts", "()LMailHeads$Texts;"⟩, prog_2_method_2_code, 1, (some (FieldType.object "MailHeads$Texts")), Cond.code ⟨"MailHeads$Addresses", "texts", "()LMailHeads$Texts;"⟩ prog_2_method_2_code 1 (some (FieldType.object "MailHeads$Texts")) :: tb_all, 12, 532)
abbrev m_Mail_textsFor : mt_M := (⟨"MailHeads", "textsFor", "(I)LMailHeads$Texts;"⟩, prog_1_method_19_code, 2, (some (FieldType.object "MailHeads$Texts")), Cond.code ⟨"MailHeads", "textsFor", "(I)LMailHeads$Texts;"⟩ prog_1_method_19_code 2 (some (FieldType.object "MailHeads$Texts")) :: tb_all, 13, 552)
abbrev m_Addresses_textOf : mt_M := (⟨"MailHeads$Addresses", "textOf", "(II)I"⟩, prog_2_method_7_code, 3, (some FieldType.int), Cond.code ⟨"MailHeads$Addresses", "textOf", "(II)I"⟩ prog_2_method_7_code 3 (some FieldType.int) :: tb_all, 12, 529)
abbrev m_Mail_textFor : mt_M := (⟨"MailHeads", "textFor", "(II)I"⟩, prog_1_method_20_code, 3, (some FieldType.int), Cond.code ⟨"MailHeads", "textFor", "(II)I"⟩ prog_1_method_20_code 3 (some FieldType.int) :: tb_all, 13, 551)
abbrev m_Mail_length : mt_M := (⟨"MailHeads", "length", "(II)I"⟩, prog_1_method_14_code, 3, (some FieldType.int), Cond.code ⟨"MailHeads", "length", "(II)I"⟩ prog_1_method_14_code 3 (some FieldType.int) :: tb_all, 14, 574)
abbrev m_DateReader_digits : mt_M := (⟨"MailHeads$DateReader", "digits", "(II)I"⟩, prog_4_method_7_code, 6, (some FieldType.int), Cond.code ⟨"MailHeads$DateReader", "digits", "(II)I"⟩ prog_4_method_7_code 6 (some FieldType.int) :: tb_all, 9, 450)
abbrev m_DateReader_takeNumber : mt_M := (⟨"MailHeads$DateReader", "takeNumber", "(II)I"⟩, prog_4_method_3_code, 5, (some FieldType.int), Cond.code ⟨"MailHeads$DateReader", "takeNumber", "(II)I"⟩ prog_4_method_3_code 5 (some FieldType.int) :: tb_all, 10, 475)
abbrev m_DateReader_isLetter : mt_M := (⟨"MailHeads$DateReader", "isLetter", "(II)Z"⟩, prog_4_method_9_code, 3, (some FieldType.boolean), Cond.code ⟨"MailHeads$DateReader", "isLetter", "(II)Z"⟩ prog_4_method_9_code 3 (some FieldType.boolean) :: tb_all, 9, 455)
abbrev m_Preconditions_checkIndex : mt_M := (⟨"jdk/internal/util/Preconditions", "checkIndex", "(IILjava/util/function/BiFunction;)I"⟩, prog_24_method_11_code, 3, (some FieldType.int), Cond.code ⟨"jdk/internal/util/Preconditions", "checkIndex", "(IILjava/util/function/BiFunction;)I"⟩ prog_24_method_11_code 3 (some FieldType.int) :: tb_all, 5, 371)
abbrev m_String_checkIndex : mt_M := (⟨"java/lang/String", "checkIndex", "(II)V"⟩, prog_18_method_155_code, 2, none, Cond.code ⟨"java/lang/String", "checkIndex", "(II)V"⟩ prog_18_method_155_code 2 none :: tb_all, 6, 393)
abbrev m_StringLatin1_charAt : mt_M := (⟨"java/lang/StringLatin1", "charAt", "([BI)C"⟩, prog_19_method_2_code, 2, (some FieldType.char), Cond.code ⟨"java/lang/StringLatin1", "charAt", "([BI)C"⟩ prog_19_method_2_code 2 (some FieldType.char) :: tb_all, 8, 435)
abbrev m_StringUTF16_checkIndex : mt_M := (⟨"java/lang/StringUTF16", "checkIndex", "(I[B)V"⟩, prog_20_method_91_code, 2, none, Cond.code ⟨"java/lang/StringUTF16", "checkIndex", "(I[B)V"⟩ prog_20_method_91_code 2 none :: tb_all, 7, 414)
abbrev m_StringUTF16_charAt : mt_M := (⟨"java/lang/StringUTF16", "charAt", "([BI)C"⟩, prog_20_method_83_code, 2, (some FieldType.char), Cond.code ⟨"java/lang/StringUTF16", "charAt", "([BI)C"⟩ prog_20_method_83_code 2 (some FieldType.char) :: tb_all, 8, 435)
abbrev m_String_charAt : mt_M := (⟨"java/lang/String", "charAt", "(I)C"⟩, prog_18_method_56_code, 2, (some FieldType.char), Cond.code ⟨"java/lang/String", "charAt", "(I)C"⟩ prog_18_method_56_code 2 (some FieldType.char) :: tb_all, 9, 456)
abbrev m_DateReader_threeLetters : mt_M := (⟨"MailHeads$DateReader", "threeLetters", "(Ljava/lang/String;)I"⟩, prog_4_method_8_code, 3, (some FieldType.int), Cond.code ⟨"MailHeads$DateReader", "threeLetters", "(Ljava/lang/String;)I"⟩ prog_4_method_8_code 3 (some FieldType.int) :: tb_all, 10, 477)
abbrev m_DateReader_takeMonth : mt_M := (⟨"MailHeads$DateReader", "takeMonth", "()I"⟩, prog_4_method_4_code, 2, (some FieldType.int), Cond.code ⟨"MailHeads$DateReader", "takeMonth", "()I"⟩ prog_4_method_4_code 2 (some FieldType.int) :: tb_all, 11, 500)
abbrev m_DateReader_takeColon : mt_M := (⟨"MailHeads$DateReader", "takeColon", "()Z"⟩, prog_4_method_6_code, 2, (some FieldType.boolean), Cond.code ⟨"MailHeads$DateReader", "takeColon", "()Z"⟩ prog_4_method_6_code 2 (some FieldType.boolean) :: tb_all, 11, 500)
abbrev m_DateReader_isBelow : mt_M := (⟨"MailHeads$DateReader", "isBelow", "(II)Z"⟩, prog_4_method_12_code, 2, (some FieldType.boolean), Cond.code ⟨"MailHeads$DateReader", "isBelow", "(II)Z"⟩ prog_4_method_12_code 2 (some FieldType.boolean) :: tb_all, 9, 454)
abbrev m_DateReader_daysAhead : mt_M := (⟨"MailHeads$DateReader", "daysAhead", "(I)I"⟩, prog_4_method_16_code, 2, (some FieldType.int), Cond.code ⟨"MailHeads$DateReader", "daysAhead", "(I)I"⟩ prog_4_method_16_code 2 (some FieldType.int) :: tb_all, 10, 476)
abbrev m_DateReader_daysOf : mt_M := (⟨"MailHeads$DateReader", "daysOf", "(II)I"⟩, prog_4_method_14_code, 3, (some FieldType.int), Cond.code ⟨"MailHeads$DateReader", "daysOf", "(II)I"⟩ prog_4_method_14_code 3 (some FieldType.int) :: tb_all, 10, 475)
abbrev m_DateReader_daysSince1970 : mt_M := (⟨"MailHeads$DateReader", "daysSince1970", "(III)I"⟩, prog_4_method_15_code, 5, (some FieldType.int), Cond.code ⟨"MailHeads$DateReader", "daysSince1970", "(III)I"⟩ prog_4_method_15_code 5 (some FieldType.int) :: tb_all, 11, 497)
abbrev m_DateReader_signedZone : mt_M := (⟨"MailHeads$DateReader", "signedZone", "(I)I"⟩, prog_4_method_11_code, 5, (some FieldType.int), Cond.code ⟨"MailHeads$DateReader", "signedZone", "(I)I"⟩ prog_4_method_11_code 5 (some FieldType.int) :: tb_all, 10, 475)
abbrev m_DateReader_zoneSeconds : mt_M := (⟨"MailHeads$DateReader", "zoneSeconds", "()I"⟩, prog_4_method_10_code, 3, (some FieldType.int), Cond.code ⟨"MailHeads$DateReader", "zoneSeconds", "()I"⟩ prog_4_method_10_code 3 (some FieldType.int) :: tb_all, 11, 499)
abbrev m_DateReader_takeYear : mt_M := (⟨"MailHeads$DateReader", "takeYear", "()I"⟩, prog_4_method_5_code, 3, (some FieldType.int), Cond.code ⟨"MailHeads$DateReader", "takeYear", "()I"⟩ prog_4_method_5_code 3 (some FieldType.int) :: tb_all, 11, 499)
abbrev m_DateReader_isDay : mt_M := (⟨"MailHeads$DateReader", "isDay", "(III)Z"⟩, prog_4_method_13_code, 3, (some FieldType.boolean), Cond.code ⟨"MailHeads$DateReader", "isDay", "(III)Z"⟩ prog_4_method_13_code 3 (some FieldType.boolean) :: tb_all, 11, 499)
abbrev m_DateReader_seconds : mt_M := (⟨"MailHeads$DateReader", "seconds", "()J"⟩, prog_4_method_2_code, 12, (some FieldType.long), Cond.code ⟨"MailHeads$DateReader", "seconds", "()J"⟩ prog_4_method_2_code 12 (some FieldType.long) :: tb_all, 12, 521)
abbrev m_Mail_date : mt_M := (⟨"MailHeads", "date", "(I)J"⟩, prog_1_method_11_code, 2, (some FieldType.long), Cond.code ⟨"MailHeads", "date", "(I)J"⟩ prog_1_method_11_code 2 (some FieldType.long) :: tb_all, 13, 552)
abbrev m_Mail_feed : mt_M := (⟨"MailHeads", "feed", "(IIIII)V"⟩, prog_1_method_2_code, 6, none, Cond.code ⟨"MailHeads", "feed", "(IIIII)V"⟩ prog_1_method_2_code 6 none :: tb_all, 14, 571)
abbrev m_Model_at : mt_M := (⟨"MailHeadsModel", "at", "(III)I"⟩, prog_11_method_37_code, 5, (some FieldType.int), Cond.code ⟨"MailHeadsModel", "at", "(III)I"⟩ prog_11_method_37_code 5 (some FieldType.int) :: tb_all, 14, 572)
abbrev m_Model_field : mt_M := (⟨"MailHeadsModel", "field", "(II)I"⟩, prog_11_method_16_code, 3, (some FieldType.int), Cond.code ⟨"MailHeadsModel", "field", "(II)I"⟩ prog_11_method_16_code 3 (some FieldType.int) :: tb_all, 13, 550)
abbrev m_Model_fieldByte : mt_M := (⟨"MailHeadsModel", "fieldByte", "(III)I"⟩, prog_11_method_17_code, 5, (some FieldType.int), Cond.code ⟨"MailHeadsModel", "fieldByte", "(III)I"⟩ prog_11_method_17_code 5 (some FieldType.int) :: tb_all, 14, 572)
abbrev m_Model_init : mt_M := (⟨"MailHeadsModel", "<init>", "()V"⟩, prog_11_method_1_code, 1, none, Cond.code ⟨"MailHeadsModel", "<init>", "()V"⟩ prog_11_method_1_code 1 none :: tb_all, 14, 576)
abbrev m_Model_end : mt_M := (⟨"MailHeadsModel", "end", "(I)I"⟩, prog_11_method_5_code, 3, (some FieldType.int), Cond.code ⟨"MailHeadsModel", "end", "(I)I"⟩ prog_11_method_5_code 3 (some FieldType.int) :: tb_all, 14, 574)
abbrev m_ContentType_quoteFrom : mt_M := (⟨"MailHeads$ContentType", "quoteFrom", "(II)I"⟩, prog_3_method_10_code, 5, (some FieldType.int), Cond.code ⟨"MailHeads$ContentType", "quoteFrom", "(II)I"⟩ prog_3_method_10_code 5 (some FieldType.int) :: tb_all, 11, 503)
abbrev m_ContentType_putCharset : mt_M := (⟨"MailHeads$ContentType", "putCharset", "(I)I"⟩, prog_3_method_9_code, 4, (some FieldType.int), Cond.code ⟨"MailHeads$ContentType", "putCharset", "(I)I"⟩ prog_3_method_9_code 4 (some FieldType.int) :: tb_all, 12, 527)
abbrev m_Texts_isNamed : mt_M := (⟨"MailHeads$Texts", "isNamed", "(ILMailHeads$Row;)Z"⟩, prog_8_method_11_code, 4, (some FieldType.boolean), Cond.code ⟨"MailHeads$Texts", "isNamed", "(ILMailHeads$Row;)Z"⟩ prog_8_method_11_code 4 (some FieldType.boolean) :: tb_all, 11, 504)
abbrev m_ContentType_firstOf : mt_M := (⟨"MailHeads$ContentType", "firstOf", "(LMailHeads$Row;I)I"⟩, prog_3_method_8_code, 4, (some FieldType.int), Cond.code ⟨"MailHeads$ContentType", "firstOf", "(LMailHeads$Row;I)I"⟩ prog_3_method_8_code 4 (some FieldType.int) :: tb_all, 12, 527)
abbrev m_ContentType_hexDigit : mt_M := (⟨"MailHeads$ContentType", "hexDigit", "(I)I"⟩, prog_3_method_13_code, 2, (some FieldType.int), Cond.code ⟨"MailHeads$ContentType", "hexDigit", "(I)I"⟩ prog_3_method_13_code 2 (some FieldType.int) :: tb_all, 10, 478)
abbrev m_ContentType_hexadecimal : mt_M := (⟨"MailHeads$ContentType", "hexadecimal", "(II)I"⟩, prog_3_method_12_code, 5, (some FieldType.int), Cond.code ⟨"MailHeads$ContentType", "hexadecimal", "(II)I"⟩ prog_3_method_12_code 5 (some FieldType.int) :: tb_all, 11, 499)
abbrev m_ContentType_putBytes : mt_M := (⟨"MailHeads$ContentType", "putBytes", "(II)V"⟩, prog_3_method_11_code, 8, none, Cond.code ⟨"MailHeads$ContentType", "putBytes", "(II)V"⟩ prog_3_method_11_code 8 none :: tb_all, 12, 523)
abbrev m_ContentType_takeInHand : mt_M := (⟨"MailHeads$ContentType", "takeInHand", "(LMailHeads$Row;)I"⟩, prog_3_method_6_code, 6, (some FieldType.int), Cond.code ⟨"MailHeads$ContentType", "takeInHand", "(LMailHeads$Row;)I"⟩ prog_3_method_6_code 6 (some FieldType.int) :: tb_all, 13, 550)
abbrev m_Mail_parameter : mt_M := (⟨"MailHeads", "parameter", "()I"⟩, prog_1_method_16_code, 2, (some FieldType.int), Cond.code ⟨"MailHeads", "parameter", "()I"⟩ prog_1_method_16_code 2 (some FieldType.int) :: tb_all, 14, 575)
abbrev m_Mail_fieldByte : mt_M := (⟨"MailHeads", "fieldByte", "(III)I"⟩, prog_1_method_8_code, 4, (some FieldType.int), Cond.code ⟨"MailHeads", "fieldByte", "(III)I"⟩ prog_1_method_8_code 4 (some FieldType.int) :: tb_all, 14, 573)
abbrev m_DateReader_init : mt_M := (⟨"MailHeads$DateReader", "<init>", "(LMailHeads$Words;)V"⟩, prog_4_method_1_code, 2, none, Cond.code ⟨"MailHeads$DateReader", "<init>", "(LMailHeads$Words;)V"⟩ prog_4_method_1_code 2 none :: tb_all, 13, 555)
abbrev m_Row_init : mt_M := (⟨"MailHeads$Row", "<init>", "()V"⟩, prog_7_method_1_code, 1, none, Cond.code ⟨"MailHeads$Row", "<init>", "()V"⟩ prog_7_method_1_code 1 none :: tb_all, 11, 515)
abbrev m_Texts_init : mt_M := (⟨"MailHeads$Texts", "<init>", "()V"⟩, prog_8_method_1_code, 1, none, Cond.code ⟨"MailHeads$Texts", "<init>", "()V"⟩ prog_8_method_1_code 1 none :: tb_all, 12, 535)
abbrev m_Words_init : mt_M := (⟨"MailHeads$Words", "<init>", "()V"⟩, prog_9_method_1_code, 1, none, Cond.code ⟨"MailHeads$Words", "<init>", "()V"⟩ prog_9_method_1_code 1 none :: tb_all, 13, 556)
abbrev m_ContentType_init : mt_M := (⟨"MailHeads$ContentType", "<init>", "(LMailHeads$Words;)V"⟩, prog_3_method_1_code, 2, none, Cond.code ⟨"MailHeads$ContentType", "<init>", "(LMailHeads$Words;)V"⟩ prog_3_method_1_code 2 none :: tb_all, 13, 555)
abbrev m_Addresses_init : mt_M := (⟨"MailHeads$Addresses", "<init>", "(LMailHeads$Words;)V"⟩, prog_2_method_1_code, 2, none, Cond.code ⟨"MailHeads$Addresses", "<init>", "(LMailHeads$Words;)V"⟩ prog_2_method_1_code 2 none :: tb_all, 13, 555)
abbrev m_Head_init : mt_M := (⟨"MailHeads$Head", "<init>", "()V"⟩, prog_5_method_1_code, 1, none, Cond.code ⟨"MailHeads$Head", "<init>", "()V"⟩ prog_5_method_1_code 1 none :: tb_all, 13, 556)
abbrev m_Identities_init : mt_M := (⟨"MailHeads$Identities", "<init>", "()V"⟩, prog_6_method_1_code, 1, none, Cond.code ⟨"MailHeads$Identities", "<init>", "()V"⟩ prog_6_method_1_code 1 none :: tb_all, 13, 556)
abbrev m_Mail_init : mt_M := (⟨"MailHeads", "<init>", "()V"⟩, prog_1_method_1_code, 1, none, Cond.code ⟨"MailHeads", "<init>", "()V"⟩ prog_1_method_1_code 1 none :: tb_all, 14, 576)
abbrev m_Model_find : mt_M := (⟨"MailHeadsModel", "find", "()I"⟩, prog_11_method_14_code, 5, (some FieldType.int), Cond.code ⟨"MailHeadsModel", "find", "()I"⟩ prog_11_method_14_code 5 (some FieldType.int) :: tb_all, 14, 572)
abbrev m_Model_isName : mt_M := (⟨"MailHeadsModel", "isName", "(II)Z"⟩, prog_11_method_38_code, 5, (some FieldType.boolean), Cond.code ⟨"MailHeadsModel", "isName", "(II)Z"⟩ prog_11_method_38_code 5 (some FieldType.boolean) :: tb_all, 12, 514)
abbrev m_Model_addWord : mt_M := (⟨"MailHeadsModel", "addWord", "(II)V"⟩, prog_11_method_34_code, 4, none, Cond.code ⟨"MailHeadsModel", "addWord", "(II)V"⟩ prog_11_method_34_code 4 none :: tb_all, 11, 490)
abbrev m_Model_makeName : mt_M := (⟨"MailHeadsModel", "makeName", "(III)V"⟩, prog_11_method_39_code, 6, none, Cond.code ⟨"MailHeadsModel", "makeName", "(III)V"⟩ prog_11_method_39_code 6 none :: tb_all, 12, 513)
abbrev m_Model_beginGroup : mt_M := (⟨"MailHeadsModel", "beginGroup", "(II)V"⟩, prog_11_method_47_code, 4, none, Cond.code ⟨"MailHeadsModel", "beginGroup", "(II)V"⟩ prog_11_method_47_code 4 none :: tb_all, 13, 545)
abbrev m_Model_isRowWord : mt_M := (⟨"MailHeadsModel", "isRowWord", "(IIZ)Z"⟩, prog_11_method_41_code, 4, (some FieldType.boolean), Cond.code ⟨"MailHeadsModel", "isRowWord", "(IIZ)Z"⟩ prog_11_method_41_code 4 (some FieldType.boolean) :: tb_all, 10, 463)
abbrev m_Model_rowEnd : mt_M := (⟨"MailHeadsModel", "rowEnd", "(IIZ)I"⟩, prog_11_method_40_code, 8, (some FieldType.int), Cond.code ⟨"MailHeadsModel", "rowEnd", "(IIZ)I"⟩ prog_11_method_40_code 8 (some FieldType.int) :: tb_all, 11, 486)
abbrev m_Model_isSpec : mt_M := (⟨"MailHeadsModel", "isSpec", "(II)Z"⟩, prog_11_method_42_code, 6, (some FieldType.boolean), Cond.code ⟨"MailHeadsModel", "isSpec", "(II)Z"⟩ prog_11_method_42_code 6 (some FieldType.boolean) :: tb_all, 12, 513)
abbrev m_Model_behindRoute : mt_M := (⟨"MailHeadsModel", "behindRoute", "(II)I"⟩, prog_11_method_45_code, 4, (some FieldType.int), Cond.code ⟨"MailHeadsModel", "behindRoute", "(II)I"⟩ prog_11_method_45_code 4 (some FieldType.int) :: tb_all, 12, 515)
abbrev m_Model_makeWords : mt_M := (⟨"MailHeadsModel", "makeWords", "(III)V"⟩, prog_11_method_43_code, 5, none, Cond.code ⟨"MailHeadsModel", "makeWords", "(III)V"⟩ prog_11_method_43_code 5 none :: tb_all, 12, 514)
abbrev m_Model_makeComment : mt_M := (⟨"MailHeadsModel", "makeComment", "(II)V"⟩, prog_11_method_44_code, 5, none, Cond.code ⟨"MailHeadsModel", "makeComment", "(II)V"⟩ prog_11_method_44_code 5 none :: tb_all, 12, 514)
abbrev m_Model_takeMailbox : mt_M := (⟨"MailHeadsModel", "takeMailbox", "(IIZI)V"⟩, prog_11_method_46_code, 11, none, Cond.code ⟨"MailHeadsModel", "takeMailbox", "(IIZI)V"⟩ prog_11_method_46_code 11 none :: tb_all, 13, 538)
abbrev m_Model_addresses : mt_M := (⟨"MailHeadsModel", "addresses", "(I)I"⟩, prog_11_method_48_code, 9, (some FieldType.int), Cond.code ⟨"MailHeadsModel", "addresses", "(I)I"⟩ prog_11_method_48_code 9 (some FieldType.int) :: tb_all, 14, 568)
abbrev m_Model_group : mt_M := (⟨"MailHeadsModel", "group", "(II)I"⟩, prog_11_method_49_code, 3, (some FieldType.int), Cond.code ⟨"MailHeadsModel", "group", "(II)I"⟩ prog_11_method_49_code 3 (some FieldType.int) :: tb_all, 14, 574)
abbrev m_Arrays_fill : mt_M := (⟨"java/util/Arrays", "fill", "([II)V"⟩, prog_23_method_103_code, 4, none, Cond.code ⟨"java/util/Arrays", "fill", "([II)V"⟩ prog_23_method_103_code 4 none :: tb_all, 13, 551)
abbrev m_Mail_end : mt_M := (⟨"MailHeads", "end", "(I)I"⟩, prog_1_method_3_code, 3, (some FieldType.int), Cond.code ⟨"MailHeads", "end", "(I)I"⟩ prog_1_method_3_code 3 (some FieldType.int) :: tb_all, 14, 574)
abbrev m_Mail_at : mt_M := (⟨"MailHeads", "at", "(III)I"⟩, prog_1_method_15_code, 4, (some FieldType.int), Cond.code ⟨"MailHeads", "at", "(III)I"⟩ prog_1_method_15_code 4 (some FieldType.int) :: tb_all, 14, 573)
abbrev m_Head_firstNamed : mt_M := (⟨"MailHeads$Head", "firstNamed", "(LMailHeads$Row;)I"⟩, prog_5_method_6_code, 3, (some FieldType.int), Cond.code ⟨"MailHeads$Head", "firstNamed", "(LMailHeads$Row;)I"⟩ prog_5_method_6_code 3 (some FieldType.int) :: tb_all, 13, 553)
abbrev m_Mail_find : mt_M := (⟨"MailHeads", "find", "()I"⟩, prog_1_method_6_code, 2, (some FieldType.int), Cond.code ⟨"MailHeads", "find", "()I"⟩ prog_1_method_6_code 2 (some FieldType.int) :: tb_all, 14, 575)
abbrev m_Identities_takeBetween : mt_M := (⟨"MailHeads$Identities", "takeBetween", "(LMailHeads$Texts;III)V"⟩, prog_6_method_4_code, 7, none, Cond.code ⟨"MailHeads$Identities", "takeBetween", "(LMailHeads$Texts;III)V"⟩ prog_6_method_4_code 7 none :: tb_all, 11, 500)
abbrev m_Identities_readBytes : mt_M := (⟨"MailHeads$Identities", "readBytes", "(LMailHeads$Texts;I)V"⟩, prog_6_method_3_code, 7, none, Cond.code ⟨"MailHeads$Identities", "readBytes", "(LMailHeads$Texts;I)V"⟩ prog_6_method_3_code 7 none :: tb_all, 12, 526)
abbrev m_Mail_identities : mt_M := (⟨"MailHeads", "identities", "(I)I"⟩, prog_1_method_10_code, 2, (some FieldType.int), Cond.code ⟨"MailHeads", "identities", "(I)I"⟩ prog_1_method_10_code 2 (some FieldType.int) :: tb_all, 13, 552)
theorem fa_Mail_9 {μ : mt_M} {c : Cond} (hy : (mt_y μ).cls = "MailHeads") (hw : mt_w μ = c :: tb_all) : fa_at μ 9 0 0 := ⟨cR_Mail, cF_Mail, 9, cT_Mail, rfl, by decide, fun w h => by rw [hw]; exact List.mem_cons_of_mem _ (tb_Mail w h), by rw [hw, hy]; exact List.mem_cons_of_mem _ tw_218, cP_Mail, cN_Mail⟩
theorem fp_Mail_9 {μ : mt_M} {c : Cond} (hy : (mt_y μ).cls = "MailHeads") (hw : mt_w μ = c :: tb_all) (hi : (mt_y μ).name = "<init>") : fa_put μ 9 0 0 (cT_Mail 0) := ⟨cR_Mail, cF_Mail, 9, cT_Mail, rfl, by decide, fun w h => by rw [hw]; exact List.mem_cons_of_mem _ (tb_Mail w h), by rw [hw, hy]; exact List.mem_cons_of_mem _ tw_218, cP_Mail, cN_Mail, rfl, Or.inr ⟨rfl, hi, hy.symm⟩⟩
theorem fa_Mail_16 {μ : mt_M} {c : Cond} (hy : (mt_y μ).cls = "MailHeads") (hw : mt_w μ = c :: tb_all) : fa_at μ 16 0 1 := ⟨cR_Mail, cF_Mail, 9, cT_Mail, rfl, by decide, fun w h => by rw [hw]; exact List.mem_cons_of_mem _ (tb_Mail w h), by rw [hw, hy]; exact List.mem_cons_of_mem _ tw_219, cP_Mail, cN_Mail⟩
theorem fp_Mail_16 {μ : mt_M} {c : Cond} (hy : (mt_y μ).cls = "MailHeads") (hw : mt_w μ = c :: tb_all) (hi : (mt_y μ).name = "<init>") : fa_put μ 16 0 1 (cT_Mail 1) := ⟨cR_Mail, cF_Mail, 9, cT_Mail, rfl, by decide, fun w h => by rw [hw]; exact List.mem_cons_of_mem _ (tb_Mail w h), by rw [hw, hy]; exact List.mem_cons_of_mem _ tw_219, cP_Mail, cN_Mail, rfl, Or.inr ⟨rfl, hi, hy.symm⟩⟩
theorem fa_Mail_23 {μ : mt_M} {c : Cond} (hy : (mt_y μ).cls = "MailHeads") (hw : mt_w μ = c :: tb_all) : fa_at μ 23 0 2 := ⟨cR_Mail, cF_Mail, 9, cT_Mail, rfl, by decide, fun w h => by rw [hw]; exact List.mem_cons_of_mem _ (tb_Mail w h), by rw [hw, hy]; exact List.mem_cons_of_mem _ tw_220, cP_Mail, cN_Mail⟩
theorem fp_Mail_23 {μ : mt_M} {c : Cond} (hy : (mt_y μ).cls = "MailHeads") (hw : mt_w μ = c :: tb_all) (hi : (mt_y μ).name = "<init>") : fa_put μ 23 0 2 (cT_Mail 2) := ⟨cR_Mail, cF_Mail, 9, cT_Mail, rfl, by decide, fun w h => by rw [hw]; exact List.mem_cons_of_mem _ (tb_Mail w h), by rw [hw, hy]; exact List.mem_cons_of_mem _ tw_220, cP_Mail, cN_Mail, rfl, Or.inr ⟨rfl, hi, hy.symm⟩⟩
theorem fa_Mail_30 {μ : mt_M} {c : Cond} (hy : (mt_y μ).cls = "MailHeads") (hw : mt_w μ = c :: tb_all) : fa_at μ 30 0 3 := ⟨cR_Mail, cF_Mail, 9, cT_Mail, rfl, by decide, fun w h => by rw [hw]; exact List.mem_cons_of_mem _ (tb_Mail w h), by rw [hw, hy]; exact List.mem_cons_of_mem _ tw_221, cP_Mail, cN_Mail⟩
theorem fp_Mail_30 {μ : mt_M} {c : Cond} (hy : (mt_y μ).cls = "MailHeads") (hw : mt_w μ = c :: tb_all) (hi : (mt_y μ).name = "<init>") : fa_put μ 30 0 3 (cT_Mail 3) := ⟨cR_Mail, cF_Mail, 9, cT_Mail, rfl, by decide, fun w h => by rw [hw]; exact List.mem_cons_of_mem _ (tb_Mail w h), by rw [hw, hy]; exact List.mem_cons_of_mem _ tw_221, cP_Mail, cN_Mail, rfl, Or.inr ⟨rfl, hi, hy.symm⟩⟩
theorem fa_Mail_39 {μ : mt_M} {c : Cond} (hy : (mt_y μ).cls = "MailHeads") (hw : mt_w μ = c :: tb_all) : fa_at μ 39 0 4 := ⟨cR_Mail, cF_Mail, 9, cT_Mail, rfl, by decide, fun w h => by rw [hw]; exact List.mem_cons_of_mem _ (tb_Mail w h), by rw [hw, hy]; exact List.mem_cons_of_mem _ tw_222, cP_Mail, cN_Mail⟩
theorem fp_Mail_39 {μ : mt_M} {c : Cond} (hy : (mt_y μ).cls = "MailHeads") (hw : mt_w μ = c :: tb_all) (hi : (mt_y μ).name = "<init>") : fa_put μ 39 0 4 (cT_Mail 4) := ⟨cR_Mail, cF_Mail, 9, cT_Mail, rfl, by decide, fun w h => by rw [hw]; exact List.mem_cons_of_mem _ (tb_Mail w h), by rw [hw, hy]; exact List.mem_cons_of_mem _ tw_222, cP_Mail, cN_Mail, rfl, Or.inr ⟨rfl, hi, hy.symm⟩⟩
theorem fa_Mail_46 {μ : mt_M} {c : Cond} (hy : (mt_y μ).cls = "MailHeads") (hw : mt_w μ = c :: tb_all) : fa_at μ 46 0 5 := ⟨cR_Mail, cF_Mail, 9, cT_Mail, rfl, by decide, fun w h => by rw [hw]; exact List.mem_cons_of_mem _ (tb_Mail w h), by rw [hw, hy]; exact List.mem_cons_of_mem _ tw_223, cP_Mail, cN_Mail⟩
theorem fp_Mail_46 {μ : mt_M} {c : Cond} (hy : (mt_y μ).cls = "MailHeads") (hw : mt_w μ = c :: tb_all) (hi : (mt_y μ).name = "<init>") : fa_put μ 46 0 5 (cT_Mail 5) := ⟨cR_Mail, cF_Mail, 9, cT_Mail, rfl, by decide, fun w h => by rw [hw]; exact List.mem_cons_of_mem _ (tb_Mail w h), by rw [hw, hy]; exact List.mem_cons_of_mem _ tw_223, cP_Mail, cN_Mail, rfl, Or.inr ⟨rfl, hi, hy.symm⟩⟩
theorem fa_Mail_53 {μ : mt_M} {c : Cond} (hy : (mt_y μ).cls = "MailHeads") (hw : mt_w μ = c :: tb_all) : fa_at μ 53 0 6 := ⟨cR_Mail, cF_Mail, 9, cT_Mail, rfl, by decide, fun w h => by rw [hw]; exact List.mem_cons_of_mem _ (tb_Mail w h), by rw [hw, hy]; exact List.mem_cons_of_mem _ tw_224, cP_Mail, cN_Mail⟩
theorem fp_Mail_53 {μ : mt_M} {c : Cond} (hy : (mt_y μ).cls = "MailHeads") (hw : mt_w μ = c :: tb_all) (hi : (mt_y μ).name = "<init>") : fa_put μ 53 0 6 (cT_Mail 6) := ⟨cR_Mail, cF_Mail, 9, cT_Mail, rfl, by decide, fun w h => by rw [hw]; exact List.mem_cons_of_mem _ (tb_Mail w h), by rw [hw, hy]; exact List.mem_cons_of_mem _ tw_224, cP_Mail, cN_Mail, rfl, Or.inr ⟨rfl, hi, hy.symm⟩⟩
theorem fa_Mail_60 {μ : mt_M} {c : Cond} (hy : (mt_y μ).cls = "MailHeads") (hw : mt_w μ = c :: tb_all) : fa_at μ 60 0 7 := ⟨cR_Mail, cF_Mail, 9, cT_Mail, rfl, by decide, fun w h => by rw [hw]; exact List.mem_cons_of_mem _ (tb_Mail w h), by rw [hw, hy]; exact List.mem_cons_of_mem _ tw_225, cP_Mail, cN_Mail⟩
theorem fp_Mail_60 {μ : mt_M} {c : Cond} (hy : (mt_y μ).cls = "MailHeads") (hw : mt_w μ = c :: tb_all) (hi : (mt_y μ).name = "<init>") : fa_put μ 60 0 7 (cT_Mail 7) := ⟨cR_Mail, cF_Mail, 9, cT_Mail, rfl, by decide, fun w h => by rw [hw]; exact List.mem_cons_of_mem _ (tb_Mail w h), by rw [hw, hy]; exact List.mem_cons_of_mem _ tw_225, cP_Mail, cN_Mail, rfl, Or.inr ⟨rfl, hi, hy.symm⟩⟩
theorem fa_Mail_67 {μ : mt_M} {c : Cond} (hy : (mt_y μ).cls = "MailHeads") (hw : mt_w μ = c :: tb_all) : fa_at μ 67 0 8 := ⟨cR_Mail, cF_Mail, 9, cT_Mail, rfl, by decide, fun w h => by rw [hw]; exact List.mem_cons_of_mem _ (tb_Mail w h), by rw [hw, hy]; exact List.mem_cons_of_mem _ tw_226, cP_Mail, cN_Mail⟩
theorem fp_Mail_67 {μ : mt_M} {c : Cond} (hy : (mt_y μ).cls = "MailHeads") (hw : mt_w μ = c :: tb_all) (hi : (mt_y μ).name = "<init>") : fa_put μ 67 0 8 (cT_Mail 8) := ⟨cR_Mail, cF_Mail, 9, cT_Mail, rfl, by decide, fun w h => by rw [hw]; exact List.mem_cons_of_mem _ (tb_Mail w h), by rw [hw, hy]; exact List.mem_cons_of_mem _ tw_226, cP_Mail, cN_Mail, rfl, Or.inr ⟨rfl, hi, hy.symm⟩⟩
theorem fa_Addresses_9 {μ : mt_M} {c : Cond} (hy : (mt_y μ).cls = "MailHeads$Addresses") (hw : mt_w μ = c :: tb_all) : fa_at μ 9 5 0 := ⟨cR_Addresses, cF_Addresses, 8, cT_Addresses, rfl, by decide, fun w h => by rw [hw]; exact List.mem_cons_of_mem _ (tb_Addresses w h), by rw [hw, hy]; exact List.mem_cons_of_mem _ tw_134, cP_Addresses, cN_Addresses⟩
theorem fp_Addresses_9 {μ : mt_M} {c : Cond} (hy : (mt_y μ).cls = "MailHeads$Addresses") (hw : mt_w μ = c :: tb_all) (hi : (mt_y μ).name = "<init>") : fa_put μ 9 5 0 (cT_Addresses 0) := ⟨cR_Addresses, cF_Addresses, 8, cT_Addresses, rfl, by decide, fun w h => by rw [hw]; exact List.mem_cons_of_mem _ (tb_Addresses w h), by rw [hw, hy]; exact List.mem_cons_of_mem _ tw_134, cP_Addresses, cN_Addresses, rfl, Or.inr ⟨rfl, hi, hy.symm⟩⟩
theorem fa_Addresses_18 {μ : mt_M} {c : Cond} (hy : (mt_y μ).cls = "MailHeads$Addresses") (hw : mt_w μ = c :: tb_all) : fa_at μ 18 5 1 := ⟨cR_Addresses, cF_Addresses, 8, cT_Addresses, rfl, by decide, fun w h => by rw [hw]; exact List.mem_cons_of_mem _ (tb_Addresses w h), by rw [hw, hy]; exact List.mem_cons_of_mem _ tw_135, cP_Addresses, cN_Addresses⟩
theorem fp_Addresses_18 {μ : mt_M} {c : Cond} (hy : (mt_y μ).cls = "MailHeads$Addresses") (hw : mt_w μ = c :: tb_all) (hi : (mt_y μ).name = "<init>") : fa_put μ 18 5 1 (cT_Addresses 1) := ⟨cR_Addresses, cF_Addresses, 8, cT_Addresses, rfl, by decide, fun w h => by rw [hw]; exact List.mem_cons_of_mem _ (tb_Addresses w h), by rw [hw, hy]; exact List.mem_cons_of_mem _ tw_135, cP_Addresses, cN_Addresses, rfl, Or.inr ⟨rfl, hi, hy.symm⟩⟩
theorem fa_Addresses_25 {μ : mt_M} {c : Cond} (hy : (mt_y μ).cls = "MailHeads$Addresses") (hw : mt_w μ = c :: tb_all) : fa_at μ 25 5 2 := ⟨cR_Addresses, cF_Addresses, 8, cT_Addresses, rfl, by decide, fun w h => by rw [hw]; exact List.mem_cons_of_mem _ (tb_Addresses w h), by rw [hw, hy]; exact List.mem_cons_of_mem _ tw_136, cP_Addresses, cN_Addresses⟩
theorem fp_Addresses_25 {μ : mt_M} {c : Cond} (hy : (mt_y μ).cls = "MailHeads$Addresses") (hw : mt_w μ = c :: tb_all) (hi : (mt_y μ).name = "<init>") : fa_put μ 25 5 2 (cT_Addresses 2) := ⟨cR_Addresses, cF_Addresses, 8, cT_Addresses, rfl, by decide, fun w h => by rw [hw]; exact List.mem_cons_of_mem _ (tb_Addresses w h), by rw [hw, hy]; exact List.mem_cons_of_mem _ tw_136, cP_Addresses, cN_Addresses, rfl, Or.inr ⟨rfl, hi, hy.symm⟩⟩
theorem fa_Addresses_29 {μ : mt_M} {c : Cond} (hy : (mt_y μ).cls = "MailHeads$Addresses") (hw : mt_w μ = c :: tb_all) : fa_at μ 29 5 3 := ⟨cR_Addresses, cF_Addresses, 8, cT_Addresses, rfl, by decide, fun w h => by rw [hw]; exact List.mem_cons_of_mem _ (tb_Addresses w h), by rw [hw, hy]; exact List.mem_cons_of_mem _ tw_137, cP_Addresses, cN_Addresses⟩
theorem fp_Addresses_29 {μ : mt_M} {c : Cond} (hy : (mt_y μ).cls = "MailHeads$Addresses") (hw : mt_w μ = c :: tb_all) (hi : (mt_y μ).name = "<init>") : fa_put μ 29 5 3 (cT_Addresses 3) := ⟨cR_Addresses, cF_Addresses, 8, cT_Addresses, rfl, by decide, fun w h => by rw [hw]; exact List.mem_cons_of_mem _ (tb_Addresses w h), by rw [hw, hy]; exact List.mem_cons_of_mem _ tw_137, cP_Addresses, cN_Addresses, rfl, Or.inr ⟨rfl, hi, hy.symm⟩⟩
theorem fa_Addresses_32 {μ : mt_M} {c : Cond} (hy : (mt_y μ).cls = "MailHeads$Addresses") (hw : mt_w μ = c :: tb_all) : fa_at μ 32 5 4 := ⟨cR_Addresses, cF_Addresses, 8, cT_Addresses, rfl, by decide, fun w h => by rw [hw]; exact List.mem_cons_of_mem _ (tb_Addresses w h), by rw [hw, hy]; exact List.mem_cons_of_mem _ tw_138, cP_Addresses, cN_Addresses⟩
theorem fp_Addresses_32 {μ : mt_M} {c : Cond} (hy : (mt_y μ).cls = "MailHeads$Addresses") (hw : mt_w μ = c :: tb_all) (hi : (mt_y μ).name = "<init>") : fa_put μ 32 5 4 (cT_Addresses 4) := ⟨cR_Addresses, cF_Addresses, 8, cT_Addresses, rfl, by decide, fun w h => by rw [hw]; exact List.mem_cons_of_mem _ (tb_Addresses w h), by rw [hw, hy]; exact List.mem_cons_of_mem _ tw_138, cP_Addresses, cN_Addresses, rfl, Or.inr ⟨rfl, hi, hy.symm⟩⟩
theorem fa_Addresses_35 {μ : mt_M} {c : Cond} (hy : (mt_y μ).cls = "MailHeads$Addresses") (hw : mt_w μ = c :: tb_all) : fa_at μ 35 5 5 := ⟨cR_Addresses, cF_Addresses, 8, cT_Addresses, rfl, by decide, fun w h => by rw [hw]; exact List.mem_cons_of_mem _ (tb_Addresses w h), by rw [hw, hy]; exact List.mem_cons_of_mem _ tw_139, cP_Addresses, cN_Addresses⟩
theorem fp_Addresses_35 {μ : mt_M} {c : Cond} (hy : (mt_y μ).cls = "MailHeads$Addresses") (hw : mt_w μ = c :: tb_all) : fa_put μ 35 5 5 (cT_Addresses 5) := ⟨cR_Addresses, cF_Addresses, 8, cT_Addresses, rfl, by decide, fun w h => by rw [hw]; exact List.mem_cons_of_mem _ (tb_Addresses w h), by rw [hw, hy]; exact List.mem_cons_of_mem _ tw_139, cP_Addresses, cN_Addresses, rfl, Or.inl rfl⟩
theorem fa_Addresses_39 {μ : mt_M} {c : Cond} (hy : (mt_y μ).cls = "MailHeads$Addresses") (hw : mt_w μ = c :: tb_all) : fa_at μ 39 5 6 := ⟨cR_Addresses, cF_Addresses, 8, cT_Addresses, rfl, by decide, fun w h => by rw [hw]; exact List.mem_cons_of_mem _ (tb_Addresses w h), by rw [hw, hy]; exact List.mem_cons_of_mem _ tw_140, cP_Addresses, cN_Addresses⟩
theorem fp_Addresses_39 {μ : mt_M} {c : Cond} (hy : (mt_y μ).cls = "MailHeads$Addresses") (hw : mt_w μ = c :: tb_all) : fa_put μ 39 5 6 (cT_Addresses 6) := ⟨cR_Addresses, cF_Addresses, 8, cT_Addresses, rfl, by decide, fun w h => by rw [hw]; exact List.mem_cons_of_mem _ (tb_Addresses w h), by rw [hw, hy]; exact List.mem_cons_of_mem _ tw_140, cP_Addresses, cN_Addresses, rfl, Or.inl rfl⟩
theorem fa_Addresses_42 {μ : mt_M} {c : Cond} (hy : (mt_y μ).cls = "MailHeads$Addresses") (hw : mt_w μ = c :: tb_all) : fa_at μ 42 5 7 := ⟨cR_Addresses, cF_Addresses, 8, cT_Addresses, rfl, by decide, fun w h => by rw [hw]; exact List.mem_cons_of_mem _ (tb_Addresses w h), by rw [hw, hy]; exact List.mem_cons_of_mem _ tw_141, cP_Addresses, cN_Addresses⟩
theorem fp_Addresses_42 {μ : mt_M} {c : Cond} (hy : (mt_y μ).cls = "MailHeads$Addresses") (hw : mt_w μ = c :: tb_all) : fa_put μ 42 5 7 (cT_Addresses 7) := ⟨cR_Addresses, cF_Addresses, 8, cT_Addresses, rfl, by decide, fun w h => by rw [hw]; exact List.mem_cons_of_mem _ (tb_Addresses w h), by rw [hw, hy]; exact List.mem_cons_of_mem _ tw_141, cP_Addresses, cN_Addresses, rfl, Or.inl rfl⟩
theorem fa_ContentType_9 {μ : mt_M} {c : Cond} (hy : (mt_y μ).cls = "MailHeads$ContentType") (hw : mt_w μ = c :: tb_all) : fa_at μ 9 8 0 := ⟨cR_ContentType, cF_ContentType, 7, cT_ContentType, rfl, by decide, fun w h => by rw [hw]; exact List.mem_cons_of_mem _ (tb_ContentType w h), by rw [hw, hy]; exact List.mem_cons_of_mem _ tw_194, cP_ContentType, cN_ContentType⟩
theorem fp_ContentType_9 {μ : mt_M} {c : Cond} (hy : (mt_y μ).cls = "MailHeads$ContentType") (hw : mt_w μ = c :: tb_all) (hi : (mt_y μ).name = "<init>") : fa_put μ 9 8 0 (cT_ContentType 0) := ⟨cR_ContentType, cF_ContentType, 7, cT_ContentType, rfl, by decide, fun w h => by rw [hw]; exact List.mem_cons_of_mem _ (tb_ContentType w h), by rw [hw, hy]; exact List.mem_cons_of_mem _ tw_194, cP_ContentType, cN_ContentType, rfl, Or.inr ⟨rfl, hi, hy.symm⟩⟩
theorem fa_ContentType_18 {μ : mt_M} {c : Cond} (hy : (mt_y μ).cls = "MailHeads$ContentType") (hw : mt_w μ = c :: tb_all) : fa_at μ 18 8 1 := ⟨cR_ContentType, cF_ContentType, 7, cT_ContentType, rfl, by decide, fun w h => by rw [hw]; exact List.mem_cons_of_mem _ (tb_ContentType w h), by rw [hw, hy]; exact List.mem_cons_of_mem _ tw_195, cP_ContentType, cN_ContentType⟩
theorem fp_ContentType_18 {μ : mt_M} {c : Cond} (hy : (mt_y μ).cls = "MailHeads$ContentType") (hw : mt_w μ = c :: tb_all) (hi : (mt_y μ).name = "<init>") : fa_put μ 18 8 1 (cT_ContentType 1) := ⟨cR_ContentType, cF_ContentType, 7, cT_ContentType, rfl, by decide, fun w h => by rw [hw]; exact List.mem_cons_of_mem _ (tb_ContentType w h), by rw [hw, hy]; exact List.mem_cons_of_mem _ tw_195, cP_ContentType, cN_ContentType, rfl, Or.inr ⟨rfl, hi, hy.symm⟩⟩
theorem fa_ContentType_22 {μ : mt_M} {c : Cond} (hy : (mt_y μ).cls = "MailHeads$ContentType") (hw : mt_w μ = c :: tb_all) : fa_at μ 22 8 2 := ⟨cR_ContentType, cF_ContentType, 7, cT_ContentType, rfl, by decide, fun w h => by rw [hw]; exact List.mem_cons_of_mem _ (tb_ContentType w h), by rw [hw, hy]; exact List.mem_cons_of_mem _ tw_196, cP_ContentType, cN_ContentType⟩
theorem fp_ContentType_22 {μ : mt_M} {c : Cond} (hy : (mt_y μ).cls = "MailHeads$ContentType") (hw : mt_w μ = c :: tb_all) (hi : (mt_y μ).name = "<init>") : fa_put μ 22 8 2 (cT_ContentType 2) := ⟨cR_ContentType, cF_ContentType, 7, cT_ContentType, rfl, by decide, fun w h => by rw [hw]; exact List.mem_cons_of_mem _ (tb_ContentType w h), by rw [hw, hy]; exact List.mem_cons_of_mem _ tw_196, cP_ContentType, cN_ContentType, rfl, Or.inr ⟨rfl, hi, hy.symm⟩⟩
theorem fa_ContentType_25 {μ : mt_M} {c : Cond} (hy : (mt_y μ).cls = "MailHeads$ContentType") (hw : mt_w μ = c :: tb_all) : fa_at μ 25 8 3 := ⟨cR_ContentType, cF_ContentType, 7, cT_ContentType, rfl, by decide, fun w h => by rw [hw]; exact List.mem_cons_of_mem _ (tb_ContentType w h), by rw [hw, hy]; exact List.mem_cons_of_mem _ tw_197, cP_ContentType, cN_ContentType⟩
theorem fp_ContentType_25 {μ : mt_M} {c : Cond} (hy : (mt_y μ).cls = "MailHeads$ContentType") (hw : mt_w μ = c :: tb_all) (hi : (mt_y μ).name = "<init>") : fa_put μ 25 8 3 (cT_ContentType 3) := ⟨cR_ContentType, cF_ContentType, 7, cT_ContentType, rfl, by decide, fun w h => by rw [hw]; exact List.mem_cons_of_mem _ (tb_ContentType w h), by rw [hw, hy]; exact List.mem_cons_of_mem _ tw_197, cP_ContentType, cN_ContentType, rfl, Or.inr ⟨rfl, hi, hy.symm⟩⟩
theorem fa_ContentType_31 {μ : mt_M} {c : Cond} (hy : (mt_y μ).cls = "MailHeads$ContentType") (hw : mt_w μ = c :: tb_all) : fa_at μ 31 8 4 := ⟨cR_ContentType, cF_ContentType, 7, cT_ContentType, rfl, by decide, fun w h => by rw [hw]; exact List.mem_cons_of_mem _ (tb_ContentType w h), by rw [hw, hy]; exact List.mem_cons_of_mem _ tw_198, cP_ContentType, cN_ContentType⟩
theorem fp_ContentType_31 {μ : mt_M} {c : Cond} (hy : (mt_y μ).cls = "MailHeads$ContentType") (hw : mt_w μ = c :: tb_all) (hi : (mt_y μ).name = "<init>") : fa_put μ 31 8 4 (cT_ContentType 4) := ⟨cR_ContentType, cF_ContentType, 7, cT_ContentType, rfl, by decide, fun w h => by rw [hw]; exact List.mem_cons_of_mem _ (tb_ContentType w h), by rw [hw, hy]; exact List.mem_cons_of_mem _ tw_198, cP_ContentType, cN_ContentType, rfl, Or.inr ⟨rfl, hi, hy.symm⟩⟩
theorem fa_ContentType_35 {μ : mt_M} {c : Cond} (hy : (mt_y μ).cls = "MailHeads$ContentType") (hw : mt_w μ = c :: tb_all) : fa_at μ 35 8 5 := ⟨cR_ContentType, cF_ContentType, 7, cT_ContentType, rfl, by decide, fun w h => by rw [hw]; exact List.mem_cons_of_mem _ (tb_ContentType w h), by rw [hw, hy]; exact List.mem_cons_of_mem _ tw_199, cP_ContentType, cN_ContentType⟩
theorem fp_ContentType_35 {μ : mt_M} {c : Cond} (hy : (mt_y μ).cls = "MailHeads$ContentType") (hw : mt_w μ = c :: tb_all) (hi : (mt_y μ).name = "<init>") : fa_put μ 35 8 5 (cT_ContentType 5) := ⟨cR_ContentType, cF_ContentType, 7, cT_ContentType, rfl, by decide, fun w h => by rw [hw]; exact List.mem_cons_of_mem _ (tb_ContentType w h), by rw [hw, hy]; exact List.mem_cons_of_mem _ tw_199, cP_ContentType, cN_ContentType, rfl, Or.inr ⟨rfl, hi, hy.symm⟩⟩
theorem fa_ContentType_38 {μ : mt_M} {c : Cond} (hy : (mt_y μ).cls = "MailHeads$ContentType") (hw : mt_w μ = c :: tb_all) : fa_at μ 38 8 6 := ⟨cR_ContentType, cF_ContentType, 7, cT_ContentType, rfl, by decide, fun w h => by rw [hw]; exact List.mem_cons_of_mem _ (tb_ContentType w h), by rw [hw, hy]; exact List.mem_cons_of_mem _ tw_200, cP_ContentType, cN_ContentType⟩
theorem fp_ContentType_38 {μ : mt_M} {c : Cond} (hy : (mt_y μ).cls = "MailHeads$ContentType") (hw : mt_w μ = c :: tb_all) (hi : (mt_y μ).name = "<init>") : fa_put μ 38 8 6 (cT_ContentType 6) := ⟨cR_ContentType, cF_ContentType, 7, cT_ContentType, rfl, by decide, fun w h => by rw [hw]; exact List.mem_cons_of_mem _ (tb_ContentType w h), by rw [hw, hy]; exact List.mem_cons_of_mem _ tw_200, cP_ContentType, cN_ContentType, rfl, Or.inr ⟨rfl, hi, hy.symm⟩⟩
theorem fa_DateReader_11 {μ : mt_M} {c : Cond} (hy : (mt_y μ).cls = "MailHeads$DateReader") (hw : mt_w μ = c :: tb_all) : fa_at μ 11 7 0 := ⟨cR_DateReader, cF_DateReader, 2, cT_DateReader, rfl, by decide, fun w h => by rw [hw]; exact List.mem_cons_of_mem _ (tb_DateReader w h), by rw [hw, hy]; exact List.mem_cons_of_mem _ tw_177, cP_DateReader, cN_DateReader⟩
theorem fp_DateReader_11 {μ : mt_M} {c : Cond} (hy : (mt_y μ).cls = "MailHeads$DateReader") (hw : mt_w μ = c :: tb_all) (hi : (mt_y μ).name = "<init>") : fa_put μ 11 7 0 (cT_DateReader 0) := ⟨cR_DateReader, cF_DateReader, 2, cT_DateReader, rfl, by decide, fun w h => by rw [hw]; exact List.mem_cons_of_mem _ (tb_DateReader w h), by rw [hw, hy]; exact List.mem_cons_of_mem _ tw_177, cP_DateReader, cN_DateReader, rfl, Or.inr ⟨rfl, hi, hy.symm⟩⟩
theorem fa_DateReader_17 {μ : mt_M} {c : Cond} (hy : (mt_y μ).cls = "MailHeads$DateReader") (hw : mt_w μ = c :: tb_all) : fa_at μ 17 7 1 := ⟨cR_DateReader, cF_DateReader, 2, cT_DateReader, rfl, by decide, fun w h => by rw [hw]; exact List.mem_cons_of_mem _ (tb_DateReader w h), by rw [hw, hy]; exact List.mem_cons_of_mem _ tw_178, cP_DateReader, cN_DateReader⟩
theorem fp_DateReader_17 {μ : mt_M} {c : Cond} (hy : (mt_y μ).cls = "MailHeads$DateReader") (hw : mt_w μ = c :: tb_all) : fa_put μ 17 7 1 (cT_DateReader 1) := ⟨cR_DateReader, cF_DateReader, 2, cT_DateReader, rfl, by decide, fun w h => by rw [hw]; exact List.mem_cons_of_mem _ (tb_DateReader w h), by rw [hw, hy]; exact List.mem_cons_of_mem _ tw_178, cP_DateReader, cN_DateReader, rfl, Or.inl rfl⟩
theorem fa_Head_12 {μ : mt_M} {c : Cond} (hy : (mt_y μ).cls = "MailHeads$Head") (hw : mt_w μ = c :: tb_all) : fa_at μ 12 2 0 := ⟨cR_Head, cF_Head, 3, cT_Head, rfl, by decide, fun w h => by rw [hw]; exact List.mem_cons_of_mem _ (tb_Head w h), by rw [hw, hy]; exact List.mem_cons_of_mem _ tw_86, cP_Head, cN_Head⟩
theorem fp_Head_12 {μ : mt_M} {c : Cond} (hy : (mt_y μ).cls = "MailHeads$Head") (hw : mt_w μ = c :: tb_all) (hi : (mt_y μ).name = "<init>") : fa_put μ 12 2 0 (cT_Head 0) := ⟨cR_Head, cF_Head, 3, cT_Head, rfl, by decide, fun w h => by rw [hw]; exact List.mem_cons_of_mem _ (tb_Head w h), by rw [hw, hy]; exact List.mem_cons_of_mem _ tw_86, cP_Head, cN_Head, rfl, Or.inr ⟨rfl, hi, hy.symm⟩⟩
theorem fa_Head_18 {μ : mt_M} {c : Cond} (hy : (mt_y μ).cls = "MailHeads$Head") (hw : mt_w μ = c :: tb_all) : fa_at μ 18 2 1 := ⟨cR_Head, cF_Head, 3, cT_Head, rfl, by decide, fun w h => by rw [hw]; exact List.mem_cons_of_mem _ (tb_Head w h), by rw [hw, hy]; exact List.mem_cons_of_mem _ tw_87, cP_Head, cN_Head⟩
theorem fp_Head_18 {μ : mt_M} {c : Cond} (hy : (mt_y μ).cls = "MailHeads$Head") (hw : mt_w μ = c :: tb_all) : fa_put μ 18 2 1 (cT_Head 1) := ⟨cR_Head, cF_Head, 3, cT_Head, rfl, by decide, fun w h => by rw [hw]; exact List.mem_cons_of_mem _ (tb_Head w h), by rw [hw, hy]; exact List.mem_cons_of_mem _ tw_87, cP_Head, cN_Head, rfl, Or.inl rfl⟩
theorem fa_Head_22 {μ : mt_M} {c : Cond} (hy : (mt_y μ).cls = "MailHeads$Head") (hw : mt_w μ = c :: tb_all) : fa_at μ 22 2 2 := ⟨cR_Head, cF_Head, 3, cT_Head, rfl, by decide, fun w h => by rw [hw]; exact List.mem_cons_of_mem _ (tb_Head w h), by rw [hw, hy]; exact List.mem_cons_of_mem _ tw_88, cP_Head, cN_Head⟩
theorem fp_Head_22 {μ : mt_M} {c : Cond} (hy : (mt_y μ).cls = "MailHeads$Head") (hw : mt_w μ = c :: tb_all) : fa_put μ 22 2 2 (cT_Head 2) := ⟨cR_Head, cF_Head, 3, cT_Head, rfl, by decide, fun w h => by rw [hw]; exact List.mem_cons_of_mem _ (tb_Head w h), by rw [hw, hy]; exact List.mem_cons_of_mem _ tw_88, cP_Head, cN_Head, rfl, Or.inl rfl⟩
theorem fa_Identities_12 {μ : mt_M} {c : Cond} (hy : (mt_y μ).cls = "MailHeads$Identities") (hw : mt_w μ = c :: tb_all) : fa_at μ 12 6 0 := ⟨cR_Identities, cF_Identities, 1, cT_Identities, rfl, by decide, fun w h => by rw [hw]; exact List.mem_cons_of_mem _ (tb_Identities w h), by rw [hw, hy]; exact List.mem_cons_of_mem _ tw_167, cP_Identities, cN_Identities⟩
theorem fp_Identities_12 {μ : mt_M} {c : Cond} (hy : (mt_y μ).cls = "MailHeads$Identities") (hw : mt_w μ = c :: tb_all) (hi : (mt_y μ).name = "<init>") : fa_put μ 12 6 0 (cT_Identities 0) := ⟨cR_Identities, cF_Identities, 1, cT_Identities, rfl, by decide, fun w h => by rw [hw]; exact List.mem_cons_of_mem _ (tb_Identities w h), by rw [hw, hy]; exact List.mem_cons_of_mem _ tw_167, cP_Identities, cN_Identities, rfl, Or.inr ⟨rfl, hi, hy.symm⟩⟩
theorem fa_Row_11 {μ : mt_M} {c : Cond} (hy : (mt_y μ).cls = "MailHeads$Row") (hw : mt_w μ = c :: tb_all) : fa_at μ 11 1 0 := ⟨cR_Row, cF_Row, 2, cT_Row, rfl, by decide, fun w h => by rw [hw]; exact List.mem_cons_of_mem _ (tb_Row w h), by rw [hw, hy]; exact List.mem_cons_of_mem _ tw_37, cP_Row, cN_Row⟩
theorem fp_Row_11 {μ : mt_M} {c : Cond} (hy : (mt_y μ).cls = "MailHeads$Row") (hw : mt_w μ = c :: tb_all) : fa_put μ 11 1 0 (cT_Row 0) := ⟨cR_Row, cF_Row, 2, cT_Row, rfl, by decide, fun w h => by rw [hw]; exact List.mem_cons_of_mem _ (tb_Row w h), by rw [hw, hy]; exact List.mem_cons_of_mem _ tw_37, cP_Row, cN_Row, rfl, Or.inl rfl⟩
theorem fa_Row_15 {μ : mt_M} {c : Cond} (hy : (mt_y μ).cls = "MailHeads$Row") (hw : mt_w μ = c :: tb_all) : fa_at μ 15 1 1 := ⟨cR_Row, cF_Row, 2, cT_Row, rfl, by decide, fun w h => by rw [hw]; exact List.mem_cons_of_mem _ (tb_Row w h), by rw [hw, hy]; exact List.mem_cons_of_mem _ tw_38, cP_Row, cN_Row⟩
theorem fp_Row_15 {μ : mt_M} {c : Cond} (hy : (mt_y μ).cls = "MailHeads$Row") (hw : mt_w μ = c :: tb_all) : fa_put μ 15 1 1 (cT_Row 1) := ⟨cR_Row, cF_Row, 2, cT_Row, rfl, by decide, fun w h => by rw [hw]; exact List.mem_cons_of_mem _ (tb_Row w h), by rw [hw, hy]; exact List.mem_cons_of_mem _ tw_38, cP_Row, cN_Row, rfl, Or.inl rfl⟩
theorem fa_Texts_12 {μ : mt_M} {c : Cond} (hy : (mt_y μ).cls = "MailHeads$Texts") (hw : mt_w μ = c :: tb_all) : fa_at μ 12 3 0 := ⟨cR_Texts, cF_Texts, 2, cT_Texts, rfl, by decide, fun w h => by rw [hw]; exact List.mem_cons_of_mem _ (tb_Texts w h), by rw [hw, hy]; exact List.mem_cons_of_mem _ tw_79, cP_Texts, cN_Texts⟩
theorem fp_Texts_12 {μ : mt_M} {c : Cond} (hy : (mt_y μ).cls = "MailHeads$Texts") (hw : mt_w μ = c :: tb_all) (hi : (mt_y μ).name = "<init>") : fa_put μ 12 3 0 (cT_Texts 0) := ⟨cR_Texts, cF_Texts, 2, cT_Texts, rfl, by decide, fun w h => by rw [hw]; exact List.mem_cons_of_mem _ (tb_Texts w h), by rw [hw, hy]; exact List.mem_cons_of_mem _ tw_79, cP_Texts, cN_Texts, rfl, Or.inr ⟨rfl, hi, hy.symm⟩⟩
theorem fa_Texts_18 {μ : mt_M} {c : Cond} (hy : (mt_y μ).cls = "MailHeads$Texts") (hw : mt_w μ = c :: tb_all) : fa_at μ 18 3 1 := ⟨cR_Texts, cF_Texts, 2, cT_Texts, rfl, by decide, fun w h => by rw [hw]; exact List.mem_cons_of_mem _ (tb_Texts w h), by rw [hw, hy]; exact List.mem_cons_of_mem _ tw_80, cP_Texts, cN_Texts⟩
theorem fp_Texts_18 {μ : mt_M} {c : Cond} (hy : (mt_y μ).cls = "MailHeads$Texts") (hw : mt_w μ = c :: tb_all) (hi : (mt_y μ).name = "<init>") : fa_put μ 18 3 1 (cT_Texts 1) := ⟨cR_Texts, cF_Texts, 2, cT_Texts, rfl, by decide, fun w h => by rw [hw]; exact List.mem_cons_of_mem _ (tb_Texts w h), by rw [hw, hy]; exact List.mem_cons_of_mem _ tw_80, cP_Texts, cN_Texts, rfl, Or.inr ⟨rfl, hi, hy.symm⟩⟩
theorem fa_Words_12 {μ : mt_M} {c : Cond} (hy : (mt_y μ).cls = "MailHeads$Words") (hw : mt_w μ = c :: tb_all) : fa_at μ 12 4 0 := ⟨cR_Words, cF_Words, 5, cT_Words, rfl, by decide, fun w h => by rw [hw]; exact List.mem_cons_of_mem _ (tb_Words w h), by rw [hw, hy]; exact List.mem_cons_of_mem _ tw_107, cP_Words, cN_Words⟩
theorem fp_Words_12 {μ : mt_M} {c : Cond} (hy : (mt_y μ).cls = "MailHeads$Words") (hw : mt_w μ = c :: tb_all) (hi : (mt_y μ).name = "<init>") : fa_put μ 12 4 0 (cT_Words 0) := ⟨cR_Words, cF_Words, 5, cT_Words, rfl, by decide, fun w h => by rw [hw]; exact List.mem_cons_of_mem _ (tb_Words w h), by rw [hw, hy]; exact List.mem_cons_of_mem _ tw_107, cP_Words, cN_Words, rfl, Or.inr ⟨rfl, hi, hy.symm⟩⟩
theorem fa_Words_21 {μ : mt_M} {c : Cond} (hy : (mt_y μ).cls = "MailHeads$Words") (hw : mt_w μ = c :: tb_all) : fa_at μ 21 4 1 := ⟨cR_Words, cF_Words, 5, cT_Words, rfl, by decide, fun w h => by rw [hw]; exact List.mem_cons_of_mem _ (tb_Words w h), by rw [hw, hy]; exact List.mem_cons_of_mem _ tw_108, cP_Words, cN_Words⟩
theorem fp_Words_21 {μ : mt_M} {c : Cond} (hy : (mt_y μ).cls = "MailHeads$Words") (hw : mt_w μ = c :: tb_all) (hi : (mt_y μ).name = "<init>") : fa_put μ 21 4 1 (cT_Words 1) := ⟨cR_Words, cF_Words, 5, cT_Words, rfl, by decide, fun w h => by rw [hw]; exact List.mem_cons_of_mem _ (tb_Words w h), by rw [hw, hy]; exact List.mem_cons_of_mem _ tw_108, cP_Words, cN_Words, rfl, Or.inr ⟨rfl, hi, hy.symm⟩⟩
theorem fa_Words_25 {μ : mt_M} {c : Cond} (hy : (mt_y μ).cls = "MailHeads$Words") (hw : mt_w μ = c :: tb_all) : fa_at μ 25 4 2 := ⟨cR_Words, cF_Words, 5, cT_Words, rfl, by decide, fun w h => by rw [hw]; exact List.mem_cons_of_mem _ (tb_Words w h), by rw [hw, hy]; exact List.mem_cons_of_mem _ tw_109, cP_Words, cN_Words⟩
theorem fp_Words_25 {μ : mt_M} {c : Cond} (hy : (mt_y μ).cls = "MailHeads$Words") (hw : mt_w μ = c :: tb_all) : fa_put μ 25 4 2 (cT_Words 2) := ⟨cR_Words, cF_Words, 5, cT_Words, rfl, by decide, fun w h => by rw [hw]; exact List.mem_cons_of_mem _ (tb_Words w h), by rw [hw, hy]; exact List.mem_cons_of_mem _ tw_109, cP_Words, cN_Words, rfl, Or.inl rfl⟩
theorem fa_Words_28 {μ : mt_M} {c : Cond} (hy : (mt_y μ).cls = "MailHeads$Words") (hw : mt_w μ = c :: tb_all) : fa_at μ 28 4 3 := ⟨cR_Words, cF_Words, 5, cT_Words, rfl, by decide, fun w h => by rw [hw]; exact List.mem_cons_of_mem _ (tb_Words w h), by rw [hw, hy]; exact List.mem_cons_of_mem _ tw_110, cP_Words, cN_Words⟩
theorem fp_Words_28 {μ : mt_M} {c : Cond} (hy : (mt_y μ).cls = "MailHeads$Words") (hw : mt_w μ = c :: tb_all) : fa_put μ 28 4 3 (cT_Words 3) := ⟨cR_Words, cF_Words, 5, cT_Words, rfl, by decide, fun w h => by rw [hw]; exact List.mem_cons_of_mem _ (tb_Words w h), by rw [hw, hy]; exact List.mem_cons_of_mem _ tw_110, cP_Words, cN_Words, rfl, Or.inl rfl⟩
theorem fa_Words_34 {μ : mt_M} {c : Cond} (hy : (mt_y μ).cls = "MailHeads$Words") (hw : mt_w μ = c :: tb_all) : fa_at μ 34 4 4 := ⟨cR_Words, cF_Words, 5, cT_Words, rfl, by decide, fun w h => by rw [hw]; exact List.mem_cons_of_mem _ (tb_Words w h), by rw [hw, hy]; exact List.mem_cons_of_mem _ tw_111, cP_Words, cN_Words⟩
theorem fp_Words_34 {μ : mt_M} {c : Cond} (hy : (mt_y μ).cls = "MailHeads$Words") (hw : mt_w μ = c :: tb_all) : fa_put μ 34 4 4 (cT_Words 4) := ⟨cR_Words, cF_Words, 5, cT_Words, rfl, by decide, fun w h => by rw [hw]; exact List.mem_cons_of_mem _ (tb_Words w h), by rw [hw, hy]; exact List.mem_cons_of_mem _ tw_111, cP_Words, cN_Words, rfl, Or.inl rfl⟩
theorem fa_Model_7 {μ : mt_M} {c : Cond} (hy : (mt_y μ).cls = "MailHeadsModel") (hw : mt_w μ = c :: tb_all) : fa_at μ 7 9 1 := ⟨cR_Model, cF_Model, 45, cT_Model, rfl, by decide, fun w h => by rw [hw]; exact List.mem_cons_of_mem _ (tb_Model w h), by rw [hw, hy]; exact List.mem_cons_of_mem _ tw_921, cP_Model, cN_Model⟩
theorem fp_Model_7 {μ : mt_M} {c : Cond} (hy : (mt_y μ).cls = "MailHeadsModel") (hw : mt_w μ = c :: tb_all) (hi : (mt_y μ).name = "<init>") : fa_put μ 7 9 1 (cT_Model 1) := ⟨cR_Model, cF_Model, 45, cT_Model, rfl, by decide, fun w h => by rw [hw]; exact List.mem_cons_of_mem _ (tb_Model w h), by rw [hw, hy]; exact List.mem_cons_of_mem _ tw_921, cP_Model, cN_Model, rfl, Or.inr ⟨rfl, hi, hy.symm⟩⟩
theorem fa_Model_13 {μ : mt_M} {c : Cond} (hy : (mt_y μ).cls = "MailHeadsModel") (hw : mt_w μ = c :: tb_all) : fa_at μ 13 9 2 := ⟨cR_Model, cF_Model, 45, cT_Model, rfl, by decide, fun w h => by rw [hw]; exact List.mem_cons_of_mem _ (tb_Model w h), by rw [hw, hy]; exact List.mem_cons_of_mem _ tw_922, cP_Model, cN_Model⟩
theorem fp_Model_13 {μ : mt_M} {c : Cond} (hy : (mt_y μ).cls = "MailHeadsModel") (hw : mt_w μ = c :: tb_all) (hi : (mt_y μ).name = "<init>") : fa_put μ 13 9 2 (cT_Model 2) := ⟨cR_Model, cF_Model, 45, cT_Model, rfl, by decide, fun w h => by rw [hw]; exact List.mem_cons_of_mem _ (tb_Model w h), by rw [hw, hy]; exact List.mem_cons_of_mem _ tw_922, cP_Model, cN_Model, rfl, Or.inr ⟨rfl, hi, hy.symm⟩⟩
theorem fa_Model_16 {μ : mt_M} {c : Cond} (hy : (mt_y μ).cls = "MailHeadsModel") (hw : mt_w μ = c :: tb_all) : fa_at μ 16 9 6 := ⟨cR_Model, cF_Model, 45, cT_Model, rfl, by decide, fun w h => by rw [hw]; exact List.mem_cons_of_mem _ (tb_Model w h), by rw [hw, hy]; exact List.mem_cons_of_mem _ tw_926, cP_Model, cN_Model⟩
theorem fp_Model_16 {μ : mt_M} {c : Cond} (hy : (mt_y μ).cls = "MailHeadsModel") (hw : mt_w μ = c :: tb_all) (hi : (mt_y μ).name = "<init>") : fa_put μ 16 9 6 (cT_Model 6) := ⟨cR_Model, cF_Model, 45, cT_Model, rfl, by decide, fun w h => by rw [hw]; exact List.mem_cons_of_mem _ (tb_Model w h), by rw [hw, hy]; exact List.mem_cons_of_mem _ tw_926, cP_Model, cN_Model, rfl, Or.inr ⟨rfl, hi, hy.symm⟩⟩
theorem fa_Model_19 {μ : mt_M} {c : Cond} (hy : (mt_y μ).cls = "MailHeadsModel") (hw : mt_w μ = c :: tb_all) : fa_at μ 19 9 7 := ⟨cR_Model, cF_Model, 45, cT_Model, rfl, by decide, fun w h => by rw [hw]; exact List.mem_cons_of_mem _ (tb_Model w h), by rw [hw, hy]; exact List.mem_cons_of_mem _ tw_927, cP_Model, cN_Model⟩
theorem fp_Model_19 {μ : mt_M} {c : Cond} (hy : (mt_y μ).cls = "MailHeadsModel") (hw : mt_w μ = c :: tb_all) (hi : (mt_y μ).name = "<init>") : fa_put μ 19 9 7 (cT_Model 7) := ⟨cR_Model, cF_Model, 45, cT_Model, rfl, by decide, fun w h => by rw [hw]; exact List.mem_cons_of_mem _ (tb_Model w h), by rw [hw, hy]; exact List.mem_cons_of_mem _ tw_927, cP_Model, cN_Model, rfl, Or.inr ⟨rfl, hi, hy.symm⟩⟩
theorem fa_Model_22 {μ : mt_M} {c : Cond} (hy : (mt_y μ).cls = "MailHeadsModel") (hw : mt_w μ = c :: tb_all) : fa_at μ 22 9 8 := ⟨cR_Model, cF_Model, 45, cT_Model, rfl, by decide, fun w h => by rw [hw]; exact List.mem_cons_of_mem _ (tb_Model w h), by rw [hw, hy]; exact List.mem_cons_of_mem _ tw_928, cP_Model, cN_Model⟩
theorem fp_Model_22 {μ : mt_M} {c : Cond} (hy : (mt_y μ).cls = "MailHeadsModel") (hw : mt_w μ = c :: tb_all) (hi : (mt_y μ).name = "<init>") : fa_put μ 22 9 8 (cT_Model 8) := ⟨cR_Model, cF_Model, 45, cT_Model, rfl, by decide, fun w h => by rw [hw]; exact List.mem_cons_of_mem _ (tb_Model w h), by rw [hw, hy]; exact List.mem_cons_of_mem _ tw_928, cP_Model, cN_Model, rfl, Or.inr ⟨rfl, hi, hy.symm⟩⟩
theorem fa_Model_25 {μ : mt_M} {c : Cond} (hy : (mt_y μ).cls = "MailHeadsModel") (hw : mt_w μ = c :: tb_all) : fa_at μ 25 9 9 := ⟨cR_Model, cF_Model, 45, cT_Model, rfl, by decide, fun w h => by rw [hw]; exact List.mem_cons_of_mem _ (tb_Model w h), by rw [hw, hy]; exact List.mem_cons_of_mem _ tw_929, cP_Model, cN_Model⟩
theorem fp_Model_25 {μ : mt_M} {c : Cond} (hy : (mt_y μ).cls = "MailHeadsModel") (hw : mt_w μ = c :: tb_all) (hi : (mt_y μ).name = "<init>") : fa_put μ 25 9 9 (cT_Model 9) := ⟨cR_Model, cF_Model, 45, cT_Model, rfl, by decide, fun w h => by rw [hw]; exact List.mem_cons_of_mem _ (tb_Model w h), by rw [hw, hy]; exact List.mem_cons_of_mem _ tw_929, cP_Model, cN_Model, rfl, Or.inr ⟨rfl, hi, hy.symm⟩⟩
theorem fa_Model_28 {μ : mt_M} {c : Cond} (hy : (mt_y μ).cls = "MailHeadsModel") (hw : mt_w μ = c :: tb_all) : fa_at μ 28 9 10 := ⟨cR_Model, cF_Model, 45, cT_Model, rfl, by decide, fun w h => by rw [hw]; exact List.mem_cons_of_mem _ (tb_Model w h), by rw [hw, hy]; exact List.mem_cons_of_mem _ tw_930, cP_Model, cN_Model⟩
theorem fp_Model_28 {μ : mt_M} {c : Cond} (hy : (mt_y μ).cls = "MailHeadsModel") (hw : mt_w μ = c :: tb_all) (hi : (mt_y μ).name = "<init>") : fa_put μ 28 9 10 (cT_Model 10) := ⟨cR_Model, cF_Model, 45, cT_Model, rfl, by decide, fun w h => by rw [hw]; exact List.mem_cons_of_mem _ (tb_Model w h), by rw [hw, hy]; exact List.mem_cons_of_mem _ tw_930, cP_Model, cN_Model, rfl, Or.inr ⟨rfl, hi, hy.symm⟩⟩
theorem fa_Model_31 {μ : mt_M} {c : Cond} (hy : (mt_y μ).cls = "MailHeadsModel") (hw : mt_w μ = c :: tb_all) : fa_at μ 31 9 13 := ⟨cR_Model, cF_Model, 45, cT_Model, rfl, by decide, fun w h => by rw [hw]; exact List.mem_cons_of_mem _ (tb_Model w h), by rw [hw, hy]; exact List.mem_cons_of_mem _ tw_933, cP_Model, cN_Model⟩
theorem fp_Model_31 {μ : mt_M} {c : Cond} (hy : (mt_y μ).cls = "MailHeadsModel") (hw : mt_w μ = c :: tb_all) (hi : (mt_y μ).name = "<init>") : fa_put μ 31 9 13 (cT_Model 13) := ⟨cR_Model, cF_Model, 45, cT_Model, rfl, by decide, fun w h => by rw [hw]; exact List.mem_cons_of_mem _ (tb_Model w h), by rw [hw, hy]; exact List.mem_cons_of_mem _ tw_933, cP_Model, cN_Model, rfl, Or.inr ⟨rfl, hi, hy.symm⟩⟩
theorem fa_Model_34 {μ : mt_M} {c : Cond} (hy : (mt_y μ).cls = "MailHeadsModel") (hw : mt_w μ = c :: tb_all) : fa_at μ 34 9 14 := ⟨cR_Model, cF_Model, 45, cT_Model, rfl, by decide, fun w h => by rw [hw]; exact List.mem_cons_of_mem _ (tb_Model w h), by rw [hw, hy]; exact List.mem_cons_of_mem _ tw_934, cP_Model, cN_Model⟩
theorem fp_Model_34 {μ : mt_M} {c : Cond} (hy : (mt_y μ).cls = "MailHeadsModel") (hw : mt_w μ = c :: tb_all) (hi : (mt_y μ).name = "<init>") : fa_put μ 34 9 14 (cT_Model 14) := ⟨cR_Model, cF_Model, 45, cT_Model, rfl, by decide, fun w h => by rw [hw]; exact List.mem_cons_of_mem _ (tb_Model w h), by rw [hw, hy]; exact List.mem_cons_of_mem _ tw_934, cP_Model, cN_Model, rfl, Or.inr ⟨rfl, hi, hy.symm⟩⟩
theorem fa_Model_37 {μ : mt_M} {c : Cond} (hy : (mt_y μ).cls = "MailHeadsModel") (hw : mt_w μ = c :: tb_all) : fa_at μ 37 9 15 := ⟨cR_Model, cF_Model, 45, cT_Model, rfl, by decide, fun w h => by rw [hw]; exact List.mem_cons_of_mem _ (tb_Model w h), by rw [hw, hy]; exact List.mem_cons_of_mem _ tw_935, cP_Model, cN_Model⟩
theorem fp_Model_37 {μ : mt_M} {c : Cond} (hy : (mt_y μ).cls = "MailHeadsModel") (hw : mt_w μ = c :: tb_all) (hi : (mt_y μ).name = "<init>") : fa_put μ 37 9 15 (cT_Model 15) := ⟨cR_Model, cF_Model, 45, cT_Model, rfl, by decide, fun w h => by rw [hw]; exact List.mem_cons_of_mem _ (tb_Model w h), by rw [hw, hy]; exact List.mem_cons_of_mem _ tw_935, cP_Model, cN_Model, rfl, Or.inr ⟨rfl, hi, hy.symm⟩⟩
theorem fa_Model_40 {μ : mt_M} {c : Cond} (hy : (mt_y μ).cls = "MailHeadsModel") (hw : mt_w μ = c :: tb_all) : fa_at μ 40 9 16 := ⟨cR_Model, cF_Model, 45, cT_Model, rfl, by decide, fun w h => by rw [hw]; exact List.mem_cons_of_mem _ (tb_Model w h), by rw [hw, hy]; exact List.mem_cons_of_mem _ tw_936, cP_Model, cN_Model⟩
theorem fp_Model_40 {μ : mt_M} {c : Cond} (hy : (mt_y μ).cls = "MailHeadsModel") (hw : mt_w μ = c :: tb_all) (hi : (mt_y μ).name = "<init>") : fa_put μ 40 9 16 (cT_Model 16) := ⟨cR_Model, cF_Model, 45, cT_Model, rfl, by decide, fun w h => by rw [hw]; exact List.mem_cons_of_mem _ (tb_Model w h), by rw [hw, hy]; exact List.mem_cons_of_mem _ tw_936, cP_Model, cN_Model, rfl, Or.inr ⟨rfl, hi, hy.symm⟩⟩
theorem fa_Model_43 {μ : mt_M} {c : Cond} (hy : (mt_y μ).cls = "MailHeadsModel") (hw : mt_w μ = c :: tb_all) : fa_at μ 43 9 17 := ⟨cR_Model, cF_Model, 45, cT_Model, rfl, by decide, fun w h => by rw [hw]; exact List.mem_cons_of_mem _ (tb_Model w h), by rw [hw, hy]; exact List.mem_cons_of_mem _ tw_937, cP_Model, cN_Model⟩
theorem fp_Model_43 {μ : mt_M} {c : Cond} (hy : (mt_y μ).cls = "MailHeadsModel") (hw : mt_w μ = c :: tb_all) (hi : (mt_y μ).name = "<init>") : fa_put μ 43 9 17 (cT_Model 17) := ⟨cR_Model, cF_Model, 45, cT_Model, rfl, by decide, fun w h => by rw [hw]; exact List.mem_cons_of_mem _ (tb_Model w h), by rw [hw, hy]; exact List.mem_cons_of_mem _ tw_937, cP_Model, cN_Model, rfl, Or.inr ⟨rfl, hi, hy.symm⟩⟩
theorem fa_Model_46 {μ : mt_M} {c : Cond} (hy : (mt_y μ).cls = "MailHeadsModel") (hw : mt_w μ = c :: tb_all) : fa_at μ 46 9 19 := ⟨cR_Model, cF_Model, 45, cT_Model, rfl, by decide, fun w h => by rw [hw]; exact List.mem_cons_of_mem _ (tb_Model w h), by rw [hw, hy]; exact List.mem_cons_of_mem _ tw_939, cP_Model, cN_Model⟩
theorem fp_Model_46 {μ : mt_M} {c : Cond} (hy : (mt_y μ).cls = "MailHeadsModel") (hw : mt_w μ = c :: tb_all) (hi : (mt_y μ).name = "<init>") : fa_put μ 46 9 19 (cT_Model 19) := ⟨cR_Model, cF_Model, 45, cT_Model, rfl, by decide, fun w h => by rw [hw]; exact List.mem_cons_of_mem _ (tb_Model w h), by rw [hw, hy]; exact List.mem_cons_of_mem _ tw_939, cP_Model, cN_Model, rfl, Or.inr ⟨rfl, hi, hy.symm⟩⟩
theorem fa_Model_49 {μ : mt_M} {c : Cond} (hy : (mt_y μ).cls = "MailHeadsModel") (hw : mt_w μ = c :: tb_all) : fa_at μ 49 9 20 := ⟨cR_Model, cF_Model, 45, cT_Model, rfl, by decide, fun w h => by rw [hw]; exact List.mem_cons_of_mem _ (tb_Model w h), by rw [hw, hy]; exact List.mem_cons_of_mem _ tw_940, cP_Model, cN_Model⟩
theorem fp_Model_49 {μ : mt_M} {c : Cond} (hy : (mt_y μ).cls = "MailHeadsModel") (hw : mt_w μ = c :: tb_all) (hi : (mt_y μ).name = "<init>") : fa_put μ 49 9 20 (cT_Model 20) := ⟨cR_Model, cF_Model, 45, cT_Model, rfl, by decide, fun w h => by rw [hw]; exact List.mem_cons_of_mem _ (tb_Model w h), by rw [hw, hy]; exact List.mem_cons_of_mem _ tw_940, cP_Model, cN_Model, rfl, Or.inr ⟨rfl, hi, hy.symm⟩⟩
theorem fa_Model_52 {μ : mt_M} {c : Cond} (hy : (mt_y μ).cls = "MailHeadsModel") (hw : mt_w μ = c :: tb_all) : fa_at μ 52 9 21 := ⟨cR_Model, cF_Model, 45, cT_Model, rfl, by decide, fun w h => by rw [hw]; exact List.mem_cons_of_mem _ (tb_Model w h), by rw [hw, hy]; exact List.mem_cons_of_mem _ tw_941, cP_Model, cN_Model⟩
theorem fp_Model_52 {μ : mt_M} {c : Cond} (hy : (mt_y μ).cls = "MailHeadsModel") (hw : mt_w μ = c :: tb_all) (hi : (mt_y μ).name = "<init>") : fa_put μ 52 9 21 (cT_Model 21) := ⟨cR_Model, cF_Model, 45, cT_Model, rfl, by decide, fun w h => by rw [hw]; exact List.mem_cons_of_mem _ (tb_Model w h), by rw [hw, hy]; exact List.mem_cons_of_mem _ tw_941, cP_Model, cN_Model, rfl, Or.inr ⟨rfl, hi, hy.symm⟩⟩
theorem fa_Model_55 {μ : mt_M} {c : Cond} (hy : (mt_y μ).cls = "MailHeadsModel") (hw : mt_w μ = c :: tb_all) : fa_at μ 55 9 22 := ⟨cR_Model, cF_Model, 45, cT_Model, rfl, by decide, fun w h => by rw [hw]; exact List.mem_cons_of_mem _ (tb_Model w h), by rw [hw, hy]; exact List.mem_cons_of_mem _ tw_942, cP_Model, cN_Model⟩
theorem fp_Model_55 {μ : mt_M} {c : Cond} (hy : (mt_y μ).cls = "MailHeadsModel") (hw : mt_w μ = c :: tb_all) (hi : (mt_y μ).name = "<init>") : fa_put μ 55 9 22 (cT_Model 22) := ⟨cR_Model, cF_Model, 45, cT_Model, rfl, by decide, fun w h => by rw [hw]; exact List.mem_cons_of_mem _ (tb_Model w h), by rw [hw, hy]; exact List.mem_cons_of_mem _ tw_942, cP_Model, cN_Model, rfl, Or.inr ⟨rfl, hi, hy.symm⟩⟩
theorem fa_Model_58 {μ : mt_M} {c : Cond} (hy : (mt_y μ).cls = "MailHeadsModel") (hw : mt_w μ = c :: tb_all) : fa_at μ 58 9 23 := ⟨cR_Model, cF_Model, 45, cT_Model, rfl, by decide, fun w h => by rw [hw]; exact List.mem_cons_of_mem _ (tb_Model w h), by rw [hw, hy]; exact List.mem_cons_of_mem _ tw_943, cP_Model, cN_Model⟩
theorem fp_Model_58 {μ : mt_M} {c : Cond} (hy : (mt_y μ).cls = "MailHeadsModel") (hw : mt_w μ = c :: tb_all) (hi : (mt_y μ).name = "<init>") : fa_put μ 58 9 23 (cT_Model 23) := ⟨cR_Model, cF_Model, 45, cT_Model, rfl, by decide, fun w h => by rw [hw]; exact List.mem_cons_of_mem _ (tb_Model w h), by rw [hw, hy]; exact List.mem_cons_of_mem _ tw_943, cP_Model, cN_Model, rfl, Or.inr ⟨rfl, hi, hy.symm⟩⟩
theorem fa_Model_61 {μ : mt_M} {c : Cond} (hy : (mt_y μ).cls = "MailHeadsModel") (hw : mt_w μ = c :: tb_all) : fa_at μ 61 9 26 := ⟨cR_Model, cF_Model, 45, cT_Model, rfl, by decide, fun w h => by rw [hw]; exact List.mem_cons_of_mem _ (tb_Model w h), by rw [hw, hy]; exact List.mem_cons_of_mem _ tw_946, cP_Model, cN_Model⟩
theorem fp_Model_61 {μ : mt_M} {c : Cond} (hy : (mt_y μ).cls = "MailHeadsModel") (hw : mt_w μ = c :: tb_all) (hi : (mt_y μ).name = "<init>") : fa_put μ 61 9 26 (cT_Model 26) := ⟨cR_Model, cF_Model, 45, cT_Model, rfl, by decide, fun w h => by rw [hw]; exact List.mem_cons_of_mem _ (tb_Model w h), by rw [hw, hy]; exact List.mem_cons_of_mem _ tw_946, cP_Model, cN_Model, rfl, Or.inr ⟨rfl, hi, hy.symm⟩⟩
theorem fa_Model_64 {μ : mt_M} {c : Cond} (hy : (mt_y μ).cls = "MailHeadsModel") (hw : mt_w μ = c :: tb_all) : fa_at μ 64 9 28 := ⟨cR_Model, cF_Model, 45, cT_Model, rfl, by decide, fun w h => by rw [hw]; exact List.mem_cons_of_mem _ (tb_Model w h), by rw [hw, hy]; exact List.mem_cons_of_mem _ tw_948, cP_Model, cN_Model⟩
theorem fp_Model_64 {μ : mt_M} {c : Cond} (hy : (mt_y μ).cls = "MailHeadsModel") (hw : mt_w μ = c :: tb_all) (hi : (mt_y μ).name = "<init>") : fa_put μ 64 9 28 (cT_Model 28) := ⟨cR_Model, cF_Model, 45, cT_Model, rfl, by decide, fun w h => by rw [hw]; exact List.mem_cons_of_mem _ (tb_Model w h), by rw [hw, hy]; exact List.mem_cons_of_mem _ tw_948, cP_Model, cN_Model, rfl, Or.inr ⟨rfl, hi, hy.symm⟩⟩
theorem fa_Model_67 {μ : mt_M} {c : Cond} (hy : (mt_y μ).cls = "MailHeadsModel") (hw : mt_w μ = c :: tb_all) : fa_at μ 67 9 29 := ⟨cR_Model, cF_Model, 45, cT_Model, rfl, by decide, fun w h => by rw [hw]; exact List.mem_cons_of_mem _ (tb_Model w h), by rw [hw, hy]; exact List.mem_cons_of_mem _ tw_949, cP_Model, cN_Model⟩
theorem fp_Model_67 {μ : mt_M} {c : Cond} (hy : (mt_y μ).cls = "MailHeadsModel") (hw : mt_w μ = c :: tb_all) (hi : (mt_y μ).name = "<init>") : fa_put μ 67 9 29 (cT_Model 29) := ⟨cR_Model, cF_Model, 45, cT_Model, rfl, by decide, fun w h => by rw [hw]; exact List.mem_cons_of_mem _ (tb_Model w h), by rw [hw, hy]; exact List.mem_cons_of_mem _ tw_949, cP_Model, cN_Model, rfl, Or.inr ⟨rfl, hi, hy.symm⟩⟩
theorem fa_Model_70 {μ : mt_M} {c : Cond} (hy : (mt_y μ).cls = "MailHeadsModel") (hw : mt_w μ = c :: tb_all) : fa_at μ 70 9 30 := ⟨cR_Model, cF_Model, 45, cT_Model, rfl, by decide, fun w h => by rw [hw]; exact List.mem_cons_of_mem _ (tb_Model w h), by rw [hw, hy]; exact List.mem_cons_of_mem _ tw_950, cP_Model, cN_Model⟩
theorem fp_Model_70 {μ : mt_M} {c : Cond} (hy : (mt_y μ).cls = "MailHeadsModel") (hw : mt_w μ = c :: tb_all) (hi : (mt_y μ).name = "<init>") : fa_put μ 70 9 30 (cT_Model 30) := ⟨cR_Model, cF_Model, 45, cT_Model, rfl, by decide, fun w h => by rw [hw]; exact List.mem_cons_of_mem _ (tb_Model w h), by rw [hw, hy]; exact List.mem_cons_of_mem _ tw_950, cP_Model, cN_Model, rfl, Or.inr ⟨rfl, hi, hy.symm⟩⟩
theorem fa_Model_73 {μ : mt_M} {c : Cond} (hy : (mt_y μ).cls = "MailHeadsModel") (hw : mt_w μ = c :: tb_all) : fa_at μ 73 9 31 := ⟨cR_Model, cF_Model, 45, cT_Model, rfl, by decide, fun w h => by rw [hw]; exact List.mem_cons_of_mem _ (tb_Model w h), by rw [hw, hy]; exact List.mem_cons_of_mem _ tw_951, cP_Model, cN_Model⟩
theorem fp_Model_73 {μ : mt_M} {c : Cond} (hy : (mt_y μ).cls = "MailHeadsModel") (hw : mt_w μ = c :: tb_all) (hi : (mt_y μ).name = "<init>") : fa_put μ 73 9 31 (cT_Model 31) := ⟨cR_Model, cF_Model, 45, cT_Model, rfl, by decide, fun w h => by rw [hw]; exact List.mem_cons_of_mem _ (tb_Model w h), by rw [hw, hy]; exact List.mem_cons_of_mem _ tw_951, cP_Model, cN_Model, rfl, Or.inr ⟨rfl, hi, hy.symm⟩⟩
theorem fa_Model_77 {μ : mt_M} {c : Cond} (hy : (mt_y μ).cls = "MailHeadsModel") (hw : mt_w μ = c :: tb_all) : fa_at μ 77 9 32 := ⟨cR_Model, cF_Model, 45, cT_Model, rfl, by decide, fun w h => by rw [hw]; exact List.mem_cons_of_mem _ (tb_Model w h), by rw [hw, hy]; exact List.mem_cons_of_mem _ tw_952, cP_Model, cN_Model⟩
theorem fp_Model_77 {μ : mt_M} {c : Cond} (hy : (mt_y μ).cls = "MailHeadsModel") (hw : mt_w μ = c :: tb_all) (hi : (mt_y μ).name = "<init>") : fa_put μ 77 9 32 (cT_Model 32) := ⟨cR_Model, cF_Model, 45, cT_Model, rfl, by decide, fun w h => by rw [hw]; exact List.mem_cons_of_mem _ (tb_Model w h), by rw [hw, hy]; exact List.mem_cons_of_mem _ tw_952, cP_Model, cN_Model, rfl, Or.inr ⟨rfl, hi, hy.symm⟩⟩
theorem fa_Model_80 {μ : mt_M} {c : Cond} (hy : (mt_y μ).cls = "MailHeadsModel") (hw : mt_w μ = c :: tb_all) : fa_at μ 80 9 33 := ⟨cR_Model, cF_Model, 45, cT_Model, rfl, by decide, fun w h => by rw [hw]; exact List.mem_cons_of_mem _ (tb_Model w h), by rw [hw, hy]; exact List.mem_cons_of_mem _ tw_953, cP_Model, cN_Model⟩
theorem fp_Model_80 {μ : mt_M} {c : Cond} (hy : (mt_y μ).cls = "MailHeadsModel") (hw : mt_w μ = c :: tb_all) (hi : (mt_y μ).name = "<init>") : fa_put μ 80 9 33 (cT_Model 33) := ⟨cR_Model, cF_Model, 45, cT_Model, rfl, by decide, fun w h => by rw [hw]; exact List.mem_cons_of_mem _ (tb_Model w h), by rw [hw, hy]; exact List.mem_cons_of_mem _ tw_953, cP_Model, cN_Model, rfl, Or.inr ⟨rfl, hi, hy.symm⟩⟩
theorem fa_Model_83 {μ : mt_M} {c : Cond} (hy : (mt_y μ).cls = "MailHeadsModel") (hw : mt_w μ = c :: tb_all) : fa_at μ 83 9 34 := ⟨cR_Model, cF_Model, 45, cT_Model, rfl, by decide, fun w h => by rw [hw]; exact List.mem_cons_of_mem _ (tb_Model w h), by rw [hw, hy]; exact List.mem_cons_of_mem _ tw_954, cP_Model, cN_Model⟩
theorem fp_Model_83 {μ : mt_M} {c : Cond} (hy : (mt_y μ).cls = "MailHeadsModel") (hw : mt_w μ = c :: tb_all) (hi : (mt_y μ).name = "<init>") : fa_put μ 83 9 34 (cT_Model 34) := ⟨cR_Model, cF_Model, 45, cT_Model, rfl, by decide, fun w h => by rw [hw]; exact List.mem_cons_of_mem _ (tb_Model w h), by rw [hw, hy]; exact List.mem_cons_of_mem _ tw_954, cP_Model, cN_Model, rfl, Or.inr ⟨rfl, hi, hy.symm⟩⟩
theorem fa_Model_86 {μ : mt_M} {c : Cond} (hy : (mt_y μ).cls = "MailHeadsModel") (hw : mt_w μ = c :: tb_all) : fa_at μ 86 9 35 := ⟨cR_Model, cF_Model, 45, cT_Model, rfl, by decide, fun w h => by rw [hw]; exact List.mem_cons_of_mem _ (tb_Model w h), by rw [hw, hy]; exact List.mem_cons_of_mem _ tw_955, cP_Model, cN_Model⟩
theorem fp_Model_86 {μ : mt_M} {c : Cond} (hy : (mt_y μ).cls = "MailHeadsModel") (hw : mt_w μ = c :: tb_all) (hi : (mt_y μ).name = "<init>") : fa_put μ 86 9 35 (cT_Model 35) := ⟨cR_Model, cF_Model, 45, cT_Model, rfl, by decide, fun w h => by rw [hw]; exact List.mem_cons_of_mem _ (tb_Model w h), by rw [hw, hy]; exact List.mem_cons_of_mem _ tw_955, cP_Model, cN_Model, rfl, Or.inr ⟨rfl, hi, hy.symm⟩⟩
theorem fa_Model_89 {μ : mt_M} {c : Cond} (hy : (mt_y μ).cls = "MailHeadsModel") (hw : mt_w μ = c :: tb_all) : fa_at μ 89 9 36 := ⟨cR_Model, cF_Model, 45, cT_Model, rfl, by decide, fun w h => by rw [hw]; exact List.mem_cons_of_mem _ (tb_Model w h), by rw [hw, hy]; exact List.mem_cons_of_mem _ tw_956, cP_Model, cN_Model⟩
theorem fp_Model_89 {μ : mt_M} {c : Cond} (hy : (mt_y μ).cls = "MailHeadsModel") (hw : mt_w μ = c :: tb_all) (hi : (mt_y μ).name = "<init>") : fa_put μ 89 9 36 (cT_Model 36) := ⟨cR_Model, cF_Model, 45, cT_Model, rfl, by decide, fun w h => by rw [hw]; exact List.mem_cons_of_mem _ (tb_Model w h), by rw [hw, hy]; exact List.mem_cons_of_mem _ tw_956, cP_Model, cN_Model, rfl, Or.inr ⟨rfl, hi, hy.symm⟩⟩
theorem fa_Model_92 {μ : mt_M} {c : Cond} (hy : (mt_y μ).cls = "MailHeadsModel") (hw : mt_w μ = c :: tb_all) : fa_at μ 92 9 37 := ⟨cR_Model, cF_Model, 45, cT_Model, rfl, by decide, fun w h => by rw [hw]; exact List.mem_cons_of_mem _ (tb_Model w h), by rw [hw, hy]; exact List.mem_cons_of_mem _ tw_957, cP_Model, cN_Model⟩
theorem fp_Model_92 {μ : mt_M} {c : Cond} (hy : (mt_y μ).cls = "MailHeadsModel") (hw : mt_w μ = c :: tb_all) : fa_put μ 92 9 37 (cT_Model 37) := ⟨cR_Model, cF_Model, 45, cT_Model, rfl, by decide, fun w h => by rw [hw]; exact List.mem_cons_of_mem _ (tb_Model w h), by rw [hw, hy]; exact List.mem_cons_of_mem _ tw_957, cP_Model, cN_Model, rfl, Or.inl rfl⟩
theorem fa_Model_96 {μ : mt_M} {c : Cond} (hy : (mt_y μ).cls = "MailHeadsModel") (hw : mt_w μ = c :: tb_all) : fa_at μ 96 9 38 := ⟨cR_Model, cF_Model, 45, cT_Model, rfl, by decide, fun w h => by rw [hw]; exact List.mem_cons_of_mem _ (tb_Model w h), by rw [hw, hy]; exact List.mem_cons_of_mem _ tw_958, cP_Model, cN_Model⟩
theorem fp_Model_96 {μ : mt_M} {c : Cond} (hy : (mt_y μ).cls = "MailHeadsModel") (hw : mt_w μ = c :: tb_all) : fa_put μ 96 9 38 (cT_Model 38) := ⟨cR_Model, cF_Model, 45, cT_Model, rfl, by decide, fun w h => by rw [hw]; exact List.mem_cons_of_mem _ (tb_Model w h), by rw [hw, hy]; exact List.mem_cons_of_mem _ tw_958, cP_Model, cN_Model, rfl, Or.inl rfl⟩
theorem fa_Model_99 {μ : mt_M} {c : Cond} (hy : (mt_y μ).cls = "MailHeadsModel") (hw : mt_w μ = c :: tb_all) : fa_at μ 99 9 0 := ⟨cR_Model, cF_Model, 45, cT_Model, rfl, by decide, fun w h => by rw [hw]; exact List.mem_cons_of_mem _ (tb_Model w h), by rw [hw, hy]; exact List.mem_cons_of_mem _ tw_920, cP_Model, cN_Model⟩
theorem fp_Model_99 {μ : mt_M} {c : Cond} (hy : (mt_y μ).cls = "MailHeadsModel") (hw : mt_w μ = c :: tb_all) : fa_put μ 99 9 0 (cT_Model 0) := ⟨cR_Model, cF_Model, 45, cT_Model, rfl, by decide, fun w h => by rw [hw]; exact List.mem_cons_of_mem _ (tb_Model w h), by rw [hw, hy]; exact List.mem_cons_of_mem _ tw_920, cP_Model, cN_Model, rfl, Or.inl rfl⟩
theorem fa_Model_106 {μ : mt_M} {c : Cond} (hy : (mt_y μ).cls = "MailHeadsModel") (hw : mt_w μ = c :: tb_all) : fa_at μ 106 9 3 := ⟨cR_Model, cF_Model, 45, cT_Model, rfl, by decide, fun w h => by rw [hw]; exact List.mem_cons_of_mem _ (tb_Model w h), by rw [hw, hy]; exact List.mem_cons_of_mem _ tw_923, cP_Model, cN_Model⟩
theorem fp_Model_106 {μ : mt_M} {c : Cond} (hy : (mt_y μ).cls = "MailHeadsModel") (hw : mt_w μ = c :: tb_all) : fa_put μ 106 9 3 (cT_Model 3) := ⟨cR_Model, cF_Model, 45, cT_Model, rfl, by decide, fun w h => by rw [hw]; exact List.mem_cons_of_mem _ (tb_Model w h), by rw [hw, hy]; exact List.mem_cons_of_mem _ tw_923, cP_Model, cN_Model, rfl, Or.inl rfl⟩
theorem fa_Model_113 {μ : mt_M} {c : Cond} (hy : (mt_y μ).cls = "MailHeadsModel") (hw : mt_w μ = c :: tb_all) : fa_at μ 113 9 11 := ⟨cR_Model, cF_Model, 45, cT_Model, rfl, by decide, fun w h => by rw [hw]; exact List.mem_cons_of_mem _ (tb_Model w h), by rw [hw, hy]; exact List.mem_cons_of_mem _ tw_931, cP_Model, cN_Model⟩
theorem fp_Model_113 {μ : mt_M} {c : Cond} (hy : (mt_y μ).cls = "MailHeadsModel") (hw : mt_w μ = c :: tb_all) : fa_put μ 113 9 11 (cT_Model 11) := ⟨cR_Model, cF_Model, 45, cT_Model, rfl, by decide, fun w h => by rw [hw]; exact List.mem_cons_of_mem _ (tb_Model w h), by rw [hw, hy]; exact List.mem_cons_of_mem _ tw_931, cP_Model, cN_Model, rfl, Or.inl rfl⟩
theorem fa_Model_116 {μ : mt_M} {c : Cond} (hy : (mt_y μ).cls = "MailHeadsModel") (hw : mt_w μ = c :: tb_all) : fa_at μ 116 9 4 := ⟨cR_Model, cF_Model, 45, cT_Model, rfl, by decide, fun w h => by rw [hw]; exact List.mem_cons_of_mem _ (tb_Model w h), by rw [hw, hy]; exact List.mem_cons_of_mem _ tw_924, cP_Model, cN_Model⟩
theorem fp_Model_116 {μ : mt_M} {c : Cond} (hy : (mt_y μ).cls = "MailHeadsModel") (hw : mt_w μ = c :: tb_all) : fa_put μ 116 9 4 (cT_Model 4) := ⟨cR_Model, cF_Model, 45, cT_Model, rfl, by decide, fun w h => by rw [hw]; exact List.mem_cons_of_mem _ (tb_Model w h), by rw [hw, hy]; exact List.mem_cons_of_mem _ tw_924, cP_Model, cN_Model, rfl, Or.inl rfl⟩
theorem fa_Model_122 {μ : mt_M} {c : Cond} (hy : (mt_y μ).cls = "MailHeadsModel") (hw : mt_w μ = c :: tb_all) : fa_at μ 122 9 5 := ⟨cR_Model, cF_Model, 45, cT_Model, rfl, by decide, fun w h => by rw [hw]; exact List.mem_cons_of_mem _ (tb_Model w h), by rw [hw, hy]; exact List.mem_cons_of_mem _ tw_925, cP_Model, cN_Model⟩
theorem fp_Model_122 {μ : mt_M} {c : Cond} (hy : (mt_y μ).cls = "MailHeadsModel") (hw : mt_w μ = c :: tb_all) : fa_put μ 122 9 5 (cT_Model 5) := ⟨cR_Model, cF_Model, 45, cT_Model, rfl, by decide, fun w h => by rw [hw]; exact List.mem_cons_of_mem _ (tb_Model w h), by rw [hw, hy]; exact List.mem_cons_of_mem _ tw_925, cP_Model, cN_Model, rfl, Or.inl rfl⟩
theorem fa_Model_143 {μ : mt_M} {c : Cond} (hy : (mt_y μ).cls = "MailHeadsModel") (hw : mt_w μ = c :: tb_all) : fa_at μ 143 9 39 := ⟨cR_Model, cF_Model, 45, cT_Model, rfl, by decide, fun w h => by rw [hw]; exact List.mem_cons_of_mem _ (tb_Model w h), by rw [hw, hy]; exact List.mem_cons_of_mem _ tw_959, cP_Model, cN_Model⟩
theorem fp_Model_143 {μ : mt_M} {c : Cond} (hy : (mt_y μ).cls = "MailHeadsModel") (hw : mt_w μ = c :: tb_all) : fa_put μ 143 9 39 (cT_Model 39) := ⟨cR_Model, cF_Model, 45, cT_Model, rfl, by decide, fun w h => by rw [hw]; exact List.mem_cons_of_mem _ (tb_Model w h), by rw [hw, hy]; exact List.mem_cons_of_mem _ tw_959, cP_Model, cN_Model, rfl, Or.inl rfl⟩
theorem fa_Model_146 {μ : mt_M} {c : Cond} (hy : (mt_y μ).cls = "MailHeadsModel") (hw : mt_w μ = c :: tb_all) : fa_at μ 146 9 40 := ⟨cR_Model, cF_Model, 45, cT_Model, rfl, by decide, fun w h => by rw [hw]; exact List.mem_cons_of_mem _ (tb_Model w h), by rw [hw, hy]; exact List.mem_cons_of_mem _ tw_960, cP_Model, cN_Model⟩
theorem fp_Model_146 {μ : mt_M} {c : Cond} (hy : (mt_y μ).cls = "MailHeadsModel") (hw : mt_w μ = c :: tb_all) : fa_put μ 146 9 40 (cT_Model 40) := ⟨cR_Model, cF_Model, 45, cT_Model, rfl, by decide, fun w h => by rw [hw]; exact List.mem_cons_of_mem _ (tb_Model w h), by rw [hw, hy]; exact List.mem_cons_of_mem _ tw_960, cP_Model, cN_Model, rfl, Or.inl rfl⟩
theorem fa_Model_149 {μ : mt_M} {c : Cond} (hy : (mt_y μ).cls = "MailHeadsModel") (hw : mt_w μ = c :: tb_all) : fa_at μ 149 9 12 := ⟨cR_Model, cF_Model, 45, cT_Model, rfl, by decide, fun w h => by rw [hw]; exact List.mem_cons_of_mem _ (tb_Model w h), by rw [hw, hy]; exact List.mem_cons_of_mem _ tw_932, cP_Model, cN_Model⟩
theorem fp_Model_149 {μ : mt_M} {c : Cond} (hy : (mt_y μ).cls = "MailHeadsModel") (hw : mt_w μ = c :: tb_all) : fa_put μ 149 9 12 (cT_Model 12) := ⟨cR_Model, cF_Model, 45, cT_Model, rfl, by decide, fun w h => by rw [hw]; exact List.mem_cons_of_mem _ (tb_Model w h), by rw [hw, hy]; exact List.mem_cons_of_mem _ tw_932, cP_Model, cN_Model, rfl, Or.inl rfl⟩
theorem fa_Model_152 {μ : mt_M} {c : Cond} (hy : (mt_y μ).cls = "MailHeadsModel") (hw : mt_w μ = c :: tb_all) : fa_at μ 152 9 18 := ⟨cR_Model, cF_Model, 45, cT_Model, rfl, by decide, fun w h => by rw [hw]; exact List.mem_cons_of_mem _ (tb_Model w h), by rw [hw, hy]; exact List.mem_cons_of_mem _ tw_938, cP_Model, cN_Model⟩
theorem fp_Model_152 {μ : mt_M} {c : Cond} (hy : (mt_y μ).cls = "MailHeadsModel") (hw : mt_w μ = c :: tb_all) : fa_put μ 152 9 18 (cT_Model 18) := ⟨cR_Model, cF_Model, 45, cT_Model, rfl, by decide, fun w h => by rw [hw]; exact List.mem_cons_of_mem _ (tb_Model w h), by rw [hw, hy]; exact List.mem_cons_of_mem _ tw_938, cP_Model, cN_Model, rfl, Or.inl rfl⟩
theorem fa_Model_165 {μ : mt_M} {c : Cond} (hy : (mt_y μ).cls = "MailHeadsModel") (hw : mt_w μ = c :: tb_all) : fa_at μ 165 9 41 := ⟨cR_Model, cF_Model, 45, cT_Model, rfl, by decide, fun w h => by rw [hw]; exact List.mem_cons_of_mem _ (tb_Model w h), by rw [hw, hy]; exact List.mem_cons_of_mem _ tw_961, cP_Model, cN_Model⟩
theorem fp_Model_165 {μ : mt_M} {c : Cond} (hy : (mt_y μ).cls = "MailHeadsModel") (hw : mt_w μ = c :: tb_all) : fa_put μ 165 9 41 (cT_Model 41) := ⟨cR_Model, cF_Model, 45, cT_Model, rfl, by decide, fun w h => by rw [hw]; exact List.mem_cons_of_mem _ (tb_Model w h), by rw [hw, hy]; exact List.mem_cons_of_mem _ tw_961, cP_Model, cN_Model, rfl, Or.inl rfl⟩
theorem fa_Model_221 {μ : mt_M} {c : Cond} (hy : (mt_y μ).cls = "MailHeadsModel") (hw : mt_w μ = c :: tb_all) : fa_at μ 221 9 42 := ⟨cR_Model, cF_Model, 45, cT_Model, rfl, by decide, fun w h => by rw [hw]; exact List.mem_cons_of_mem _ (tb_Model w h), by rw [hw, hy]; exact List.mem_cons_of_mem _ tw_962, cP_Model, cN_Model⟩
theorem fp_Model_221 {μ : mt_M} {c : Cond} (hy : (mt_y μ).cls = "MailHeadsModel") (hw : mt_w μ = c :: tb_all) : fa_put μ 221 9 42 (cT_Model 42) := ⟨cR_Model, cF_Model, 45, cT_Model, rfl, by decide, fun w h => by rw [hw]; exact List.mem_cons_of_mem _ (tb_Model w h), by rw [hw, hy]; exact List.mem_cons_of_mem _ tw_962, cP_Model, cN_Model, rfl, Or.inl rfl⟩
theorem fa_Model_224 {μ : mt_M} {c : Cond} (hy : (mt_y μ).cls = "MailHeadsModel") (hw : mt_w μ = c :: tb_all) : fa_at μ 224 9 43 := ⟨cR_Model, cF_Model, 45, cT_Model, rfl, by decide, fun w h => by rw [hw]; exact List.mem_cons_of_mem _ (tb_Model w h), by rw [hw, hy]; exact List.mem_cons_of_mem _ tw_963, cP_Model, cN_Model⟩
theorem fp_Model_224 {μ : mt_M} {c : Cond} (hy : (mt_y μ).cls = "MailHeadsModel") (hw : mt_w μ = c :: tb_all) : fa_put μ 224 9 43 (cT_Model 43) := ⟨cR_Model, cF_Model, 45, cT_Model, rfl, by decide, fun w h => by rw [hw]; exact List.mem_cons_of_mem _ (tb_Model w h), by rw [hw, hy]; exact List.mem_cons_of_mem _ tw_963, cP_Model, cN_Model, rfl, Or.inl rfl⟩
theorem fa_Model_227 {μ : mt_M} {c : Cond} (hy : (mt_y μ).cls = "MailHeadsModel") (hw : mt_w μ = c :: tb_all) : fa_at μ 227 9 25 := ⟨cR_Model, cF_Model, 45, cT_Model, rfl, by decide, fun w h => by rw [hw]; exact List.mem_cons_of_mem _ (tb_Model w h), by rw [hw, hy]; exact List.mem_cons_of_mem _ tw_945, cP_Model, cN_Model⟩
theorem fp_Model_227 {μ : mt_M} {c : Cond} (hy : (mt_y μ).cls = "MailHeadsModel") (hw : mt_w μ = c :: tb_all) : fa_put μ 227 9 25 (cT_Model 25) := ⟨cR_Model, cF_Model, 45, cT_Model, rfl, by decide, fun w h => by rw [hw]; exact List.mem_cons_of_mem _ (tb_Model w h), by rw [hw, hy]; exact List.mem_cons_of_mem _ tw_945, cP_Model, cN_Model, rfl, Or.inl rfl⟩
theorem fa_Model_248 {μ : mt_M} {c : Cond} (hy : (mt_y μ).cls = "MailHeadsModel") (hw : mt_w μ = c :: tb_all) : fa_at μ 248 9 24 := ⟨cR_Model, cF_Model, 45, cT_Model, rfl, by decide, fun w h => by rw [hw]; exact List.mem_cons_of_mem _ (tb_Model w h), by rw [hw, hy]; exact List.mem_cons_of_mem _ tw_944, cP_Model, cN_Model⟩
theorem fp_Model_248 {μ : mt_M} {c : Cond} (hy : (mt_y μ).cls = "MailHeadsModel") (hw : mt_w μ = c :: tb_all) : fa_put μ 248 9 24 (cT_Model 24) := ⟨cR_Model, cF_Model, 45, cT_Model, rfl, by decide, fun w h => by rw [hw]; exact List.mem_cons_of_mem _ (tb_Model w h), by rw [hw, hy]; exact List.mem_cons_of_mem _ tw_944, cP_Model, cN_Model, rfl, Or.inl rfl⟩
theorem fa_Model_265 {μ : mt_M} {c : Cond} (hy : (mt_y μ).cls = "MailHeadsModel") (hw : mt_w μ = c :: tb_all) : fa_at μ 265 9 44 := ⟨cR_Model, cF_Model, 45, cT_Model, rfl, by decide, fun w h => by rw [hw]; exact List.mem_cons_of_mem _ (tb_Model w h), by rw [hw, hy]; exact List.mem_cons_of_mem _ tw_964, cP_Model, cN_Model⟩
theorem fp_Model_265 {μ : mt_M} {c : Cond} (hy : (mt_y μ).cls = "MailHeadsModel") (hw : mt_w μ = c :: tb_all) : fa_put μ 265 9 44 (cT_Model 44) := ⟨cR_Model, cF_Model, 45, cT_Model, rfl, by decide, fun w h => by rw [hw]; exact List.mem_cons_of_mem _ (tb_Model w h), by rw [hw, hy]; exact List.mem_cons_of_mem _ tw_964, cP_Model, cN_Model, rfl, Or.inl rfl⟩
theorem fa_Model_347 {μ : mt_M} {c : Cond} (hy : (mt_y μ).cls = "MailHeadsModel") (hw : mt_w μ = c :: tb_all) : fa_at μ 347 9 27 := ⟨cR_Model, cF_Model, 45, cT_Model, rfl, by decide, fun w h => by rw [hw]; exact List.mem_cons_of_mem _ (tb_Model w h), by rw [hw, hy]; exact List.mem_cons_of_mem _ tw_947, cP_Model, cN_Model⟩
theorem fp_Model_347 {μ : mt_M} {c : Cond} (hy : (mt_y μ).cls = "MailHeadsModel") (hw : mt_w μ = c :: tb_all) : fa_put μ 347 9 27 (cT_Model 27) := ⟨cR_Model, cF_Model, 45, cT_Model, rfl, by decide, fun w h => by rw [hw]; exact List.mem_cons_of_mem _ (tb_Model w h), by rw [hw, hy]; exact List.mem_cons_of_mem _ tw_947, cP_Model, cN_Model, rfl, Or.inl rfl⟩
theorem fn_Mail_13 {μ : mt_M} {c : Cond} (hy : (mt_y μ).cls = "MailHeads") (hw : mt_w μ = c :: tb_all) : fa_new μ 13 1 [.null, .int 0] := ⟨cR_Row, cF_Row, 2, cT_Row, rfl, rfl, fun w h => by rw [hw]; exact List.mem_cons_of_mem _ (tb_Row w h), by rw [hw, hy]; exact List.mem_cons_of_mem _ tw_31, by rw [hw]; exact List.mem_cons_of_mem _ tw_32, by rw [hw]; exact List.mem_cons_of_mem _ tw_2, cP_Row, by decide +kernel⟩
theorem fn_Mail_20 {μ : mt_M} {c : Cond} (hy : (mt_y μ).cls = "MailHeads") (hw : mt_w μ = c :: tb_all) : fa_new μ 20 2 [.null, .int 0, .int 0] := ⟨cR_Head, cF_Head, 3, cT_Head, rfl, rfl, fun w h => by rw [hw]; exact List.mem_cons_of_mem _ (tb_Head w h), by rw [hw, hy]; exact List.mem_cons_of_mem _ tw_45, by rw [hw]; exact List.mem_cons_of_mem _ tw_46, by rw [hw]; exact List.mem_cons_of_mem _ tw_3, cP_Head, by decide +kernel⟩
theorem fn_Mail_27 {μ : mt_M} {c : Cond} (hy : (mt_y μ).cls = "MailHeads") (hw : mt_w μ = c :: tb_all) : fa_new μ 27 4 [.null, .null, .null, .int 0, .null] := ⟨cR_Words, cF_Words, 5, cT_Words, rfl, rfl, fun w h => by rw [hw]; exact List.mem_cons_of_mem _ (tb_Words w h), by rw [hw, hy]; exact List.mem_cons_of_mem _ tw_96, by rw [hw]; exact List.mem_cons_of_mem _ tw_97, by rw [hw]; exact List.mem_cons_of_mem _ tw_8, cP_Words, by decide +kernel⟩
theorem fn_Mail_34 {μ : mt_M} {c : Cond} (hy : (mt_y μ).cls = "MailHeads") (hw : mt_w μ = c :: tb_all) : fa_new μ 34 5 [.null, .null, .null, .null, .null, .int 0, .int 0, .int 0] := ⟨cR_Addresses, cF_Addresses, 8, cT_Addresses, rfl, rfl, fun w h => by rw [hw]; exact List.mem_cons_of_mem _ (tb_Addresses w h), by rw [hw, hy]; exact List.mem_cons_of_mem _ tw_124, by rw [hw]; exact List.mem_cons_of_mem _ tw_125, by rw [hw]; exact List.mem_cons_of_mem _ tw_9, cP_Addresses, by decide +kernel⟩
theorem fn_Mail_43 {μ : mt_M} {c : Cond} (hy : (mt_y μ).cls = "MailHeads") (hw : mt_w μ = c :: tb_all) : fa_new μ 43 6 [.null] := ⟨cR_Identities, cF_Identities, 1, cT_Identities, rfl, rfl, fun w h => by rw [hw]; exact List.mem_cons_of_mem _ (tb_Identities w h), by rw [hw, hy]; exact List.mem_cons_of_mem _ tw_159, by rw [hw]; exact List.mem_cons_of_mem _ tw_160, by rw [hw]; exact List.mem_cons_of_mem _ tw_10, cP_Identities, by decide +kernel⟩
theorem fn_Mail_50 {μ : mt_M} {c : Cond} (hy : (mt_y μ).cls = "MailHeads") (hw : mt_w μ = c :: tb_all) : fa_new μ 50 7 [.null, .int 0] := ⟨cR_DateReader, cF_DateReader, 2, cT_DateReader, rfl, rfl, fun w h => by rw [hw]; exact List.mem_cons_of_mem _ (tb_DateReader w h), by rw [hw, hy]; exact List.mem_cons_of_mem _ tw_171, by rw [hw]; exact List.mem_cons_of_mem _ tw_172, by rw [hw]; exact List.mem_cons_of_mem _ tw_11, cP_DateReader, by decide +kernel⟩
theorem fn_Mail_57 {μ : mt_M} {c : Cond} (hy : (mt_y μ).cls = "MailHeads") (hw : mt_w μ = c :: tb_all) : fa_new μ 57 8 [.null, .null, .null, .null, .null, .null, .null] := ⟨cR_ContentType, cF_ContentType, 7, cT_ContentType, rfl, rfl, fun w h => by rw [hw]; exact List.mem_cons_of_mem _ (tb_ContentType w h), by rw [hw, hy]; exact List.mem_cons_of_mem _ tw_184, by rw [hw]; exact List.mem_cons_of_mem _ tw_185, by rw [hw]; exact List.mem_cons_of_mem _ tw_12, cP_ContentType, by decide +kernel⟩
theorem fn_Mail_64 {μ : mt_M} {c : Cond} (hy : (mt_y μ).cls = "MailHeads") (hw : mt_w μ = c :: tb_all) : fa_new μ 64 3 [.null, .null] := ⟨cR_Texts, cF_Texts, 2, cT_Texts, rfl, rfl, fun w h => by rw [hw]; exact List.mem_cons_of_mem _ (tb_Texts w h), by rw [hw, hy]; exact List.mem_cons_of_mem _ tw_216, by rw [hw]; exact List.mem_cons_of_mem _ tw_52, by rw [hw]; exact List.mem_cons_of_mem _ tw_4, cP_Texts, by decide +kernel⟩
theorem fn_Addresses_15 {μ : mt_M} {c : Cond} (hy : (mt_y μ).cls = "MailHeads$Addresses") (hw : mt_w μ = c :: tb_all) : fa_new μ 15 3 [.null, .null] := ⟨cR_Texts, cF_Texts, 2, cT_Texts, rfl, rfl, fun w h => by rw [hw]; exact List.mem_cons_of_mem _ (tb_Texts w h), by rw [hw, hy]; exact List.mem_cons_of_mem _ tw_130, by rw [hw]; exact List.mem_cons_of_mem _ tw_52, by rw [hw]; exact List.mem_cons_of_mem _ tw_4, cP_Texts, by decide +kernel⟩
theorem fn_Addresses_22 {μ : mt_M} {c : Cond} (hy : (mt_y μ).cls = "MailHeads$Addresses") (hw : mt_w μ = c :: tb_all) : fa_new μ 22 1 [.null, .int 0] := ⟨cR_Row, cF_Row, 2, cT_Row, rfl, rfl, fun w h => by rw [hw]; exact List.mem_cons_of_mem _ (tb_Row w h), by rw [hw, hy]; exact List.mem_cons_of_mem _ tw_132, by rw [hw]; exact List.mem_cons_of_mem _ tw_32, by rw [hw]; exact List.mem_cons_of_mem _ tw_2, cP_Row, by decide +kernel⟩
theorem fn_ContentType_15 {μ : mt_M} {c : Cond} (hy : (mt_y μ).cls = "MailHeads$ContentType") (hw : mt_w μ = c :: tb_all) : fa_new μ 15 3 [.null, .null] := ⟨cR_Texts, cF_Texts, 2, cT_Texts, rfl, rfl, fun w h => by rw [hw]; exact List.mem_cons_of_mem _ (tb_Texts w h), by rw [hw, hy]; exact List.mem_cons_of_mem _ tw_190, by rw [hw]; exact List.mem_cons_of_mem _ tw_52, by rw [hw]; exact List.mem_cons_of_mem _ tw_4, cP_Texts, by decide +kernel⟩
theorem fn_ContentType_28 {μ : mt_M} {c : Cond} (hy : (mt_y μ).cls = "MailHeads$ContentType") (hw : mt_w μ = c :: tb_all) : fa_new μ 28 1 [.null, .int 0] := ⟨cR_Row, cF_Row, 2, cT_Row, rfl, rfl, fun w h => by rw [hw]; exact List.mem_cons_of_mem _ (tb_Row w h), by rw [hw, hy]; exact List.mem_cons_of_mem _ tw_192, by rw [hw]; exact List.mem_cons_of_mem _ tw_32, by rw [hw]; exact List.mem_cons_of_mem _ tw_2, cP_Row, by decide +kernel⟩
theorem fn_Head_9 {μ : mt_M} {c : Cond} (hy : (mt_y μ).cls = "MailHeads$Head") (hw : mt_w μ = c :: tb_all) : fa_new μ 9 3 [.null, .null] := ⟨cR_Texts, cF_Texts, 2, cT_Texts, rfl, rfl, fun w h => by rw [hw]; exact List.mem_cons_of_mem _ (tb_Texts w h), by rw [hw, hy]; exact List.mem_cons_of_mem _ tw_51, by rw [hw]; exact List.mem_cons_of_mem _ tw_52, by rw [hw]; exact List.mem_cons_of_mem _ tw_4, cP_Texts, by decide +kernel⟩
theorem fn_Identities_9 {μ : mt_M} {c : Cond} (hy : (mt_y μ).cls = "MailHeads$Identities") (hw : mt_w μ = c :: tb_all) : fa_new μ 9 3 [.null, .null] := ⟨cR_Texts, cF_Texts, 2, cT_Texts, rfl, rfl, fun w h => by rw [hw]; exact List.mem_cons_of_mem _ (tb_Texts w h), by rw [hw, hy]; exact List.mem_cons_of_mem _ tw_165, by rw [hw]; exact List.mem_cons_of_mem _ tw_52, by rw [hw]; exact List.mem_cons_of_mem _ tw_4, cP_Texts, by decide +kernel⟩
theorem fn_Texts_9 {μ : mt_M} {c : Cond} (hy : (mt_y μ).cls = "MailHeads$Texts") (hw : mt_w μ = c :: tb_all) : fa_new μ 9 1 [.null, .int 0] := ⟨cR_Row, cF_Row, 2, cT_Row, rfl, rfl, fun w h => by rw [hw]; exact List.mem_cons_of_mem _ (tb_Row w h), by rw [hw, hy]; exact List.mem_cons_of_mem _ tw_57, by rw [hw]; exact List.mem_cons_of_mem _ tw_32, by rw [hw]; exact List.mem_cons_of_mem _ tw_2, cP_Row, by decide +kernel⟩
theorem fn_Words_9 {μ : mt_M} {c : Cond} (hy : (mt_y μ).cls = "MailHeads$Words") (hw : mt_w μ = c :: tb_all) : fa_new μ 9 3 [.null, .null] := ⟨cR_Texts, cF_Texts, 2, cT_Texts, rfl, rfl, fun w h => by rw [hw]; exact List.mem_cons_of_mem _ (tb_Texts w h), by rw [hw, hy]; exact List.mem_cons_of_mem _ tw_102, by rw [hw]; exact List.mem_cons_of_mem _ tw_52, by rw [hw]; exact List.mem_cons_of_mem _ tw_4, cP_Texts, by decide +kernel⟩
theorem fn_Words_18 {μ : mt_M} {c : Cond} (hy : (mt_y μ).cls = "MailHeads$Words") (hw : mt_w μ = c :: tb_all) : fa_new μ 18 1 [.null, .int 0] := ⟨cR_Row, cF_Row, 2, cT_Row, rfl, rfl, fun w h => by rw [hw]; exact List.mem_cons_of_mem _ (tb_Row w h), by rw [hw, hy]; exact List.mem_cons_of_mem _ tw_104, by rw [hw]; exact List.mem_cons_of_mem _ tw_32, by rw [hw]; exact List.mem_cons_of_mem _ tw_2, cP_Row, by decide +kernel⟩
theorem fn_Law_8 {μ : mt_M} {c : Cond} (hy : (mt_y μ).cls = "MailHeadsLaw") (hw : mt_w μ = c :: tb_all) : fa_new μ 8 0 [.null, .null, .null, .null, .null, .null, .null, .null, .null] := ⟨cR_Mail, cF_Mail, 9, cT_Mail, rfl, rfl, fun w h => by rw [hw]; exact List.mem_cons_of_mem _ (tb_Mail w h), by rw [hw, hy]; exact List.mem_cons_of_mem _ tw_23, by rw [hw]; exact List.mem_cons_of_mem _ tw_24, by rw [hw]; exact List.mem_cons_of_mem _ tw_1, cP_Mail, by decide +kernel⟩
theorem fn_Law_27 {μ : mt_M} {c : Cond} (hy : (mt_y μ).cls = "MailHeadsLaw") (hw : mt_w μ = c :: tb_all) : fa_new μ 27 9 [.int 0, .null, .null, .int 0, .int 0, .int 0, .null, .null, .null, .null, .null, .int 0, .int 0, .null, .null, .null, .null, .null, .int 0, .null, .null, .null, .null, .null, .int 0, .int 0, .null, .int 0, .null, .null, .null, .null, .null, .null, .null, .null, .null, .int 0, .int 0, .int 0, .int 0, .int 0, .int 0, .int 0, .int 0] := ⟨cR_Model, cF_Model, 45, cT_Model, rfl, rfl, fun w h => by rw [hw]; exact List.mem_cons_of_mem _ (tb_Model w h), by rw [hw, hy]; exact List.mem_cons_of_mem _ tw_914, by rw [hw]; exact List.mem_cons_of_mem _ tw_915, by rw [hw]; exact List.mem_cons_of_mem _ tw_13, cP_Model, by decide +kernel⟩
theorem ca_Model_colonOf_109 : ca_S m_Model_colonOf m_Model_isBlank 109 1 := ⟨gi_S tw_1081 tw_1082 tw_13 tw_1083, ⟨⟨_, rfl⟩, by decide +kernel, by decide⟩⟩
theorem ca_Model_addField_119 : ca_V m_Model_addField m_Model_keep 119 2 := ⟨gi_V tw_1084 tw_1086 ts_46 tw_13 tw_1087, ⟨⟨_, rfl⟩, by decide +kernel, by decide⟩⟩
theorem ca_Model_read_125 : ca_V m_Model_read m_Model_colonOf 125 2 := ⟨gi_V tw_1077 tw_1079 ts_45 tw_13 tw_1080, ⟨⟨_, rfl⟩, by decide +kernel, by decide⟩⟩
theorem ca_Model_read_109 : ca_S m_Model_read m_Model_isBlank 109 1 := ⟨gi_S tw_1081 tw_1082 tw_13 tw_1083, ⟨⟨_, rfl⟩, by decide +kernel, by decide⟩⟩
theorem ca_Model_read_119 : ca_V m_Model_read m_Model_keep 119 2 := ⟨gi_V tw_1084 tw_1086 ts_46 tw_13 tw_1087, ⟨⟨_, rfl⟩, by decide +kernel, by decide⟩⟩
theorem ca_Model_read_129 : ca_V m_Model_read m_Model_addField 129 3 := ⟨gi_V tw_1088 tw_1090 ts_47 tw_13 tw_1091, ⟨⟨_, rfl⟩, by decide +kernel, by decide⟩⟩
theorem ca_Addresses_groupOf_49 : ca_V m_Addresses_groupOf m_Row_get 49 1 := ⟨gi_V tw_394 tw_280 tw_281 tw_2 tw_282, ⟨⟨_, rfl⟩, by decide +kernel, by decide⟩⟩
theorem ca_Texts_count_25 : ca_V m_Texts_count m_Row_size 25 0 := ⟨gi_V tw_316 tw_255 tw_256 tw_2 tw_257, ⟨⟨_, rfl⟩, by decide +kernel, by decide⟩⟩
theorem ca_Mail_group_145 : ca_V m_Mail_group m_Addresses_groupNames 145 0 := ⟨gi_V tw_381 tw_382 tw_383 tw_9 tw_384, ⟨⟨_, rfl⟩, by decide +kernel, by decide⟩⟩
theorem ca_Mail_group_135 : ca_V m_Mail_group m_Texts_count 135 0 := ⟨gi_V tw_385 tw_322 tw_323 tw_4 tw_324, ⟨⟨_, rfl⟩, by decide +kernel, by decide⟩⟩
theorem ca_Mail_group_148 : ca_V m_Mail_group m_Addresses_badOnes 148 0 := ⟨gi_V tw_386 tw_387 tw_388 tw_9 tw_389, ⟨⟨_, rfl⟩, by decide +kernel, by decide⟩⟩
theorem ca_Mail_group_151 : ca_V m_Mail_group m_Addresses_groupOf 151 1 := ⟨gi_V tw_390 tw_391 tw_392 tw_9 tw_393, ⟨⟨_, rfl⟩, by decide +kernel, by decide⟩⟩
theorem ca_Head_count_26 : ca_V m_Head_count m_Texts_count 26 0 := ⟨gi_V tw_321 tw_322 tw_323 tw_4 tw_324, ⟨⟨_, rfl⟩, by decide +kernel, by decide⟩⟩
theorem ca_Head_textOf_30 : ca_V m_Head_textOf m_Head_count 30 0 := ⟨gi_V tw_317 tw_318 tw_319 tw_3 tw_320, ⟨⟨_, rfl⟩, by decide +kernel, by decide⟩⟩
theorem ca_Texts_sizeOf_25 : ca_V m_Texts_sizeOf m_Row_size 25 0 := ⟨gi_V tw_316 tw_255 tw_256 tw_2 tw_257, ⟨⟨_, rfl⟩, by decide +kernel, by decide⟩⟩
theorem ca_Texts_sizeOf_29 : ca_V m_Texts_sizeOf m_Row_get 29 1 := ⟨gi_V tw_351 tw_280 tw_281 tw_2 tw_282, ⟨⟨_, rfl⟩, by decide +kernel, by decide⟩⟩
theorem ca_Mail_field_102 : ca_V m_Mail_field m_Head_texts 102 0 := ⟨gi_V tw_363 tw_364 tw_365 tw_3 tw_366, ⟨⟨_, rfl⟩, by decide +kernel, by decide⟩⟩
theorem ca_Mail_field_106 : ca_V m_Mail_field m_Head_textOf 106 2 := ⟨gi_V tw_367 tw_368 tw_369 tw_3 tw_370, ⟨⟨_, rfl⟩, by decide +kernel, by decide⟩⟩
theorem ca_Mail_field_110 : ca_V m_Mail_field m_Texts_sizeOf 110 1 := ⟨gi_V tw_371 tw_348 tw_349 tw_4 tw_350, ⟨⟨_, rfl⟩, by decide +kernel, by decide⟩⟩
theorem ca_Arrays_copyOf_304 : ca_S m_Arrays_copyOf m_Math_min 304 2 := ⟨gi_S tw_73 tw_74 tw_6 tw_75, ⟨⟨_, rfl⟩, by decide +kernel, by decide⟩⟩
theorem ca_Row_add_19 : ca_S m_Row_add m_Arrays_copyOf 19 2 := ⟨gi_S tw_63 tw_64 tw_5 tw_65, ⟨⟨_, rfl⟩, by decide +kernel, by decide⟩⟩
theorem ca_Texts_close_25 : ca_V m_Texts_close m_Row_size 25 0 := ⟨gi_V tw_316 tw_255 tw_256 tw_2 tw_257, ⟨⟨_, rfl⟩, by decide +kernel, by decide⟩⟩
theorem ca_Texts_close_21 : ca_V m_Texts_close m_Row_add 21 1 := ⟨gi_V tw_59 tw_60 tw_61 tw_2 tw_62, ⟨⟨_, rfl⟩, by decide +kernel, by decide⟩⟩
theorem ca_Head_closeValue_72 : ca_V m_Head_closeValue m_Texts_close 72 0 := ⟨gi_V tw_312 tw_313 tw_314 tw_4 tw_315, ⟨⟨_, rfl⟩, by decide +kernel, by decide⟩⟩
theorem ca_Texts_clear_43 : ca_V m_Texts_clear m_Row_cutTo 43 1 := ⟨gi_V tw_274 tw_275 tw_276 tw_2 tw_277, ⟨⟨_, rfl⟩, by decide +kernel, by decide⟩⟩
theorem ca_Head_behindBlanks_43 : ca_V m_Head_behindBlanks m_Row_get 43 1 := ⟨gi_V tw_279 tw_280 tw_281 tw_2 tw_282, ⟨⟨_, rfl⟩, by decide +kernel, by decide⟩⟩
theorem ca_Head_nameEnd_43 : ca_V m_Head_nameEnd m_Row_get 43 1 := ⟨gi_V tw_279 tw_280 tw_281 tw_2 tw_282, ⟨⟨_, rfl⟩, by decide +kernel, by decide⟩⟩
theorem ca_Texts_put_21 : ca_V m_Texts_put m_Row_add 21 1 := ⟨gi_V tw_59 tw_60 tw_61 tw_2 tw_62, ⟨⟨_, rfl⟩, by decide +kernel, by decide⟩⟩
theorem ca_Head_putBytes_43 : ca_V m_Head_putBytes m_Row_get 43 1 := ⟨gi_V tw_279 tw_280 tw_281 tw_2 tw_282, ⟨⟨_, rfl⟩, by decide +kernel, by decide⟩⟩
theorem ca_Head_putBytes_75 : ca_V m_Head_putBytes m_Texts_put 75 1 := ⟨gi_V tw_298 tw_299 tw_300 tw_4 tw_301, ⟨⟨_, rfl⟩, by decide +kernel, by decide⟩⟩
theorem ca_Head_takeFolded_69 : ca_V m_Head_takeFolded m_Head_putBytes 69 3 := ⟨gi_V tw_294 tw_296 ts_2 tw_3 tw_297, ⟨⟨_, rfl⟩, by decide +kernel, by decide⟩⟩
theorem ca_Head_takeLine_43 : ca_V m_Head_takeLine m_Row_get 43 1 := ⟨gi_V tw_279 tw_280 tw_281 tw_2 tw_282, ⟨⟨_, rfl⟩, by decide +kernel, by decide⟩⟩
theorem ca_Head_takeLine_58 : ca_V m_Head_takeLine m_Head_takeFolded 58 3 := ⟨gi_V tw_290 tw_292 ts_1 tw_3 tw_293, ⟨⟨_, rfl⟩, by decide +kernel, by decide⟩⟩
theorem ca_Head_takeLine_62 : ca_S m_Head_takeLine m_Head_nameEnd 62 3 := ⟨gi_S tw_302 tw_303 tw_3 tw_304, ⟨⟨_, rfl⟩, by decide +kernel, by decide⟩⟩
theorem ca_Head_takeLine_66 : ca_S m_Head_takeLine m_Head_behindBlanks 66 3 := ⟨gi_S tw_305 tw_306 tw_3 tw_307, ⟨⟨_, rfl⟩, by decide +kernel, by decide⟩⟩
theorem ca_Head_takeLine_51 : ca_V m_Head_takeLine m_Head_closeValue 51 0 := ⟨gi_V tw_308 tw_310 ts_3 tw_3 tw_311, ⟨⟨_, rfl⟩, by decide +kernel, by decide⟩⟩
theorem ca_Head_takeLine_30 : ca_V m_Head_takeLine m_Head_count 30 0 := ⟨gi_V tw_317 tw_318 tw_319 tw_3 tw_320, ⟨⟨_, rfl⟩, by decide +kernel, by decide⟩⟩
theorem ca_Head_takeLine_69 : ca_V m_Head_takeLine m_Head_putBytes 69 3 := ⟨gi_V tw_294 tw_296 ts_2 tw_3 tw_297, ⟨⟨_, rfl⟩, by decide +kernel, by decide⟩⟩
theorem ca_Head_takeLine_72 : ca_V m_Head_takeLine m_Texts_close 72 0 := ⟨gi_V tw_312 tw_313 tw_314 tw_4 tw_315, ⟨⟨_, rfl⟩, by decide +kernel, by decide⟩⟩
theorem ca_Head_readLines_35 : ca_V m_Head_readLines m_Texts_clear 35 0 := ⟨gi_V tw_270 tw_271 tw_272 tw_4 tw_273, ⟨⟨_, rfl⟩, by decide +kernel, by decide⟩⟩
theorem ca_Head_readLines_38 : ca_V m_Head_readLines m_Row_size 38 0 := ⟨gi_V tw_278 tw_255 tw_256 tw_2 tw_257, ⟨⟨_, rfl⟩, by decide +kernel, by decide⟩⟩
theorem ca_Head_readLines_43 : ca_V m_Head_readLines m_Row_get 43 1 := ⟨gi_V tw_279 tw_280 tw_281 tw_2 tw_282, ⟨⟨_, rfl⟩, by decide +kernel, by decide⟩⟩
theorem ca_Head_readLines_47 : ca_V m_Head_readLines m_Head_takeLine 47 3 := ⟨gi_V tw_283 tw_285 ts_0 tw_3 tw_286, ⟨⟨_, rfl⟩, by decide +kernel, by decide⟩⟩
theorem ca_Head_readLines_51 : ca_V m_Head_readLines m_Head_closeValue 51 0 := ⟨gi_V tw_308 tw_310 ts_3 tw_3 tw_311, ⟨⟨_, rfl⟩, by decide +kernel, by decide⟩⟩
theorem ca_Mail_read_85 : ca_V m_Mail_read m_Head_readLines 85 1 := ⟨gi_V tw_266 tw_267 tw_268 tw_3 tw_269, ⟨⟨_, rfl⟩, by decide +kernel, by decide⟩⟩
theorem ca_Mail_read_89 : ca_V m_Mail_read m_Row_cutTo 89 1 := ⟨gi_V tw_325 tw_275 tw_276 tw_2 tw_277, ⟨⟨_, rfl⟩, by decide +kernel, by decide⟩⟩
theorem ca_Mail_read_92 : ca_V m_Mail_read m_Head_count 92 0 := ⟨gi_V tw_326 tw_318 tw_319 tw_3 tw_320, ⟨⟨_, rfl⟩, by decide +kernel, by decide⟩⟩
theorem ca_Model_roomAt_185 : ca_S m_Model_roomAt m_Model_areaOf 185 1 := ⟨gi_S tw_1196 tw_1197 tw_13 tw_1198, ⟨⟨_, rfl⟩, by decide +kernel, by decide⟩⟩
theorem ca_Model_add_188 : ca_V m_Model_add m_Model_roomAt 188 1 := ⟨gi_V tw_1192 tw_1194 ts_64 tw_13 tw_1195, ⟨⟨_, rfl⟩, by decide +kernel, by decide⟩⟩
theorem ca_Model_add_185 : ca_S m_Model_add m_Model_areaOf 185 1 := ⟨gi_S tw_1196 tw_1197 tw_13 tw_1198, ⟨⟨_, rfl⟩, by decide +kernel, by decide⟩⟩
theorem ca_Model_beginPart_188 : ca_V m_Model_beginPart m_Model_roomAt 188 1 := ⟨gi_V tw_1192 tw_1194 ts_64 tw_13 tw_1195, ⟨⟨_, rfl⟩, by decide +kernel, by decide⟩⟩
theorem ca_Model_identities_137 : ca_V m_Model_identities m_Model_isField 137 1 := ⟨gi_V tw_1107 tw_1109 ts_48 tw_13 tw_1110, ⟨⟨_, rfl⟩, by decide +kernel, by decide⟩⟩
theorem ca_Model_identities_255 : ca_V m_Model_identities m_Model_forget 255 3 := ⟨gi_V tw_1164 tw_1166 ts_57 tw_13 tw_1167, ⟨⟨_, rfl⟩, by decide +kernel, by decide⟩⟩
theorem ca_Model_identities_109 : ca_S m_Model_identities m_Model_isBlank 109 1 := ⟨gi_S tw_1081 tw_1082 tw_13 tw_1083, ⟨⟨_, rfl⟩, by decide +kernel, by decide⟩⟩
theorem ca_Model_identities_204 : ca_V m_Model_identities m_Model_beginPart 204 1 := ⟨gi_V tw_1188 tw_1190 ts_63 tw_13 tw_1191, ⟨⟨_, rfl⟩, by decide +kernel, by decide⟩⟩
theorem ca_Model_identities_191 : ca_V m_Model_identities m_Model_add 191 2 := ⟨gi_V tw_1199 tw_1201 ts_65 tw_13 tw_1202, ⟨⟨_, rfl⟩, by decide +kernel, by decide⟩⟩
theorem ca_Model_identities_210 : ca_V m_Model_identities m_Model_endPart 210 1 := ⟨gi_V tw_1207 tw_1209 ts_67 tw_13 tw_1210, ⟨⟨_, rfl⟩, by decide +kernel, by decide⟩⟩
theorem ca_Model_number_275 : ca_V m_Model_number m_Model_numberOf 275 2 := ⟨gi_V tw_1267 tw_1269 ts_78 tw_13 tw_1270, ⟨⟨_, rfl⟩, by decide +kernel, by decide⟩⟩
theorem ca_Model_isDigits_268 : ca_V m_Model_isDigits m_Model_longOf 268 1 := ⟨gi_V tw_1256 tw_1258 ts_76 tw_13 tw_1259, ⟨⟨_, rfl⟩, by decide +kernel, by decide⟩⟩
theorem ca_Model_isDigits_271 : ca_S m_Model_isDigits m_Model_isDigit 271 1 := ⟨gi_S tw_1260 tw_1261 tw_13 tw_1262, ⟨⟨_, rfl⟩, by decide +kernel, by decide⟩⟩
theorem ca_Model_two_294 : ca_V m_Model_two m_Model_isDigits 294 3 := ⟨gi_V tw_1252 tw_1254 ts_75 tw_13 tw_1255, ⟨⟨_, rfl⟩, by decide +kernel, by decide⟩⟩
theorem ca_Model_two_297 : ca_V m_Model_two m_Model_number 297 1 := ⟨gi_V tw_1263 tw_1265 ts_77 tw_13 tw_1266, ⟨⟨_, rfl⟩, by decide +kernel, by decide⟩⟩
theorem ca_Model_takeEnclosed_155 : ca_V m_Model_takeEnclosed m_Model_beginWord 155 2 := ⟨gi_V tw_1140 tw_1142 ts_51 tw_13 tw_1143, ⟨⟨_, rfl⟩, by decide +kernel, by decide⟩⟩
theorem ca_Model_takeEnclosed_158 : ca_V m_Model_takeEnclosed m_Model_put 158 1 := ⟨gi_V tw_1144 tw_1146 ts_52 tw_13 tw_1147, ⟨⟨_, rfl⟩, by decide +kernel, by decide⟩⟩
theorem ca_Model_takeEnclosed_162 : ca_V m_Model_takeEnclosed m_Model_endWord 162 0 := ⟨gi_V tw_1148 tw_1150 ts_53 tw_13 tw_1151, ⟨⟨_, rfl⟩, by decide +kernel, by decide⟩⟩
theorem ca_Model_takeAtom_155 : ca_V m_Model_takeAtom m_Model_beginWord 155 2 := ⟨gi_V tw_1140 tw_1142 ts_51 tw_13 tw_1143, ⟨⟨_, rfl⟩, by decide +kernel, by decide⟩⟩
theorem ca_Model_takeAtom_181 : ca_V m_Model_takeAtom m_Model_look 181 0 := ⟨gi_V tw_1160 tw_1162 ts_56 tw_13 tw_1163, ⟨⟨_, rfl⟩, by decide +kernel, by decide⟩⟩
theorem ca_Model_takeAtom_169 : ca_S m_Model_takeAtom m_Model_isNothing 169 1 := ⟨gi_S tw_1133 tw_1134 tw_13 tw_1135, ⟨⟨_, rfl⟩, by decide +kernel, by decide⟩⟩
theorem ca_Model_takeAtom_175 : ca_V m_Model_takeAtom m_Model_isSign 175 1 := ⟨gi_V tw_1152 tw_1154 ts_54 tw_13 tw_1155, ⟨⟨_, rfl⟩, by decide +kernel, by decide⟩⟩
theorem ca_Model_takeAtom_158 : ca_V m_Model_takeAtom m_Model_put 158 1 := ⟨gi_V tw_1144 tw_1146 ts_52 tw_13 tw_1147, ⟨⟨_, rfl⟩, by decide +kernel, by decide⟩⟩
theorem ca_Model_takeAtom_162 : ca_V m_Model_takeAtom m_Model_endWord 162 0 := ⟨gi_V tw_1148 tw_1150 ts_53 tw_13 tw_1151, ⟨⟨_, rfl⟩, by decide +kernel, by decide⟩⟩
theorem ca_Model_cut_169 : ca_S m_Model_cut m_Model_isNothing 169 1 := ⟨gi_S tw_1133 tw_1134 tw_13 tw_1135, ⟨⟨_, rfl⟩, by decide +kernel, by decide⟩⟩
theorem ca_Model_cut_172 : ca_V m_Model_cut m_Model_takeEnclosed 172 2 := ⟨gi_V tw_1136 tw_1138 ts_50 tw_13 tw_1139, ⟨⟨_, rfl⟩, by decide +kernel, by decide⟩⟩
theorem ca_Model_cut_175 : ca_V m_Model_cut m_Model_isSign 175 1 := ⟨gi_V tw_1152 tw_1154 ts_54 tw_13 tw_1155, ⟨⟨_, rfl⟩, by decide +kernel, by decide⟩⟩
theorem ca_Model_cut_155 : ca_V m_Model_cut m_Model_beginWord 155 2 := ⟨gi_V tw_1140 tw_1142 ts_51 tw_13 tw_1143, ⟨⟨_, rfl⟩, by decide +kernel, by decide⟩⟩
theorem ca_Model_cut_158 : ca_V m_Model_cut m_Model_put 158 1 := ⟨gi_V tw_1144 tw_1146 ts_52 tw_13 tw_1147, ⟨⟨_, rfl⟩, by decide +kernel, by decide⟩⟩
theorem ca_Model_cut_162 : ca_V m_Model_cut m_Model_endWord 162 0 := ⟨gi_V tw_1148 tw_1150 ts_53 tw_13 tw_1151, ⟨⟨_, rfl⟩, by decide +kernel, by decide⟩⟩
theorem ca_Model_cut_178 : ca_V m_Model_cut m_Model_takeAtom 178 0 := ⟨gi_V tw_1156 tw_1158 ts_55 tw_13 tw_1159, ⟨⟨_, rfl⟩, by decide +kernel, by decide⟩⟩
theorem ca_Model_step_197 : ca_V m_Model_step m_Model_next 197 2 := ⟨gi_V tw_1180 tw_1182 ts_61 tw_13 tw_1183, ⟨⟨_, rfl⟩, by decide +kernel, by decide⟩⟩
theorem ca_Model_daysOf_300 : ca_S m_Model_daysOf m_Model_isLeap 300 1 := ⟨gi_S tw_1303 tw_1304 tw_13 tw_1305, ⟨⟨_, rfl⟩, by decide +kernel, by decide⟩⟩
theorem ca_Model_dayNumber_300 : ca_S m_Model_dayNumber m_Model_isLeap 300 1 := ⟨gi_S tw_1303 tw_1304 tw_13 tw_1305, ⟨⟨_, rfl⟩, by decide +kernel, by decide⟩⟩
theorem ca_Model_dayNumber_315 : ca_S m_Model_dayNumber m_Model_daysOf 315 2 := ⟨gi_S tw_1300 tw_1301 tw_13 tw_1302, ⟨⟨_, rfl⟩, by decide +kernel, by decide⟩⟩
theorem ca_Model_isThree_133 : ca_S m_Model_isThree m_Model_small 133 1 := ⟨gi_S tw_1100 tw_1101 tw_13 tw_1102, ⟨⟨_, rfl⟩, by decide +kernel, by decide⟩⟩
theorem ca_Model_zoneOf_268 : ca_V m_Model_zoneOf m_Model_longOf 268 1 := ⟨gi_V tw_1256 tw_1258 ts_76 tw_13 tw_1259, ⟨⟨_, rfl⟩, by decide +kernel, by decide⟩⟩
theorem ca_Model_zoneOf_271 : ca_S m_Model_zoneOf m_Model_isDigit 271 1 := ⟨gi_S tw_1260 tw_1261 tw_13 tw_1262, ⟨⟨_, rfl⟩, by decide +kernel, by decide⟩⟩
theorem ca_Model_zoneOf_275 : ca_V m_Model_zoneOf m_Model_numberOf 275 2 := ⟨gi_V tw_1267 tw_1269 ts_78 tw_13 tw_1270, ⟨⟨_, rfl⟩, by decide +kernel, by decide⟩⟩
theorem ca_Model_zoneOf_279 : ca_V m_Model_zoneOf m_Model_isThree 279 3 := ⟨gi_V tw_1281 tw_1283 ts_81 tw_13 tw_1284, ⟨⟨_, rfl⟩, by decide +kernel, by decide⟩⟩
theorem ca_Model_monthOf_268 : ca_V m_Model_monthOf m_Model_longOf 268 1 := ⟨gi_V tw_1256 tw_1258 ts_76 tw_13 tw_1259, ⟨⟨_, rfl⟩, by decide +kernel, by decide⟩⟩
theorem ca_Model_monthOf_279 : ca_V m_Model_monthOf m_Model_isThree 279 3 := ⟨gi_V tw_1281 tw_1283 ts_81 tw_13 tw_1284, ⟨⟨_, rfl⟩, by decide +kernel, by decide⟩⟩
theorem ca_Model_yearOf_294 : ca_V m_Model_yearOf m_Model_isDigits 294 3 := ⟨gi_V tw_1252 tw_1254 ts_75 tw_13 tw_1255, ⟨⟨_, rfl⟩, by decide +kernel, by decide⟩⟩
theorem ca_Model_yearOf_297 : ca_V m_Model_yearOf m_Model_number 297 1 := ⟨gi_V tw_1263 tw_1265 ts_77 tw_13 tw_1266, ⟨⟨_, rfl⟩, by decide +kernel, by decide⟩⟩
theorem ca_Model_yearOf_268 : ca_V m_Model_yearOf m_Model_longOf 268 1 := ⟨gi_V tw_1256 tw_1258 ts_76 tw_13 tw_1259, ⟨⟨_, rfl⟩, by decide +kernel, by decide⟩⟩
theorem ca_Model_date_137 : ca_V m_Model_date m_Model_isField 137 1 := ⟨gi_V tw_1107 tw_1109 ts_48 tw_13 tw_1110, ⟨⟨_, rfl⟩, by decide +kernel, by decide⟩⟩
theorem ca_Model_date_251 : ca_V m_Model_date m_Model_cut 251 2 := ⟨gi_V tw_1129 tw_1131 ts_49 tw_13 tw_1132, ⟨⟨_, rfl⟩, by decide +kernel, by decide⟩⟩
theorem ca_Model_date_197 : ca_V m_Model_date m_Model_next 197 2 := ⟨gi_V tw_1180 tw_1182 ts_61 tw_13 tw_1183, ⟨⟨_, rfl⟩, by decide +kernel, by decide⟩⟩
theorem ca_Model_date_200 : ca_V m_Model_date m_Model_is 200 2 := ⟨gi_V tw_1168 tw_1170 ts_58 tw_13 tw_1171, ⟨⟨_, rfl⟩, by decide +kernel, by decide⟩⟩
theorem ca_Model_date_294 : ca_V m_Model_date m_Model_isDigits 294 3 := ⟨gi_V tw_1252 tw_1254 ts_75 tw_13 tw_1255, ⟨⟨_, rfl⟩, by decide +kernel, by decide⟩⟩
theorem ca_Model_date_297 : ca_V m_Model_date m_Model_number 297 1 := ⟨gi_V tw_1263 tw_1265 ts_77 tw_13 tw_1266, ⟨⟨_, rfl⟩, by decide +kernel, by decide⟩⟩
theorem ca_Model_date_322 : ca_V m_Model_date m_Model_step 322 0 := ⟨gi_V tw_1272 tw_1274 ts_79 tw_13 tw_1275, ⟨⟨_, rfl⟩, by decide +kernel, by decide⟩⟩
theorem ca_Model_date_325 : ca_V m_Model_date m_Model_monthOf 325 1 := ⟨gi_V tw_1276 tw_1278 ts_80 tw_13 tw_1279, ⟨⟨_, rfl⟩, by decide +kernel, by decide⟩⟩
theorem ca_Model_date_328 : ca_V m_Model_date m_Model_yearOf 328 1 := ⟨gi_V tw_1296 tw_1298 ts_82 tw_13 tw_1299, ⟨⟨_, rfl⟩, by decide +kernel, by decide⟩⟩
theorem ca_Model_date_315 : ca_S m_Model_date m_Model_daysOf 315 2 := ⟨gi_S tw_1300 tw_1301 tw_13 tw_1302, ⟨⟨_, rfl⟩, by decide +kernel, by decide⟩⟩
theorem ca_Model_date_331 : ca_V m_Model_date m_Model_two 331 1 := ⟨gi_V tw_1306 tw_1308 ts_83 tw_13 tw_1309, ⟨⟨_, rfl⟩, by decide +kernel, by decide⟩⟩
theorem ca_Model_date_334 : ca_V m_Model_date m_Model_dayNumber 334 3 := ⟨gi_V tw_1310 tw_1312 ts_84 tw_13 tw_1313, ⟨⟨_, rfl⟩, by decide +kernel, by decide⟩⟩
theorem ca_Model_date_344 : ca_V m_Model_date m_Model_zoneOf 344 1 := ⟨gi_V tw_1320 tw_1322 ts_85 tw_13 tw_1323, ⟨⟨_, rfl⟩, by decide +kernel, by decide⟩⟩
theorem ca_Exception_init_7 : ca_I m_Exception_init m_Throwable_init2 7 1 := ⟨gi_W tw_550, ⟨⟨_, rfl⟩, by decide +kernel, by decide⟩, rfl, rfl, List.mem_cons_of_mem _ tw_14, List.mem_cons_of_mem _ tw_548, List.mem_cons_of_mem _ tw_549⟩
theorem ca_RuntimeException_init_7 : ca_I m_RuntimeException_init m_Exception_init 7 1 := ⟨gi_W tw_547, ⟨⟨_, rfl⟩, by decide +kernel, by decide⟩, rfl, rfl, List.mem_cons_of_mem _ tw_15, List.mem_cons_of_mem _ tw_545, List.mem_cons_of_mem _ tw_546⟩
theorem ca_IndexOutOfBoundsException_init_7 : ca_I m_IndexOutOfBoundsException_init m_RuntimeException_init 7 1 := ⟨gi_W tw_544, ⟨⟨_, rfl⟩, by decide +kernel, by decide⟩, rfl, rfl, List.mem_cons_of_mem _ tw_16, List.mem_cons_of_mem _ tw_542, List.mem_cons_of_mem _ tw_543⟩
theorem ca_Mail_valueOf_106 : ca_V m_Mail_valueOf m_Head_textOf 106 2 := ⟨gi_V tw_367 tw_368 tw_369 tw_3 tw_370, ⟨⟨_, rfl⟩, by decide +kernel, by decide⟩⟩
theorem ca_Mail_valueOf_172 : ca_I m_Mail_valueOf m_IndexOutOfBoundsException_init 172 1 := ⟨gi_W tw_541, ⟨⟨_, rfl⟩, by decide +kernel, by decide⟩, rfl, rfl, List.mem_cons_of_mem _ tw_17, List.mem_cons_of_mem _ tw_539, List.mem_cons_of_mem _ tw_540⟩
theorem ca_Texts_byteOf_33 : ca_V m_Texts_byteOf m_Texts_sizeOf 33 1 := ⟨gi_V tw_347 tw_348 tw_349 tw_4 tw_350, ⟨⟨_, rfl⟩, by decide +kernel, by decide⟩⟩
theorem ca_Texts_byteOf_29 : ca_V m_Texts_byteOf m_Row_get 29 1 := ⟨gi_V tw_351 tw_280 tw_281 tw_2 tw_282, ⟨⟨_, rfl⟩, by decide +kernel, by decide⟩⟩
theorem ca_Texts_putSmall_36 : ca_V m_Texts_putSmall m_Texts_byteOf 36 2 := ⟨gi_V tw_352 tw_353 tw_354 tw_4 tw_355, ⟨⟨_, rfl⟩, by decide +kernel, by decide⟩⟩
theorem ca_Texts_putSmall_21 : ca_V m_Texts_putSmall m_Row_add 21 1 := ⟨gi_V tw_59 tw_60 tw_61 tw_2 tw_62, ⟨⟨_, rfl⟩, by decide +kernel, by decide⟩⟩
theorem ca_Texts_putText_29 : ca_V m_Texts_putText m_Row_get 29 1 := ⟨gi_V tw_351 tw_280 tw_281 tw_2 tw_282, ⟨⟨_, rfl⟩, by decide +kernel, by decide⟩⟩
theorem ca_Texts_putText_33 : ca_V m_Texts_putText m_Texts_sizeOf 33 1 := ⟨gi_V tw_347 tw_348 tw_349 tw_4 tw_350, ⟨⟨_, rfl⟩, by decide +kernel, by decide⟩⟩
theorem ca_Texts_putText_21 : ca_V m_Texts_putText m_Row_add 21 1 := ⟨gi_V tw_59 tw_60 tw_61 tw_2 tw_62, ⟨⟨_, rfl⟩, by decide +kernel, by decide⟩⟩
theorem ca_ContentType_takeParameter_48 : ca_V m_ContentType_takeParameter m_Words_kinds 48 0 := ⟨gi_V tw_901 tw_707 tw_708 tw_8 tw_709, ⟨⟨_, rfl⟩, by decide +kernel, by decide⟩⟩
theorem ca_ContentType_takeParameter_54 : ca_V m_ContentType_takeParameter m_Row_get 54 1 := ⟨gi_V tw_446 tw_280 tw_281 tw_2 tw_282, ⟨⟨_, rfl⟩, by decide +kernel, by decide⟩⟩
theorem ca_ContentType_takeParameter_68 : ca_V m_ContentType_takeParameter m_Words_texts 68 0 := ⟨gi_V tw_906 tw_733 tw_734 tw_8 tw_735, ⟨⟨_, rfl⟩, by decide +kernel, by decide⟩⟩
theorem ca_ContentType_takeParameter_72 : ca_V m_ContentType_takeParameter m_Texts_sizeOf 72 1 := ⟨gi_V tw_456 tw_348 tw_349 tw_4 tw_350, ⟨⟨_, rfl⟩, by decide +kernel, by decide⟩⟩
theorem ca_ContentType_takeParameter_82 : ca_V m_ContentType_takeParameter m_Texts_byteOf 82 2 := ⟨gi_V tw_457 tw_353 tw_354 tw_4 tw_355, ⟨⟨_, rfl⟩, by decide +kernel, by decide⟩⟩
theorem ca_ContentType_takeParameter_75 : ca_V m_ContentType_takeParameter m_Texts_putSmall 75 3 := ⟨gi_V tw_458 tw_459 tw_460 tw_4 tw_461, ⟨⟨_, rfl⟩, by decide +kernel, by decide⟩⟩
theorem ca_ContentType_takeParameter_79 : ca_V m_ContentType_takeParameter m_Texts_close 79 0 := ⟨gi_V tw_462 tw_313 tw_314 tw_4 tw_315, ⟨⟨_, rfl⟩, by decide +kernel, by decide⟩⟩
theorem ca_ContentType_takeParameter_89 : ca_V m_ContentType_takeParameter m_Texts_putText 89 2 := ⟨gi_V tw_912 tw_737 tw_738 tw_4 tw_739, ⟨⟨_, rfl⟩, by decide +kernel, by decide⟩⟩
theorem ca_ContentType_takeParameter_93 : ca_V m_ContentType_takeParameter m_Row_add 93 1 := ⟨gi_V tw_913 tw_60 tw_61 tw_2 tw_62, ⟨⟨_, rfl⟩, by decide +kernel, by decide⟩⟩
theorem ca_ContentType_takePart_68 : ca_V m_ContentType_takePart m_Words_texts 68 0 := ⟨gi_V tw_906 tw_733 tw_734 tw_8 tw_735, ⟨⟨_, rfl⟩, by decide +kernel, by decide⟩⟩
theorem ca_ContentType_takePart_72 : ca_V m_ContentType_takePart m_Texts_sizeOf 72 1 := ⟨gi_V tw_456 tw_348 tw_349 tw_4 tw_350, ⟨⟨_, rfl⟩, by decide +kernel, by decide⟩⟩
theorem ca_ContentType_takePart_75 : ca_V m_ContentType_takePart m_Texts_putSmall 75 3 := ⟨gi_V tw_458 tw_459 tw_460 tw_4 tw_461, ⟨⟨_, rfl⟩, by decide +kernel, by decide⟩⟩
theorem ca_ContentType_takePart_79 : ca_V m_ContentType_takePart m_Texts_close 79 0 := ⟨gi_V tw_462 tw_313 tw_314 tw_4 tw_315, ⟨⟨_, rfl⟩, by decide +kernel, by decide⟩⟩
theorem ca_ContentType_readWords_41 : ca_V m_ContentType_readWords m_Texts_clear 41 0 := ⟨gi_V tw_440 tw_271 tw_272 tw_4 tw_273, ⟨⟨_, rfl⟩, by decide +kernel, by decide⟩⟩
theorem ca_ContentType_readWords_44 : ca_V m_ContentType_readWords m_Row_cutTo 44 1 := ⟨gi_V tw_900 tw_275 tw_276 tw_2 tw_277, ⟨⟨_, rfl⟩, by decide +kernel, by decide⟩⟩
theorem ca_ContentType_readWords_48 : ca_V m_ContentType_readWords m_Words_kinds 48 0 := ⟨gi_V tw_901 tw_707 tw_708 tw_8 tw_709, ⟨⟨_, rfl⟩, by decide +kernel, by decide⟩⟩
theorem ca_ContentType_readWords_54 : ca_V m_ContentType_readWords m_Row_get 54 1 := ⟨gi_V tw_446 tw_280 tw_281 tw_2 tw_282, ⟨⟨_, rfl⟩, by decide +kernel, by decide⟩⟩
theorem ca_ContentType_readWords_58 : ca_V m_ContentType_readWords m_ContentType_takePart 58 1 := ⟨gi_V tw_902 tw_904 ts_42 tw_12 tw_905, ⟨⟨_, rfl⟩, by decide +kernel, by decide⟩⟩
theorem ca_ContentType_readWords_61 : ca_V m_ContentType_readWords m_Row_size 61 0 := ⟨gi_V tw_907 tw_255 tw_256 tw_2 tw_257, ⟨⟨_, rfl⟩, by decide +kernel, by decide⟩⟩
theorem ca_ContentType_readWords_65 : ca_V m_ContentType_readWords m_ContentType_takeParameter 65 1 := ⟨gi_V tw_908 tw_910 ts_43 tw_12 tw_911, ⟨⟨_, rfl⟩, by decide +kernel, by decide⟩⟩
theorem ca_Texts_dropOpen_25 : ca_V m_Texts_dropOpen m_Row_size 25 0 := ⟨gi_V tw_316 tw_255 tw_256 tw_2 tw_257, ⟨⟨_, rfl⟩, by decide +kernel, by decide⟩⟩
theorem ca_Texts_dropOpen_29 : ca_V m_Texts_dropOpen m_Row_get 29 1 := ⟨gi_V tw_351 tw_280 tw_281 tw_2 tw_282, ⟨⟨_, rfl⟩, by decide +kernel, by decide⟩⟩
theorem ca_Texts_dropOpen_43 : ca_V m_Texts_dropOpen m_Row_cutTo 43 1 := ⟨gi_V tw_274 tw_275 tw_276 tw_2 tw_277, ⟨⟨_, rfl⟩, by decide +kernel, by decide⟩⟩
theorem ca_Words_putWithin_59 : ca_V m_Words_putWithin m_Texts_byteOf 59 2 := ⟨gi_V tw_576 tw_353 tw_354 tw_4 tw_355, ⟨⟨_, rfl⟩, by decide +kernel, by decide⟩⟩
theorem ca_Words_putWithin_76 : ca_V m_Words_putWithin m_Texts_put 76 1 := ⟨gi_V tw_588 tw_299 tw_300 tw_4 tw_301, ⟨⟨_, rfl⟩, by decide +kernel, by decide⟩⟩
theorem ca_Words_close_92 : ca_V m_Words_close m_Texts_close 92 0 := ⟨gi_V tw_593 tw_313 tw_314 tw_4 tw_315, ⟨⟨_, rfl⟩, by decide +kernel, by decide⟩⟩
theorem ca_Words_close_94 : ca_V m_Words_close m_Row_add 94 1 := ⟨gi_V tw_594 tw_60 tw_61 tw_2 tw_62, ⟨⟨_, rfl⟩, by decide +kernel, by decide⟩⟩
theorem ca_Words_cutComment_59 : ca_V m_Words_cutComment m_Texts_byteOf 59 2 := ⟨gi_V tw_576 tw_353 tw_354 tw_4 tw_355, ⟨⟨_, rfl⟩, by decide +kernel, by decide⟩⟩
theorem ca_Words_cutComment_85 : ca_V m_Words_cutComment m_Words_putWithin 85 2 := ⟨gi_V tw_584 tw_586 ts_15 tw_8 tw_587, ⟨⟨_, rfl⟩, by decide +kernel, by decide⟩⟩
theorem ca_Words_cutComment_79 : ca_V m_Words_cutComment m_Words_close 79 1 := ⟨gi_V tw_589 tw_591 ts_16 tw_8 tw_592, ⟨⟨_, rfl⟩, by decide +kernel, by decide⟩⟩
theorem ca_Words_cutComment_89 : ca_V m_Words_cutComment m_Texts_dropOpen 89 0 := ⟨gi_V tw_595 tw_596 tw_597 tw_4 tw_598, ⟨⟨_, rfl⟩, by decide +kernel, by decide⟩⟩
theorem ca_Words_cutEnclosed_59 : ca_V m_Words_cutEnclosed m_Texts_byteOf 59 2 := ⟨gi_V tw_576 tw_353 tw_354 tw_4 tw_355, ⟨⟨_, rfl⟩, by decide +kernel, by decide⟩⟩
theorem ca_Words_cutEnclosed_85 : ca_V m_Words_cutEnclosed m_Words_putWithin 85 2 := ⟨gi_V tw_584 tw_586 ts_15 tw_8 tw_587, ⟨⟨_, rfl⟩, by decide +kernel, by decide⟩⟩
theorem ca_Words_cutEnclosed_79 : ca_V m_Words_cutEnclosed m_Words_close 79 1 := ⟨gi_V tw_589 tw_591 ts_16 tw_8 tw_592, ⟨⟨_, rfl⟩, by decide +kernel, by decide⟩⟩
theorem ca_StringUTF16_getChar_48 : ca_S m_StringUTF16_getChar m_StringUTF16_length 48 1 := ⟨gi_S tw_654 tw_655 tw_20 tw_656, ⟨⟨_, rfl⟩, by decide +kernel, by decide⟩⟩
theorem ca_StringUTF16_indexOfCharUnsafe_71 : ca_S m_StringUTF16_indexOfCharUnsafe m_StringUTF16_getChar 71 2 := ⟨gi_S tw_668 tw_669 tw_20 tw_670, ⟨⟨_, rfl⟩, by decide +kernel, by decide⟩⟩
theorem ca_String_checkBoundsBeginEnd_1062 : ca_S m_String_checkBoundsBeginEnd m_Preconditions_checkFromToIndex 1062 4 := ⟨gi_S tw_662 tw_663 tw_21 tw_664, ⟨⟨_, rfl⟩, by decide +kernel, by decide⟩⟩
theorem ca_StringUTF16_checkBoundsBeginEnd_48 : ca_S m_StringUTF16_checkBoundsBeginEnd m_StringUTF16_length 48 1 := ⟨gi_S tw_654 tw_655 tw_20 tw_656, ⟨⟨_, rfl⟩, by decide +kernel, by decide⟩⟩
theorem ca_StringUTF16_checkBoundsBeginEnd_241 : ca_S m_StringUTF16_checkBoundsBeginEnd m_String_checkBoundsBeginEnd 241 3 := ⟨gi_S tw_657 tw_658 tw_18 tw_659, ⟨⟨_, rfl⟩, by decide +kernel, by decide⟩⟩
theorem ca_StringUTF16_indexOfChar_96 : ca_S m_StringUTF16_indexOfChar m_StringUTF16_checkBoundsBeginEnd 96 3 := ⟨gi_S tw_651 tw_652 tw_20 tw_653, ⟨⟨_, rfl⟩, by decide +kernel, by decide⟩⟩
theorem ca_StringUTF16_indexOfChar_244 : ca_S m_StringUTF16_indexOfChar m_StringUTF16_indexOfCharUnsafe 244 4 := ⟨gi_S tw_665 tw_666 tw_20 tw_667, ⟨⟨_, rfl⟩, by decide +kernel, by decide⟩⟩
theorem ca_StringUTF16_indexOfSupplementary_164 : ca_S m_StringUTF16_indexOfSupplementary m_Character_isValidCodePoint 164 1 := ⟨gi_S tw_680 tw_681 tw_22 tw_682, ⟨⟨_, rfl⟩, by decide +kernel, by decide⟩⟩
theorem ca_StringUTF16_indexOfSupplementary_157 : ca_S m_StringUTF16_indexOfSupplementary m_Character_highSurrogate 157 1 := ⟨gi_S tw_683 tw_684 tw_22 tw_685, ⟨⟨_, rfl⟩, by decide +kernel, by decide⟩⟩
theorem ca_StringUTF16_indexOfSupplementary_161 : ca_S m_StringUTF16_indexOfSupplementary m_Character_lowSurrogate 161 1 := ⟨gi_S tw_687 tw_688 tw_22 tw_689, ⟨⟨_, rfl⟩, by decide +kernel, by decide⟩⟩
theorem ca_StringUTF16_indexOfSupplementary_96 : ca_S m_StringUTF16_indexOfSupplementary m_StringUTF16_checkBoundsBeginEnd 96 3 := ⟨gi_S tw_651 tw_652 tw_20 tw_653, ⟨⟨_, rfl⟩, by decide +kernel, by decide⟩⟩
theorem ca_StringUTF16_indexOfSupplementary_71 : ca_S m_StringUTF16_indexOfSupplementary m_StringUTF16_getChar 71 2 := ⟨gi_S tw_668 tw_669 tw_20 tw_670, ⟨⟨_, rfl⟩, by decide +kernel, by decide⟩⟩
theorem ca_StringUTF16_indexOf_224 : ca_S m_StringUTF16_indexOf m_Math_max 224 2 := ⟨gi_S tw_645 tw_636 tw_6 tw_637, ⟨⟨_, rfl⟩, by decide +kernel, by decide⟩⟩
theorem ca_StringUTF16_indexOf_183 : ca_S m_StringUTF16_indexOf m_Math_min 183 2 := ⟨gi_S tw_646 tw_74 tw_6 tw_75, ⟨⟨_, rfl⟩, by decide +kernel, by decide⟩⟩
theorem ca_StringUTF16_indexOf_228 : ca_S m_StringUTF16_indexOf m_StringUTF16_indexOfChar 228 4 := ⟨gi_S tw_648 tw_649 tw_20 tw_650, ⟨⟨_, rfl⟩, by decide +kernel, by decide⟩⟩
theorem ca_StringUTF16_indexOf_232 : ca_S m_StringUTF16_indexOf m_StringUTF16_indexOfSupplementary 232 4 := ⟨gi_S tw_677 tw_678 tw_20 tw_679, ⟨⟨_, rfl⟩, by decide +kernel, by decide⟩⟩
theorem ca_String_length_335 : ca_V m_String_length m_String_coder 335 0 := ⟨gi_V tw_625 tw_626 tw_627 tw_18 tw_628, ⟨⟨_, rfl⟩, by decide +kernel, by decide⟩⟩
theorem ca_StringLatin1_indexOf_88 : ca_S m_StringLatin1_indexOf m_StringLatin1_canEncode 88 1 := ⟨gi_S tw_632 tw_633 tw_19 tw_634, ⟨⟨_, rfl⟩, by decide +kernel, by decide⟩⟩
theorem ca_StringLatin1_indexOf_92 : ca_S m_StringLatin1_indexOf m_Math_max 92 2 := ⟨gi_S tw_635 tw_636 tw_6 tw_637, ⟨⟨_, rfl⟩, by decide +kernel, by decide⟩⟩
theorem ca_StringLatin1_indexOf_38 : ca_S m_StringLatin1_indexOf m_Math_min 38 2 := ⟨gi_S tw_638 tw_74 tw_6 tw_75, ⟨⟨_, rfl⟩, by decide +kernel, by decide⟩⟩
theorem ca_StringLatin1_indexOf_95 : ca_S m_StringLatin1_indexOf m_StringLatin1_indexOfChar 95 4 := ⟨gi_S tw_639 tw_640 tw_19 tw_641, ⟨⟨_, rfl⟩, by decide +kernel, by decide⟩⟩
theorem ca_String_indexOf2_492 : ca_V m_String_indexOf2 m_String_isLatin1 492 0 := ⟨gi_V tw_615 tw_616 tw_617 tw_18 tw_618, ⟨⟨_, rfl⟩, by decide +kernel, by decide⟩⟩
theorem ca_String_indexOf2_505 : ca_V m_String_indexOf2 m_String_length 505 0 := ⟨gi_V tw_621 tw_622 tw_623 tw_18 tw_624, ⟨⟨_, rfl⟩, by decide +kernel, by decide⟩⟩
theorem ca_String_indexOf2_637 : ca_S m_String_indexOf2 m_StringLatin1_indexOf 637 4 := ⟨gi_S tw_629 tw_630 tw_19 tw_631, ⟨⟨_, rfl⟩, by decide +kernel, by decide⟩⟩
theorem ca_String_indexOf2_640 : ca_S m_String_indexOf2 m_StringUTF16_indexOf 640 4 := ⟨gi_S tw_642 tw_643 tw_20 tw_644, ⟨⟨_, rfl⟩, by decide +kernel, by decide⟩⟩
theorem ca_String_indexOf_633 : ca_V m_String_indexOf m_String_indexOf2 633 2 := ⟨gi_V tw_611 tw_612 tw_613 tw_18 tw_614, ⟨⟨_, rfl⟩, by decide +kernel, by decide⟩⟩
theorem ca_Words_isSign_97 : ca_V m_Words_isSign m_String_indexOf 97 1 := ⟨gi_V tw_607 tw_608 tw_609 tw_18 tw_610, ⟨⟨_, rfl⟩, by decide +kernel, by decide⟩⟩
theorem ca_Words_cutAtom_59 : ca_V m_Words_cutAtom m_Texts_byteOf 59 2 := ⟨gi_V tw_576 tw_353 tw_354 tw_4 tw_355, ⟨⟨_, rfl⟩, by decide +kernel, by decide⟩⟩
theorem ca_Words_cutAtom_62 : ca_S m_Words_cutAtom m_Words_isNothing 62 1 := ⟨gi_S tw_577 tw_578 tw_8 tw_579, ⟨⟨_, rfl⟩, by decide +kernel, by decide⟩⟩
theorem ca_Words_cutAtom_73 : ca_V m_Words_cutAtom m_Words_isSign 73 1 := ⟨gi_V tw_603 tw_605 ts_18 tw_8 tw_606, ⟨⟨_, rfl⟩, by decide +kernel, by decide⟩⟩
theorem ca_Words_cutAtom_76 : ca_V m_Words_cutAtom m_Texts_put 76 1 := ⟨gi_V tw_588 tw_299 tw_300 tw_4 tw_301, ⟨⟨_, rfl⟩, by decide +kernel, by decide⟩⟩
theorem ca_Words_cutAtom_79 : ca_V m_Words_cutAtom m_Words_close 79 1 := ⟨gi_V tw_589 tw_591 ts_16 tw_8 tw_592, ⟨⟨_, rfl⟩, by decide +kernel, by decide⟩⟩
theorem ca_Words_cutWord_59 : ca_V m_Words_cutWord m_Texts_byteOf 59 2 := ⟨gi_V tw_576 tw_353 tw_354 tw_4 tw_355, ⟨⟨_, rfl⟩, by decide +kernel, by decide⟩⟩
theorem ca_Words_cutWord_62 : ca_S m_Words_cutWord m_Words_isNothing 62 1 := ⟨gi_S tw_577 tw_578 tw_8 tw_579, ⟨⟨_, rfl⟩, by decide +kernel, by decide⟩⟩
theorem ca_Words_cutWord_66 : ca_V m_Words_cutWord m_Words_cutComment 66 3 := ⟨gi_V tw_580 tw_582 ts_14 tw_8 tw_583, ⟨⟨_, rfl⟩, by decide +kernel, by decide⟩⟩
theorem ca_Words_cutWord_69 : ca_V m_Words_cutWord m_Words_cutEnclosed 69 4 := ⟨gi_V tw_599 tw_601 ts_17 tw_8 tw_602, ⟨⟨_, rfl⟩, by decide +kernel, by decide⟩⟩
theorem ca_Words_cutWord_73 : ca_V m_Words_cutWord m_Words_isSign 73 1 := ⟨gi_V tw_603 tw_605 ts_18 tw_8 tw_606, ⟨⟨_, rfl⟩, by decide +kernel, by decide⟩⟩
theorem ca_Words_cutWord_76 : ca_V m_Words_cutWord m_Texts_put 76 1 := ⟨gi_V tw_588 tw_299 tw_300 tw_4 tw_301, ⟨⟨_, rfl⟩, by decide +kernel, by decide⟩⟩
theorem ca_Words_cutWord_79 : ca_V m_Words_cutWord m_Words_close 79 1 := ⟨gi_V tw_589 tw_591 ts_16 tw_8 tw_592, ⟨⟨_, rfl⟩, by decide +kernel, by decide⟩⟩
theorem ca_Words_cutWord_82 : ca_V m_Words_cutWord m_Words_cutAtom 82 2 := ⟨gi_V tw_691 tw_693 ts_19 tw_8 tw_694, ⟨⟨_, rfl⟩, by decide +kernel, by decide⟩⟩
theorem ca_Words_cut_38 : ca_V m_Words_cut m_Texts_clear 38 0 := ⟨gi_V tw_569 tw_271 tw_272 tw_4 tw_273, ⟨⟨_, rfl⟩, by decide +kernel, by decide⟩⟩
theorem ca_Words_cut_41 : ca_V m_Words_cut m_Row_cutTo 41 1 := ⟨gi_V tw_570 tw_275 tw_276 tw_2 tw_277, ⟨⟨_, rfl⟩, by decide +kernel, by decide⟩⟩
theorem ca_Words_cut_45 : ca_V m_Words_cut m_Texts_sizeOf 45 1 := ⟨gi_V tw_571 tw_348 tw_349 tw_4 tw_350, ⟨⟨_, rfl⟩, by decide +kernel, by decide⟩⟩
theorem ca_Words_cut_49 : ca_V m_Words_cut m_Words_cutWord 49 3 := ⟨gi_V tw_572 tw_574 ts_13 tw_8 tw_575, ⟨⟨_, rfl⟩, by decide +kernel, by decide⟩⟩
theorem ca_Words_cut_53 : ca_S m_Words_cut m_Math_max 53 2 := ⟨gi_S tw_695 tw_636 tw_6 tw_637, ⟨⟨_, rfl⟩, by decide +kernel, by decide⟩⟩
theorem ca_Mail_type_102 : ca_V m_Mail_type m_Head_texts 102 0 := ⟨gi_V tw_363 tw_364 tw_365 tw_3 tw_366, ⟨⟨_, rfl⟩, by decide +kernel, by decide⟩⟩
theorem ca_Mail_type_117 : ca_V m_Mail_type m_Mail_valueOf 117 1 := ⟨gi_V tw_495 tw_497 ts_11 tw_1 tw_498, ⟨⟨_, rfl⟩, by decide +kernel, by decide⟩⟩
theorem ca_Mail_type_122 : ca_V m_Mail_type m_Words_cut 122 4 := ⟨gi_V tw_565 tw_566 tw_567 tw_8 tw_568, ⟨⟨_, rfl⟩, by decide +kernel, by decide⟩⟩
theorem ca_Mail_type_142 : ca_V m_Mail_type m_ContentType_readWords 142 0 := ⟨gi_V tw_896 tw_897 tw_898 tw_12 tw_899, ⟨⟨_, rfl⟩, by decide +kernel, by decide⟩⟩
theorem ca_ContentType_byteInHand_82 : ca_V m_ContentType_byteInHand m_Texts_byteOf 82 2 := ⟨gi_V tw_457 tw_353 tw_354 tw_4 tw_355, ⟨⟨_, rfl⟩, by decide +kernel, by decide⟩⟩
theorem ca_Mail_parameterByte_164 : ca_V m_Mail_parameterByte m_ContentType_byteInHand 164 2 := ⟨gi_V tw_483 tw_484 tw_485 tw_12 tw_486, ⟨⟨_, rfl⟩, by decide +kernel, by decide⟩⟩
theorem ca_Model_takeParameter_197 : ca_V m_Model_takeParameter m_Model_next 197 2 := ⟨gi_V tw_1180 tw_1182 ts_61 tw_13 tw_1183, ⟨⟨_, rfl⟩, by decide +kernel, by decide⟩⟩
theorem ca_Model_takeParameter_200 : ca_V m_Model_takeParameter m_Model_is 200 2 := ⟨gi_V tw_1168 tw_1170 ts_58 tw_13 tw_1171, ⟨⟨_, rfl⟩, by decide +kernel, by decide⟩⟩
theorem ca_Model_takeParameter_271 : ca_S m_Model_takeParameter m_Model_isDigit 271 1 := ⟨gi_S tw_1260 tw_1261 tw_13 tw_1262, ⟨⟨_, rfl⟩, by decide +kernel, by decide⟩⟩
theorem ca_Model_makeSmall_204 : ca_V m_Model_makeSmall m_Model_beginPart 204 1 := ⟨gi_V tw_1188 tw_1190 ts_63 tw_13 tw_1191, ⟨⟨_, rfl⟩, by decide +kernel, by decide⟩⟩
theorem ca_Model_makeSmall_133 : ca_S m_Model_makeSmall m_Model_small 133 1 := ⟨gi_S tw_1100 tw_1101 tw_13 tw_1102, ⟨⟨_, rfl⟩, by decide +kernel, by decide⟩⟩
theorem ca_Model_makeSmall_191 : ca_V m_Model_makeSmall m_Model_add 191 2 := ⟨gi_V tw_1199 tw_1201 ts_65 tw_13 tw_1202, ⟨⟨_, rfl⟩, by decide +kernel, by decide⟩⟩
theorem ca_Model_makeSmall_210 : ca_V m_Model_makeSmall m_Model_endPart 210 1 := ⟨gi_V tw_1207 tw_1209 ts_67 tw_13 tw_1210, ⟨⟨_, rfl⟩, by decide +kernel, by decide⟩⟩
theorem ca_Model_type_137 : ca_V m_Model_type m_Model_isField 137 1 := ⟨gi_V tw_1107 tw_1109 ts_48 tw_13 tw_1110, ⟨⟨_, rfl⟩, by decide +kernel, by decide⟩⟩
theorem ca_Model_type_251 : ca_V m_Model_type m_Model_cut 251 2 := ⟨gi_V tw_1129 tw_1131 ts_49 tw_13 tw_1132, ⟨⟨_, rfl⟩, by decide +kernel, by decide⟩⟩
theorem ca_Model_type_255 : ca_V m_Model_type m_Model_forget 255 3 := ⟨gi_V tw_1164 tw_1166 ts_57 tw_13 tw_1167, ⟨⟨_, rfl⟩, by decide +kernel, by decide⟩⟩
theorem ca_Model_type_197 : ca_V m_Model_type m_Model_next 197 2 := ⟨gi_V tw_1180 tw_1182 ts_61 tw_13 tw_1183, ⟨⟨_, rfl⟩, by decide +kernel, by decide⟩⟩
theorem ca_Model_type_200 : ca_V m_Model_type m_Model_is 200 2 := ⟨gi_V tw_1168 tw_1170 ts_58 tw_13 tw_1171, ⟨⟨_, rfl⟩, by decide +kernel, by decide⟩⟩
theorem ca_Model_type_350 : ca_V m_Model_type m_Model_makeSmall 350 2 := ⟨gi_V tw_1336 tw_1338 ts_86 tw_13 tw_1339, ⟨⟨_, rfl⟩, by decide +kernel, by decide⟩⟩
theorem ca_Model_type_353 : ca_V m_Model_type m_Model_takeParameter 353 1 := ⟨gi_V tw_1340 tw_1342 ts_87 tw_13 tw_1343, ⟨⟨_, rfl⟩, by decide +kernel, by decide⟩⟩
theorem ca_Mail_bad_95 : ca_V m_Mail_bad m_Head_badLines 95 0 := ⟨gi_V tw_331 tw_332 tw_333 tw_3 tw_334, ⟨⟨_, rfl⟩, by decide +kernel, by decide⟩⟩
theorem ca_Model_feed_102 : ca_V m_Model_feed m_Model_readyWord 102 2 := ⟨gi_V tw_1065 tw_1067 ts_44 tw_13 tw_1068, ⟨⟨_, rfl⟩, by decide +kernel, by decide⟩⟩
theorem ca_Model_sixteenth_271 : ca_S m_Model_sixteenth m_Model_isDigit 271 1 := ⟨gi_S tw_1260 tw_1261 tw_13 tw_1262, ⟨⟨_, rfl⟩, by decide +kernel, by decide⟩⟩
theorem ca_Model_behindCharset_133 : ca_S m_Model_behindCharset m_Model_small 133 1 := ⟨gi_S tw_1100 tw_1101 tw_13 tw_1102, ⟨⟨_, rfl⟩, by decide +kernel, by decide⟩⟩
theorem ca_Model_takeValue_359 : ca_V m_Model_takeValue m_Model_behindCharset 359 1 := ⟨gi_V tw_1360 tw_1362 ts_91 tw_13 tw_1363, ⟨⟨_, rfl⟩, by decide +kernel, by decide⟩⟩
theorem ca_Model_takeValue_362 : ca_S m_Model_takeValue m_Model_sixteenth 362 1 := ⟨gi_S tw_1364 tw_1365 tw_13 tw_1366, ⟨⟨_, rfl⟩, by decide +kernel, by decide⟩⟩
theorem ca_Model_isNamed_133 : ca_S m_Model_isNamed m_Model_small 133 1 := ⟨gi_S tw_1100 tw_1101 tw_13 tw_1102, ⟨⟨_, rfl⟩, by decide +kernel, by decide⟩⟩
theorem ca_Model_parameterOf_356 : ca_V m_Model_parameterOf m_Model_isNamed 356 2 := ⟨gi_V tw_1352 tw_1354 ts_89 tw_13 tw_1355, ⟨⟨_, rfl⟩, by decide +kernel, by decide⟩⟩
theorem ca_Model_parameter_365 : ca_V m_Model_parameter m_Model_parameterOf 365 2 := ⟨gi_V tw_1348 tw_1350 ts_88 tw_13 tw_1351, ⟨⟨_, rfl⟩, by decide +kernel, by decide⟩⟩
theorem ca_Model_parameter_368 : ca_V m_Model_parameter m_Model_takeValue 368 1 := ⟨gi_V tw_1356 tw_1358 ts_90 tw_13 tw_1359, ⟨⟨_, rfl⟩, by decide +kernel, by decide⟩⟩
theorem ca_Addresses_count_45 : ca_V m_Addresses_count m_Row_size 45 0 := ⟨gi_V tw_427 tw_255 tw_256 tw_2 tw_257, ⟨⟨_, rfl⟩, by decide +kernel, by decide⟩⟩
theorem ca_Addresses_kindAt_66 : ca_V m_Addresses_kindAt m_Words_kinds 66 0 := ⟨gi_V tw_706 tw_707 tw_708 tw_8 tw_709, ⟨⟨_, rfl⟩, by decide +kernel, by decide⟩⟩
theorem ca_Addresses_kindAt_49 : ca_V m_Addresses_kindAt m_Row_get 49 1 := ⟨gi_V tw_394 tw_280 tw_281 tw_2 tw_282, ⟨⟨_, rfl⟩, by decide +kernel, by decide⟩⟩
theorem ca_Addresses_putName_100 : ca_V m_Addresses_putName m_Addresses_kindAt 100 1 := ⟨gi_V tw_723 tw_725 ts_24 tw_9 tw_726, ⟨⟨_, rfl⟩, by decide +kernel, by decide⟩⟩
theorem ca_Addresses_putName_125 : ca_V m_Addresses_putName m_Texts_put 125 1 := ⟨gi_V tw_731 tw_299 tw_300 tw_4 tw_301, ⟨⟨_, rfl⟩, by decide +kernel, by decide⟩⟩
theorem ca_Addresses_putName_115 : ca_V m_Addresses_putName m_Words_texts 115 0 := ⟨gi_V tw_732 tw_733 tw_734 tw_8 tw_735, ⟨⟨_, rfl⟩, by decide +kernel, by decide⟩⟩
theorem ca_Addresses_putName_49 : ca_V m_Addresses_putName m_Row_get 49 1 := ⟨gi_V tw_394 tw_280 tw_281 tw_2 tw_282, ⟨⟨_, rfl⟩, by decide +kernel, by decide⟩⟩
theorem ca_Addresses_putName_118 : ca_V m_Addresses_putName m_Texts_putText 118 2 := ⟨gi_V tw_736 tw_737 tw_738 tw_4 tw_739, ⟨⟨_, rfl⟩, by decide +kernel, by decide⟩⟩
theorem ca_Addresses_isName_100 : ca_V m_Addresses_isName m_Addresses_kindAt 100 1 := ⟨gi_V tw_723 tw_725 ts_24 tw_9 tw_726, ⟨⟨_, rfl⟩, by decide +kernel, by decide⟩⟩
theorem ca_Addresses_takeColon_85 : ca_V m_Addresses_takeColon m_Texts_count 85 0 := ⟨gi_V tw_718 tw_322 tw_323 tw_4 tw_324, ⟨⟨_, rfl⟩, by decide +kernel, by decide⟩⟩
theorem ca_Addresses_takeColon_45 : ca_V m_Addresses_takeColon m_Row_size 45 0 := ⟨gi_V tw_427 tw_255 tw_256 tw_2 tw_257, ⟨⟨_, rfl⟩, by decide +kernel, by decide⟩⟩
theorem ca_Addresses_takeColon_86 : ca_V m_Addresses_takeColon m_Addresses_isName 86 1 := ⟨gi_V tw_719 tw_721 ts_23 tw_9 tw_722, ⟨⟨_, rfl⟩, by decide +kernel, by decide⟩⟩
theorem ca_Addresses_takeColon_90 : ca_V m_Addresses_takeColon m_Addresses_putName 90 2 := ⟨gi_V tw_727 tw_729 ts_25 tw_9 tw_730, ⟨⟨_, rfl⟩, by decide +kernel, by decide⟩⟩
theorem ca_Addresses_takeColon_94 : ca_V m_Addresses_takeColon m_Texts_close 94 0 := ⟨gi_V tw_740 tw_313 tw_314 tw_4 tw_315, ⟨⟨_, rfl⟩, by decide +kernel, by decide⟩⟩
theorem ca_Addresses_dottedEnd_100 : ca_V m_Addresses_dottedEnd m_Addresses_kindAt 100 1 := ⟨gi_V tw_723 tw_725 ts_24 tw_9 tw_726, ⟨⟨_, rfl⟩, by decide +kernel, by decide⟩⟩
theorem ca_Addresses_putWords_100 : ca_V m_Addresses_putWords m_Addresses_kindAt 100 1 := ⟨gi_V tw_723 tw_725 ts_24 tw_9 tw_726, ⟨⟨_, rfl⟩, by decide +kernel, by decide⟩⟩
theorem ca_Addresses_putWords_125 : ca_V m_Addresses_putWords m_Texts_put 125 1 := ⟨gi_V tw_731 tw_299 tw_300 tw_4 tw_301, ⟨⟨_, rfl⟩, by decide +kernel, by decide⟩⟩
theorem ca_Addresses_putWords_115 : ca_V m_Addresses_putWords m_Words_texts 115 0 := ⟨gi_V tw_732 tw_733 tw_734 tw_8 tw_735, ⟨⟨_, rfl⟩, by decide +kernel, by decide⟩⟩
theorem ca_Addresses_putWords_49 : ca_V m_Addresses_putWords m_Row_get 49 1 := ⟨gi_V tw_394 tw_280 tw_281 tw_2 tw_282, ⟨⟨_, rfl⟩, by decide +kernel, by decide⟩⟩
theorem ca_Addresses_putWords_118 : ca_V m_Addresses_putWords m_Texts_putText 118 2 := ⟨gi_V tw_736 tw_737 tw_738 tw_4 tw_739, ⟨⟨_, rfl⟩, by decide +kernel, by decide⟩⟩
theorem ca_Addresses_putWords_94 : ca_V m_Addresses_putWords m_Texts_close 94 0 := ⟨gi_V tw_740 tw_313 tw_314 tw_4 tw_315, ⟨⟨_, rfl⟩, by decide +kernel, by decide⟩⟩
theorem ca_Addresses_behindRoute_100 : ca_V m_Addresses_behindRoute m_Addresses_kindAt 100 1 := ⟨gi_V tw_723 tw_725 ts_24 tw_9 tw_726, ⟨⟨_, rfl⟩, by decide +kernel, by decide⟩⟩
theorem ca_Addresses_firstOpen_45 : ca_V m_Addresses_firstOpen m_Row_size 45 0 := ⟨gi_V tw_427 tw_255 tw_256 tw_2 tw_257, ⟨⟨_, rfl⟩, by decide +kernel, by decide⟩⟩
theorem ca_Addresses_firstOpen_100 : ca_V m_Addresses_firstOpen m_Addresses_kindAt 100 1 := ⟨gi_V tw_723 tw_725 ts_24 tw_9 tw_726, ⟨⟨_, rfl⟩, by decide +kernel, by decide⟩⟩
theorem ca_Addresses_isDomainBehind_100 : ca_V m_Addresses_isDomainBehind m_Addresses_kindAt 100 1 := ⟨gi_V tw_723 tw_725 ts_24 tw_9 tw_726, ⟨⟨_, rfl⟩, by decide +kernel, by decide⟩⟩
theorem ca_Addresses_isDomainBehind_107 : ca_V m_Addresses_isDomainBehind m_Addresses_dottedEnd 107 3 := ⟨gi_V tw_753 tw_755 ts_29 tw_9 tw_756, ⟨⟨_, rfl⟩, by decide +kernel, by decide⟩⟩
theorem ca_Addresses_takeMailbox_97 : ca_V m_Addresses_takeMailbox m_Addresses_firstOpen 97 0 := ⟨gi_V tw_745 tw_747 ts_27 tw_9 tw_748, ⟨⟨_, rfl⟩, by decide +kernel, by decide⟩⟩
theorem ca_Addresses_takeMailbox_45 : ca_V m_Addresses_takeMailbox m_Row_size 45 0 := ⟨gi_V tw_427 tw_255 tw_256 tw_2 tw_257, ⟨⟨_, rfl⟩, by decide +kernel, by decide⟩⟩
theorem ca_Addresses_takeMailbox_100 : ca_V m_Addresses_takeMailbox m_Addresses_kindAt 100 1 := ⟨gi_V tw_723 tw_725 ts_24 tw_9 tw_726, ⟨⟨_, rfl⟩, by decide +kernel, by decide⟩⟩
theorem ca_Addresses_takeMailbox_86 : ca_V m_Addresses_takeMailbox m_Addresses_isName 86 1 := ⟨gi_V tw_719 tw_721 ts_23 tw_9 tw_722, ⟨⟨_, rfl⟩, by decide +kernel, by decide⟩⟩
theorem ca_Addresses_takeMailbox_103 : ca_V m_Addresses_takeMailbox m_Addresses_behindRoute 103 2 := ⟨gi_V tw_749 tw_751 ts_28 tw_9 tw_752, ⟨⟨_, rfl⟩, by decide +kernel, by decide⟩⟩
theorem ca_Addresses_takeMailbox_107 : ca_V m_Addresses_takeMailbox m_Addresses_dottedEnd 107 3 := ⟨gi_V tw_753 tw_755 ts_29 tw_9 tw_756, ⟨⟨_, rfl⟩, by decide +kernel, by decide⟩⟩
theorem ca_Addresses_takeMailbox_111 : ca_V m_Addresses_takeMailbox m_Addresses_isDomainBehind 111 2 := ⟨gi_V tw_757 tw_759 ts_30 tw_9 tw_760, ⟨⟨_, rfl⟩, by decide +kernel, by decide⟩⟩
theorem ca_Addresses_takeMailbox_90 : ca_V m_Addresses_takeMailbox m_Addresses_putName 90 2 := ⟨gi_V tw_727 tw_729 ts_25 tw_9 tw_730, ⟨⟨_, rfl⟩, by decide +kernel, by decide⟩⟩
theorem ca_Addresses_takeMailbox_115 : ca_V m_Addresses_takeMailbox m_Words_texts 115 0 := ⟨gi_V tw_732 tw_733 tw_734 tw_8 tw_735, ⟨⟨_, rfl⟩, by decide +kernel, by decide⟩⟩
theorem ca_Addresses_takeMailbox_118 : ca_V m_Addresses_takeMailbox m_Texts_putText 118 2 := ⟨gi_V tw_736 tw_737 tw_738 tw_4 tw_739, ⟨⟨_, rfl⟩, by decide +kernel, by decide⟩⟩
theorem ca_Addresses_takeMailbox_94 : ca_V m_Addresses_takeMailbox m_Texts_close 94 0 := ⟨gi_V tw_740 tw_313 tw_314 tw_4 tw_315, ⟨⟨_, rfl⟩, by decide +kernel, by decide⟩⟩
theorem ca_Addresses_takeMailbox_121 : ca_V m_Addresses_takeMailbox m_Addresses_putWords 121 2 := ⟨gi_V tw_761 tw_763 ts_31 tw_9 tw_764, ⟨⟨_, rfl⟩, by decide +kernel, by decide⟩⟩
theorem ca_Addresses_takeMailbox_75 : ca_V m_Addresses_takeMailbox m_Row_add 75 1 := ⟨gi_V tw_765 tw_60 tw_61 tw_2 tw_62, ⟨⟨_, rfl⟩, by decide +kernel, by decide⟩⟩
theorem ca_Addresses_beginGathering_59 : ca_V m_Addresses_beginGathering m_Row_cutTo 59 1 := ⟨gi_V tw_701 tw_275 tw_276 tw_2 tw_277, ⟨⟨_, rfl⟩, by decide +kernel, by decide⟩⟩
theorem ca_Addresses_takeGathered_78 : ca_V m_Addresses_takeGathered m_Addresses_takeColon 78 0 := ⟨gi_V tw_714 tw_716 ts_22 tw_9 tw_717, ⟨⟨_, rfl⟩, by decide +kernel, by decide⟩⟩
theorem ca_Addresses_takeGathered_45 : ca_V m_Addresses_takeGathered m_Row_size 45 0 := ⟨gi_V tw_427 tw_255 tw_256 tw_2 tw_257, ⟨⟨_, rfl⟩, by decide +kernel, by decide⟩⟩
theorem ca_Addresses_takeGathered_81 : ca_V m_Addresses_takeGathered m_Addresses_takeMailbox 81 0 := ⟨gi_V tw_741 tw_743 ts_26 tw_9 tw_744, ⟨⟨_, rfl⟩, by decide +kernel, by decide⟩⟩
theorem ca_Addresses_takeGathered_63 : ca_V m_Addresses_takeGathered m_Addresses_beginGathering 63 0 := ⟨gi_V tw_702 tw_704 ts_20 tw_9 tw_705, ⟨⟨_, rfl⟩, by decide +kernel, by decide⟩⟩
theorem ca_Addresses_readWords_56 : ca_V m_Addresses_readWords m_Texts_clear 56 0 := ⟨gi_V tw_700 tw_271 tw_272 tw_4 tw_273, ⟨⟨_, rfl⟩, by decide +kernel, by decide⟩⟩
theorem ca_Addresses_readWords_59 : ca_V m_Addresses_readWords m_Row_cutTo 59 1 := ⟨gi_V tw_701 tw_275 tw_276 tw_2 tw_277, ⟨⟨_, rfl⟩, by decide +kernel, by decide⟩⟩
theorem ca_Addresses_readWords_63 : ca_V m_Addresses_readWords m_Addresses_beginGathering 63 0 := ⟨gi_V tw_702 tw_704 ts_20 tw_9 tw_705, ⟨⟨_, rfl⟩, by decide +kernel, by decide⟩⟩
theorem ca_Addresses_readWords_66 : ca_V m_Addresses_readWords m_Words_kinds 66 0 := ⟨gi_V tw_706 tw_707 tw_708 tw_8 tw_709, ⟨⟨_, rfl⟩, by decide +kernel, by decide⟩⟩
theorem ca_Addresses_readWords_45 : ca_V m_Addresses_readWords m_Row_size 45 0 := ⟨gi_V tw_427 tw_255 tw_256 tw_2 tw_257, ⟨⟨_, rfl⟩, by decide +kernel, by decide⟩⟩
theorem ca_Addresses_readWords_49 : ca_V m_Addresses_readWords m_Row_get 49 1 := ⟨gi_V tw_394 tw_280 tw_281 tw_2 tw_282, ⟨⟨_, rfl⟩, by decide +kernel, by decide⟩⟩
theorem ca_Addresses_readWords_72 : ca_V m_Addresses_readWords m_Addresses_takeGathered 72 1 := ⟨gi_V tw_710 tw_712 ts_21 tw_9 tw_713, ⟨⟨_, rfl⟩, by decide +kernel, by decide⟩⟩
theorem ca_Addresses_readWords_75 : ca_V m_Addresses_readWords m_Row_add 75 1 := ⟨gi_V tw_765 tw_60 tw_61 tw_2 tw_62, ⟨⟨_, rfl⟩, by decide +kernel, by decide⟩⟩
theorem ca_Mail_addresses_102 : ca_V m_Mail_addresses m_Head_texts 102 0 := ⟨gi_V tw_363 tw_364 tw_365 tw_3 tw_366, ⟨⟨_, rfl⟩, by decide +kernel, by decide⟩⟩
theorem ca_Mail_addresses_117 : ca_V m_Mail_addresses m_Mail_valueOf 117 1 := ⟨gi_V tw_495 tw_497 ts_11 tw_1 tw_498, ⟨⟨_, rfl⟩, by decide +kernel, by decide⟩⟩
theorem ca_Mail_addresses_122 : ca_V m_Mail_addresses m_Words_cut 122 4 := ⟨gi_V tw_565 tw_566 tw_567 tw_8 tw_568, ⟨⟨_, rfl⟩, by decide +kernel, by decide⟩⟩
theorem ca_Mail_addresses_126 : ca_V m_Mail_addresses m_Addresses_readWords 126 0 := ⟨gi_V tw_696 tw_697 tw_698 tw_9 tw_699, ⟨⟨_, rfl⟩, by decide +kernel, by decide⟩⟩
theorem ca_Mail_addresses_129 : ca_V m_Mail_addresses m_Addresses_count 129 0 := ⟨gi_V tw_766 tw_424 tw_425 tw_9 tw_426, ⟨⟨_, rfl⟩, by decide +kernel, by decide⟩⟩
theorem ca_Mail_textsFor_175 : ca_V m_Mail_textsFor m_Addresses_texts 175 0 := ⟨gi_V tw_403 tw_404 tw_405 tw_9 tw_406, ⟨⟨_, rfl⟩, by decide +kernel, by decide⟩⟩
theorem ca_Mail_textsFor_145 : ca_V m_Mail_textsFor m_Addresses_groupNames 145 0 := ⟨gi_V tw_381 tw_382 tw_383 tw_9 tw_384, ⟨⟨_, rfl⟩, by decide +kernel, by decide⟩⟩
theorem ca_Mail_textsFor_134 : ca_V m_Mail_textsFor m_Identities_texts 134 0 := ⟨gi_V tw_407 tw_408 tw_409 tw_10 tw_410, ⟨⟨_, rfl⟩, by decide +kernel, by decide⟩⟩
theorem ca_Mail_textsFor_176 : ca_V m_Mail_textsFor m_ContentType_parts 176 0 := ⟨gi_V tw_411 tw_412 tw_413 tw_12 tw_414, ⟨⟨_, rfl⟩, by decide +kernel, by decide⟩⟩
theorem ca_Addresses_textOf_53 : ca_V m_Addresses_textOf m_Addresses_count 53 0 := ⟨gi_V tw_423 tw_424 tw_425 tw_9 tw_426, ⟨⟨_, rfl⟩, by decide +kernel, by decide⟩⟩
theorem ca_Mail_textFor_179 : ca_V m_Mail_textFor m_Addresses_textOf 179 2 := ⟨gi_V tw_419 tw_420 tw_421 tw_9 tw_422, ⟨⟨_, rfl⟩, by decide +kernel, by decide⟩⟩
theorem ca_Mail_length_154 : ca_V m_Mail_length m_Mail_textsFor 154 1 := ⟨gi_V tw_399 tw_401 ts_4 tw_1 tw_402, ⟨⟨_, rfl⟩, by decide +kernel, by decide⟩⟩
theorem ca_Mail_length_158 : ca_V m_Mail_length m_Mail_textFor 158 2 := ⟨gi_V tw_415 tw_417 ts_5 tw_1 tw_418, ⟨⟨_, rfl⟩, by decide +kernel, by decide⟩⟩
theorem ca_Mail_length_110 : ca_V m_Mail_length m_Texts_sizeOf 110 1 := ⟨gi_V tw_371 tw_348 tw_349 tw_4 tw_350, ⟨⟨_, rfl⟩, by decide +kernel, by decide⟩⟩
theorem ca_DateReader_digits_69 : ca_V m_DateReader_digits m_Words_texts 69 0 := ⟨gi_V tw_806 tw_733 tw_734 tw_8 tw_735, ⟨⟨_, rfl⟩, by decide +kernel, by decide⟩⟩
theorem ca_DateReader_digits_87 : ca_V m_DateReader_digits m_Texts_byteOf 87 2 := ⟨gi_V tw_812 tw_353 tw_354 tw_4 tw_355, ⟨⟨_, rfl⟩, by decide +kernel, by decide⟩⟩
theorem ca_DateReader_takeNumber_69 : ca_V m_DateReader_takeNumber m_Words_texts 69 0 := ⟨gi_V tw_806 tw_733 tw_734 tw_8 tw_735, ⟨⟨_, rfl⟩, by decide +kernel, by decide⟩⟩
theorem ca_DateReader_takeNumber_73 : ca_V m_DateReader_takeNumber m_Texts_sizeOf 73 1 := ⟨gi_V tw_807 tw_348 tw_349 tw_4 tw_350, ⟨⟨_, rfl⟩, by decide +kernel, by decide⟩⟩
theorem ca_DateReader_takeNumber_21 : ca_V m_DateReader_takeNumber m_Words_kinds 21 0 := ⟨gi_V tw_800 tw_707 tw_708 tw_8 tw_709, ⟨⟨_, rfl⟩, by decide +kernel, by decide⟩⟩
theorem ca_DateReader_takeNumber_27 : ca_V m_DateReader_takeNumber m_Row_get 27 1 := ⟨gi_V tw_801 tw_280 tw_281 tw_2 tw_282, ⟨⟨_, rfl⟩, by decide +kernel, by decide⟩⟩
theorem ca_DateReader_takeNumber_78 : ca_V m_DateReader_takeNumber m_DateReader_digits 78 2 := ⟨gi_V tw_808 tw_810 ts_34 tw_11 tw_811, ⟨⟨_, rfl⟩, by decide +kernel, by decide⟩⟩
theorem ca_DateReader_isLetter_69 : ca_V m_DateReader_isLetter m_Words_texts 69 0 := ⟨gi_V tw_806 tw_733 tw_734 tw_8 tw_735, ⟨⟨_, rfl⟩, by decide +kernel, by decide⟩⟩
theorem ca_DateReader_isLetter_87 : ca_V m_DateReader_isLetter m_Texts_byteOf 87 2 := ⟨gi_V tw_812 tw_353 tw_354 tw_4 tw_355, ⟨⟨_, rfl⟩, by decide +kernel, by decide⟩⟩
theorem ca_String_checkIndex_1059 : ca_S m_String_checkIndex m_Preconditions_checkIndex 1059 3 := ⟨gi_S tw_834 tw_835 tw_21 tw_836, ⟨⟨_, rfl⟩, by decide +kernel, by decide⟩⟩
theorem ca_StringLatin1_charAt_9 : ca_S m_StringLatin1_charAt m_String_checkIndex 9 2 := ⟨gi_S tw_831 tw_832 tw_18 tw_833, ⟨⟨_, rfl⟩, by decide +kernel, by decide⟩⟩
theorem ca_StringUTF16_checkIndex_48 : ca_S m_StringUTF16_checkIndex m_StringUTF16_length 48 1 := ⟨gi_S tw_654 tw_655 tw_20 tw_656, ⟨⟨_, rfl⟩, by decide +kernel, by decide⟩⟩
theorem ca_StringUTF16_checkIndex_414 : ca_S m_StringUTF16_checkIndex m_String_checkIndex 414 2 := ⟨gi_S tw_843 tw_832 tw_18 tw_833, ⟨⟨_, rfl⟩, by decide +kernel, by decide⟩⟩
theorem ca_StringUTF16_charAt_67 : ca_S m_StringUTF16_charAt m_StringUTF16_checkIndex 67 2 := ⟨gi_S tw_840 tw_841 tw_20 tw_842, ⟨⟨_, rfl⟩, by decide +kernel, by decide⟩⟩
theorem ca_StringUTF16_charAt_71 : ca_S m_StringUTF16_charAt m_StringUTF16_getChar 71 2 := ⟨gi_S tw_668 tw_669 tw_20 tw_670, ⟨⟨_, rfl⟩, by decide +kernel, by decide⟩⟩
theorem ca_String_charAt_492 : ca_V m_String_charAt m_String_isLatin1 492 0 := ⟨gi_V tw_615 tw_616 tw_617 tw_18 tw_618, ⟨⟨_, rfl⟩, by decide +kernel, by decide⟩⟩
theorem ca_String_charAt_495 : ca_S m_String_charAt m_StringLatin1_charAt 495 2 := ⟨gi_S tw_828 tw_829 tw_19 tw_830, ⟨⟨_, rfl⟩, by decide +kernel, by decide⟩⟩
theorem ca_String_charAt_498 : ca_S m_String_charAt m_StringUTF16_charAt 498 2 := ⟨gi_S tw_837 tw_838 tw_20 tw_839, ⟨⟨_, rfl⟩, by decide +kernel, by decide⟩⟩
theorem ca_DateReader_threeLetters_93 : ca_V m_DateReader_threeLetters m_String_length 93 0 := ⟨gi_V tw_823 tw_622 tw_623 tw_18 tw_624, ⟨⟨_, rfl⟩, by decide +kernel, by decide⟩⟩
theorem ca_DateReader_threeLetters_98 : ca_V m_DateReader_threeLetters m_String_charAt 98 1 := ⟨gi_V tw_824 tw_825 tw_826 tw_18 tw_827, ⟨⟨_, rfl⟩, by decide +kernel, by decide⟩⟩
theorem ca_DateReader_threeLetters_102 : ca_V m_DateReader_threeLetters m_DateReader_isLetter 102 2 := ⟨gi_V tw_844 tw_846 ts_37 tw_11 tw_847, ⟨⟨_, rfl⟩, by decide +kernel, by decide⟩⟩
theorem ca_DateReader_takeMonth_21 : ca_V m_DateReader_takeMonth m_Words_kinds 21 0 := ⟨gi_V tw_800 tw_707 tw_708 tw_8 tw_709, ⟨⟨_, rfl⟩, by decide +kernel, by decide⟩⟩
theorem ca_DateReader_takeMonth_27 : ca_V m_DateReader_takeMonth m_Row_get 27 1 := ⟨gi_V tw_801 tw_280 tw_281 tw_2 tw_282, ⟨⟨_, rfl⟩, by decide +kernel, by decide⟩⟩
theorem ca_DateReader_takeMonth_83 : ca_V m_DateReader_takeMonth m_DateReader_threeLetters 83 1 := ⟨gi_V tw_819 tw_821 ts_36 tw_11 tw_822, ⟨⟨_, rfl⟩, by decide +kernel, by decide⟩⟩
theorem ca_DateReader_takeColon_21 : ca_V m_DateReader_takeColon m_Words_kinds 21 0 := ⟨gi_V tw_800 tw_707 tw_708 tw_8 tw_709, ⟨⟨_, rfl⟩, by decide +kernel, by decide⟩⟩
theorem ca_DateReader_takeColon_27 : ca_V m_DateReader_takeColon m_Row_get 27 1 := ⟨gi_V tw_801 tw_280 tw_281 tw_2 tw_282, ⟨⟨_, rfl⟩, by decide +kernel, by decide⟩⟩
theorem ca_DateReader_daysSince1970_123 : ca_S m_DateReader_daysSince1970 m_DateReader_daysAhead 123 1 := ⟨gi_S tw_873 tw_874 tw_11 tw_875, ⟨⟨_, rfl⟩, by decide +kernel, by decide⟩⟩
theorem ca_DateReader_daysSince1970_117 : ca_S m_DateReader_daysSince1970 m_DateReader_daysOf 117 2 := ⟨gi_S tw_863 tw_864 tw_11 tw_865, ⟨⟨_, rfl⟩, by decide +kernel, by decide⟩⟩
theorem ca_DateReader_signedZone_78 : ca_V m_DateReader_signedZone m_DateReader_digits 78 2 := ⟨gi_V tw_808 tw_810 ts_34 tw_11 tw_811, ⟨⟨_, rfl⟩, by decide +kernel, by decide⟩⟩
theorem ca_DateReader_signedZone_48 : ca_S m_DateReader_signedZone m_DateReader_isBelow 48 2 := ⟨gi_S tw_857 tw_858 tw_11 tw_859, ⟨⟨_, rfl⟩, by decide +kernel, by decide⟩⟩
theorem ca_DateReader_zoneSeconds_69 : ca_V m_DateReader_zoneSeconds m_Words_texts 69 0 := ⟨gi_V tw_806 tw_733 tw_734 tw_8 tw_735, ⟨⟨_, rfl⟩, by decide +kernel, by decide⟩⟩
theorem ca_DateReader_zoneSeconds_73 : ca_V m_DateReader_zoneSeconds m_Texts_sizeOf 73 1 := ⟨gi_V tw_807 tw_348 tw_349 tw_4 tw_350, ⟨⟨_, rfl⟩, by decide +kernel, by decide⟩⟩
theorem ca_DateReader_zoneSeconds_21 : ca_V m_DateReader_zoneSeconds m_Words_kinds 21 0 := ⟨gi_V tw_800 tw_707 tw_708 tw_8 tw_709, ⟨⟨_, rfl⟩, by decide +kernel, by decide⟩⟩
theorem ca_DateReader_zoneSeconds_27 : ca_V m_DateReader_zoneSeconds m_Row_get 27 1 := ⟨gi_V tw_801 tw_280 tw_281 tw_2 tw_282, ⟨⟨_, rfl⟩, by decide +kernel, by decide⟩⟩
theorem ca_DateReader_zoneSeconds_83 : ca_V m_DateReader_zoneSeconds m_DateReader_threeLetters 83 1 := ⟨gi_V tw_819 tw_821 ts_36 tw_11 tw_822, ⟨⟨_, rfl⟩, by decide +kernel, by decide⟩⟩
theorem ca_DateReader_zoneSeconds_87 : ca_V m_DateReader_zoneSeconds m_Texts_byteOf 87 2 := ⟨gi_V tw_812 tw_353 tw_354 tw_4 tw_355, ⟨⟨_, rfl⟩, by decide +kernel, by decide⟩⟩
theorem ca_DateReader_zoneSeconds_114 : ca_V m_DateReader_zoneSeconds m_DateReader_signedZone 114 1 := ⟨gi_V tw_884 tw_886 ts_41 tw_11 tw_887, ⟨⟨_, rfl⟩, by decide +kernel, by decide⟩⟩
theorem ca_DateReader_takeYear_69 : ca_V m_DateReader_takeYear m_Words_texts 69 0 := ⟨gi_V tw_806 tw_733 tw_734 tw_8 tw_735, ⟨⟨_, rfl⟩, by decide +kernel, by decide⟩⟩
theorem ca_DateReader_takeYear_73 : ca_V m_DateReader_takeYear m_Texts_sizeOf 73 1 := ⟨gi_V tw_807 tw_348 tw_349 tw_4 tw_350, ⟨⟨_, rfl⟩, by decide +kernel, by decide⟩⟩
theorem ca_DateReader_takeYear_33 : ca_V m_DateReader_takeYear m_DateReader_takeNumber 33 2 := ⟨gi_V tw_802 tw_804 ts_33 tw_11 tw_805, ⟨⟨_, rfl⟩, by decide +kernel, by decide⟩⟩
theorem ca_DateReader_isDay_117 : ca_S m_DateReader_isDay m_DateReader_daysOf 117 2 := ⟨gi_S tw_863 tw_864 tw_11 tw_865, ⟨⟨_, rfl⟩, by decide +kernel, by decide⟩⟩
theorem ca_DateReader_seconds_21 : ca_V m_DateReader_seconds m_Words_kinds 21 0 := ⟨gi_V tw_800 tw_707 tw_708 tw_8 tw_709, ⟨⟨_, rfl⟩, by decide +kernel, by decide⟩⟩
theorem ca_DateReader_seconds_27 : ca_V m_DateReader_seconds m_Row_get 27 1 := ⟨gi_V tw_801 tw_280 tw_281 tw_2 tw_282, ⟨⟨_, rfl⟩, by decide +kernel, by decide⟩⟩
theorem ca_DateReader_seconds_33 : ca_V m_DateReader_seconds m_DateReader_takeNumber 33 2 := ⟨gi_V tw_802 tw_804 ts_33 tw_11 tw_805, ⟨⟨_, rfl⟩, by decide +kernel, by decide⟩⟩
theorem ca_DateReader_seconds_37 : ca_V m_DateReader_seconds m_DateReader_takeMonth 37 0 := ⟨gi_V tw_814 tw_816 ts_35 tw_11 tw_817, ⟨⟨_, rfl⟩, by decide +kernel, by decide⟩⟩
theorem ca_DateReader_seconds_41 : ca_V m_DateReader_seconds m_DateReader_takeYear 41 0 := ⟨gi_V tw_849 tw_851 ts_38 tw_11 tw_852, ⟨⟨_, rfl⟩, by decide +kernel, by decide⟩⟩
theorem ca_DateReader_seconds_44 : ca_V m_DateReader_seconds m_DateReader_takeColon 44 0 := ⟨gi_V tw_853 tw_855 ts_39 tw_11 tw_856, ⟨⟨_, rfl⟩, by decide +kernel, by decide⟩⟩
theorem ca_DateReader_seconds_48 : ca_S m_DateReader_seconds m_DateReader_isBelow 48 2 := ⟨gi_S tw_857 tw_858 tw_11 tw_859, ⟨⟨_, rfl⟩, by decide +kernel, by decide⟩⟩
theorem ca_DateReader_seconds_52 : ca_S m_DateReader_seconds m_DateReader_isDay 52 3 := ⟨gi_S tw_860 tw_861 tw_11 tw_862, ⟨⟨_, rfl⟩, by decide +kernel, by decide⟩⟩
theorem ca_DateReader_seconds_60 : ca_S m_DateReader_seconds m_DateReader_daysSince1970 60 3 := ⟨gi_S tw_870 tw_871 tw_11 tw_872, ⟨⟨_, rfl⟩, by decide +kernel, by decide⟩⟩
theorem ca_DateReader_seconds_66 : ca_V m_DateReader_seconds m_DateReader_zoneSeconds 66 0 := ⟨gi_V tw_877 tw_879 ts_40 tw_11 tw_880, ⟨⟨_, rfl⟩, by decide +kernel, by decide⟩⟩
theorem ca_Mail_date_102 : ca_V m_Mail_date m_Head_texts 102 0 := ⟨gi_V tw_363 tw_364 tw_365 tw_3 tw_366, ⟨⟨_, rfl⟩, by decide +kernel, by decide⟩⟩
theorem ca_Mail_date_117 : ca_V m_Mail_date m_Mail_valueOf 117 1 := ⟨gi_V tw_495 tw_497 ts_11 tw_1 tw_498, ⟨⟨_, rfl⟩, by decide +kernel, by decide⟩⟩
theorem ca_Mail_date_122 : ca_V m_Mail_date m_Words_cut 122 4 := ⟨gi_V tw_565 tw_566 tw_567 tw_8 tw_568, ⟨⟨_, rfl⟩, by decide +kernel, by decide⟩⟩
theorem ca_Mail_date_136 : ca_V m_Mail_date m_DateReader_seconds 136 0 := ⟨gi_V tw_796 tw_797 tw_798 tw_11 tw_799, ⟨⟨_, rfl⟩, by decide +kernel, by decide⟩⟩
theorem ca_Model_at_194 : ca_V m_Model_at m_Model_length 194 2 := ⟨gi_V tw_1124 tw_1117 tw_1118 tw_13 tw_1119, ⟨⟨_, rfl⟩, by decide +kernel, by decide⟩⟩
theorem ca_Model_field_137 : ca_V m_Model_field m_Model_isField 137 1 := ⟨gi_V tw_1107 tw_1109 ts_48 tw_13 tw_1110, ⟨⟨_, rfl⟩, by decide +kernel, by decide⟩⟩
theorem ca_Model_fieldByte_140 : ca_V m_Model_fieldByte m_Model_field 140 2 := ⟨gi_V tw_1115 tw_1104 tw_1105 tw_13 tw_1106, ⟨⟨_, rfl⟩, by decide +kernel, by decide⟩⟩
theorem ca_ContentType_quoteFrom_72 : ca_V m_ContentType_quoteFrom m_Texts_sizeOf 72 1 := ⟨gi_V tw_456 tw_348 tw_349 tw_4 tw_350, ⟨⟨_, rfl⟩, by decide +kernel, by decide⟩⟩
theorem ca_ContentType_quoteFrom_82 : ca_V m_ContentType_quoteFrom m_Texts_byteOf 82 2 := ⟨gi_V tw_457 tw_353 tw_354 tw_4 tw_355, ⟨⟨_, rfl⟩, by decide +kernel, by decide⟩⟩
theorem ca_ContentType_putCharset_54 : ca_V m_ContentType_putCharset m_Row_get 54 1 := ⟨gi_V tw_446 tw_280 tw_281 tw_2 tw_282, ⟨⟨_, rfl⟩, by decide +kernel, by decide⟩⟩
theorem ca_ContentType_putCharset_114 : ca_V m_ContentType_putCharset m_ContentType_quoteFrom 114 2 := ⟨gi_V tw_452 tw_454 ts_8 tw_12 tw_455, ⟨⟨_, rfl⟩, by decide +kernel, by decide⟩⟩
theorem ca_ContentType_putCharset_75 : ca_V m_ContentType_putCharset m_Texts_putSmall 75 3 := ⟨gi_V tw_458 tw_459 tw_460 tw_4 tw_461, ⟨⟨_, rfl⟩, by decide +kernel, by decide⟩⟩
theorem ca_ContentType_putCharset_79 : ca_V m_ContentType_putCharset m_Texts_close 79 0 := ⟨gi_V tw_462 tw_313 tw_314 tw_4 tw_315, ⟨⟨_, rfl⟩, by decide +kernel, by decide⟩⟩
theorem ca_Texts_isNamed_33 : ca_V m_Texts_isNamed m_Texts_sizeOf 33 1 := ⟨gi_V tw_347 tw_348 tw_349 tw_4 tw_350, ⟨⟨_, rfl⟩, by decide +kernel, by decide⟩⟩
theorem ca_Texts_isNamed_25 : ca_V m_Texts_isNamed m_Row_size 25 0 := ⟨gi_V tw_316 tw_255 tw_256 tw_2 tw_257, ⟨⟨_, rfl⟩, by decide +kernel, by decide⟩⟩
theorem ca_Texts_isNamed_36 : ca_V m_Texts_isNamed m_Texts_byteOf 36 2 := ⟨gi_V tw_352 tw_353 tw_354 tw_4 tw_355, ⟨⟨_, rfl⟩, by decide +kernel, by decide⟩⟩
theorem ca_Texts_isNamed_29 : ca_V m_Texts_isNamed m_Row_get 29 1 := ⟨gi_V tw_351 tw_280 tw_281 tw_2 tw_282, ⟨⟨_, rfl⟩, by decide +kernel, by decide⟩⟩
theorem ca_ContentType_firstOf_107 : ca_V m_ContentType_firstOf m_Texts_count 107 0 := ⟨gi_V tw_445 tw_322 tw_323 tw_4 tw_324, ⟨⟨_, rfl⟩, by decide +kernel, by decide⟩⟩
theorem ca_ContentType_firstOf_54 : ca_V m_ContentType_firstOf m_Row_get 54 1 := ⟨gi_V tw_446 tw_280 tw_281 tw_2 tw_282, ⟨⟨_, rfl⟩, by decide +kernel, by decide⟩⟩
theorem ca_ContentType_firstOf_110 : ca_V m_ContentType_firstOf m_Texts_isNamed 110 2 := ⟨gi_V tw_447 tw_344 tw_345 tw_4 tw_346, ⟨⟨_, rfl⟩, by decide +kernel, by decide⟩⟩
theorem ca_ContentType_hexadecimal_82 : ca_V m_ContentType_hexadecimal m_Texts_byteOf 82 2 := ⟨gi_V tw_457 tw_353 tw_354 tw_4 tw_355, ⟨⟨_, rfl⟩, by decide +kernel, by decide⟩⟩
theorem ca_ContentType_hexadecimal_123 : ca_S m_ContentType_hexadecimal m_ContentType_hexDigit 123 1 := ⟨gi_S tw_471 tw_472 tw_12 tw_473, ⟨⟨_, rfl⟩, by decide +kernel, by decide⟩⟩
theorem ca_ContentType_putBytes_54 : ca_V m_ContentType_putBytes m_Row_get 54 1 := ⟨gi_V tw_446 tw_280 tw_281 tw_2 tw_282, ⟨⟨_, rfl⟩, by decide +kernel, by decide⟩⟩
theorem ca_ContentType_putBytes_72 : ca_V m_ContentType_putBytes m_Texts_sizeOf 72 1 := ⟨gi_V tw_456 tw_348 tw_349 tw_4 tw_350, ⟨⟨_, rfl⟩, by decide +kernel, by decide⟩⟩
theorem ca_ContentType_putBytes_82 : ca_V m_ContentType_putBytes m_Texts_byteOf 82 2 := ⟨gi_V tw_457 tw_353 tw_354 tw_4 tw_355, ⟨⟨_, rfl⟩, by decide +kernel, by decide⟩⟩
theorem ca_ContentType_putBytes_117 : ca_V m_ContentType_putBytes m_ContentType_hexadecimal 117 2 := ⟨gi_V tw_467 tw_469 ts_10 tw_12 tw_470, ⟨⟨_, rfl⟩, by decide +kernel, by decide⟩⟩
theorem ca_ContentType_putBytes_120 : ca_V m_ContentType_putBytes m_Texts_put 120 1 := ⟨gi_V tw_478 tw_299 tw_300 tw_4 tw_301, ⟨⟨_, rfl⟩, by decide +kernel, by decide⟩⟩
theorem ca_ContentType_takeInHand_41 : ca_V m_ContentType_takeInHand m_Texts_clear 41 0 := ⟨gi_V tw_440 tw_271 tw_272 tw_4 tw_273, ⟨⟨_, rfl⟩, by decide +kernel, by decide⟩⟩
theorem ca_ContentType_takeInHand_96 : ca_V m_ContentType_takeInHand m_ContentType_firstOf 96 2 := ⟨gi_V tw_441 tw_443 ts_6 tw_12 tw_444, ⟨⟨_, rfl⟩, by decide +kernel, by decide⟩⟩
theorem ca_ContentType_takeInHand_100 : ca_V m_ContentType_takeInHand m_ContentType_putCharset 100 1 := ⟨gi_V tw_448 tw_450 ts_7 tw_12 tw_451, ⟨⟨_, rfl⟩, by decide +kernel, by decide⟩⟩
theorem ca_ContentType_takeInHand_103 : ca_V m_ContentType_takeInHand m_ContentType_putBytes 103 2 := ⟨gi_V tw_463 tw_465 ts_9 tw_12 tw_466, ⟨⟨_, rfl⟩, by decide +kernel, by decide⟩⟩
theorem ca_ContentType_takeInHand_79 : ca_V m_ContentType_takeInHand m_Texts_close 79 0 := ⟨gi_V tw_462 tw_313 tw_314 tw_4 tw_315, ⟨⟨_, rfl⟩, by decide +kernel, by decide⟩⟩
theorem ca_ContentType_takeInHand_72 : ca_V m_ContentType_takeInHand m_Texts_sizeOf 72 1 := ⟨gi_V tw_456 tw_348 tw_349 tw_4 tw_350, ⟨⟨_, rfl⟩, by decide +kernel, by decide⟩⟩
theorem ca_Mail_parameter_161 : ca_V m_Mail_parameter m_ContentType_takeInHand 161 1 := ⟨gi_V tw_436 tw_437 tw_438 tw_12 tw_439, ⟨⟨_, rfl⟩, by decide +kernel, by decide⟩⟩
theorem ca_Mail_parameter_89 : ca_V m_Mail_parameter m_Row_cutTo 89 1 := ⟨gi_V tw_325 tw_275 tw_276 tw_2 tw_277, ⟨⟨_, rfl⟩, by decide +kernel, by decide⟩⟩
theorem ca_Mail_fieldByte_102 : ca_V m_Mail_fieldByte m_Head_texts 102 0 := ⟨gi_V tw_363 tw_364 tw_365 tw_3 tw_366, ⟨⟨_, rfl⟩, by decide +kernel, by decide⟩⟩
theorem ca_Mail_fieldByte_106 : ca_V m_Mail_fieldByte m_Head_textOf 106 2 := ⟨gi_V tw_367 tw_368 tw_369 tw_3 tw_370, ⟨⟨_, rfl⟩, by decide +kernel, by decide⟩⟩
theorem ca_Mail_fieldByte_114 : ca_V m_Mail_fieldByte m_Texts_byteOf 114 2 := ⟨gi_V tw_376 tw_353 tw_354 tw_4 tw_355, ⟨⟨_, rfl⟩, by decide +kernel, by decide⟩⟩
theorem ca_Texts_init_11 : ca_I m_Texts_init m_Row_init 11 0 := ⟨gi_W tw_35, ⟨⟨_, rfl⟩, by decide +kernel, by decide⟩, rfl, rfl, List.mem_cons_of_mem _ tw_2, List.mem_cons_of_mem _ tw_58, List.mem_cons_of_mem _ tw_34⟩
theorem ca_Texts_init_21 : ca_V m_Texts_init m_Row_add 21 1 := ⟨gi_V tw_59 tw_60 tw_61 tw_2 tw_62, ⟨⟨_, rfl⟩, by decide +kernel, by decide⟩⟩
theorem ca_Words_init_11 : ca_I m_Words_init m_Texts_init 11 0 := ⟨gi_W tw_55, ⟨⟨_, rfl⟩, by decide +kernel, by decide⟩, rfl, rfl, List.mem_cons_of_mem _ tw_4, List.mem_cons_of_mem _ tw_103, List.mem_cons_of_mem _ tw_54⟩
theorem ca_Words_init_20 : ca_I m_Words_init m_Row_init 20 0 := ⟨gi_W tw_35, ⟨⟨_, rfl⟩, by decide +kernel, by decide⟩, rfl, rfl, List.mem_cons_of_mem _ tw_2, List.mem_cons_of_mem _ tw_105, List.mem_cons_of_mem _ tw_34⟩
theorem ca_ContentType_init_17 : ca_I m_ContentType_init m_Texts_init 17 0 := ⟨gi_W tw_55, ⟨⟨_, rfl⟩, by decide +kernel, by decide⟩, rfl, rfl, List.mem_cons_of_mem _ tw_4, List.mem_cons_of_mem _ tw_191, List.mem_cons_of_mem _ tw_54⟩
theorem ca_ContentType_init_30 : ca_I m_ContentType_init m_Row_init 30 0 := ⟨gi_W tw_35, ⟨⟨_, rfl⟩, by decide +kernel, by decide⟩, rfl, rfl, List.mem_cons_of_mem _ tw_2, List.mem_cons_of_mem _ tw_193, List.mem_cons_of_mem _ tw_34⟩
theorem ca_Addresses_init_17 : ca_I m_Addresses_init m_Texts_init 17 0 := ⟨gi_W tw_55, ⟨⟨_, rfl⟩, by decide +kernel, by decide⟩, rfl, rfl, List.mem_cons_of_mem _ tw_4, List.mem_cons_of_mem _ tw_131, List.mem_cons_of_mem _ tw_54⟩
theorem ca_Addresses_init_24 : ca_I m_Addresses_init m_Row_init 24 0 := ⟨gi_W tw_35, ⟨⟨_, rfl⟩, by decide +kernel, by decide⟩, rfl, rfl, List.mem_cons_of_mem _ tw_2, List.mem_cons_of_mem _ tw_133, List.mem_cons_of_mem _ tw_34⟩
theorem ca_Head_init_11 : ca_I m_Head_init m_Texts_init 11 0 := ⟨gi_W tw_55, ⟨⟨_, rfl⟩, by decide +kernel, by decide⟩, rfl, rfl, List.mem_cons_of_mem _ tw_4, List.mem_cons_of_mem _ tw_53, List.mem_cons_of_mem _ tw_54⟩
theorem ca_Identities_init_11 : ca_I m_Identities_init m_Texts_init 11 0 := ⟨gi_W tw_55, ⟨⟨_, rfl⟩, by decide +kernel, by decide⟩, rfl, rfl, List.mem_cons_of_mem _ tw_4, List.mem_cons_of_mem _ tw_166, List.mem_cons_of_mem _ tw_54⟩
theorem ca_Mail_init_15 : ca_I m_Mail_init m_Row_init 15 0 := ⟨gi_W tw_35, ⟨⟨_, rfl⟩, by decide +kernel, by decide⟩, rfl, rfl, List.mem_cons_of_mem _ tw_2, List.mem_cons_of_mem _ tw_33, List.mem_cons_of_mem _ tw_34⟩
theorem ca_Mail_init_22 : ca_I m_Mail_init m_Head_init 22 0 := ⟨gi_W tw_49, ⟨⟨_, rfl⟩, by decide +kernel, by decide⟩, rfl, rfl, List.mem_cons_of_mem _ tw_3, List.mem_cons_of_mem _ tw_47, List.mem_cons_of_mem _ tw_48⟩
theorem ca_Mail_init_29 : ca_I m_Mail_init m_Words_init 29 0 := ⟨gi_W tw_100, ⟨⟨_, rfl⟩, by decide +kernel, by decide⟩, rfl, rfl, List.mem_cons_of_mem _ tw_8, List.mem_cons_of_mem _ tw_98, List.mem_cons_of_mem _ tw_99⟩
theorem ca_Mail_init_36 : ca_I m_Mail_init m_Addresses_init 36 1 := ⟨gi_W tw_128, ⟨⟨_, rfl⟩, by decide +kernel, by decide⟩, rfl, rfl, List.mem_cons_of_mem _ tw_9, List.mem_cons_of_mem _ tw_126, List.mem_cons_of_mem _ tw_127⟩
theorem ca_Mail_init_45 : ca_I m_Mail_init m_Identities_init 45 0 := ⟨gi_W tw_163, ⟨⟨_, rfl⟩, by decide +kernel, by decide⟩, rfl, rfl, List.mem_cons_of_mem _ tw_10, List.mem_cons_of_mem _ tw_161, List.mem_cons_of_mem _ tw_162⟩
theorem ca_Mail_init_52 : ca_I m_Mail_init m_DateReader_init 52 1 := ⟨gi_W tw_175, ⟨⟨_, rfl⟩, by decide +kernel, by decide⟩, rfl, rfl, List.mem_cons_of_mem _ tw_11, List.mem_cons_of_mem _ tw_173, List.mem_cons_of_mem _ tw_174⟩
theorem ca_Mail_init_59 : ca_I m_Mail_init m_ContentType_init 59 1 := ⟨gi_W tw_188, ⟨⟨_, rfl⟩, by decide +kernel, by decide⟩, rfl, rfl, List.mem_cons_of_mem _ tw_12, List.mem_cons_of_mem _ tw_186, List.mem_cons_of_mem _ tw_187⟩
theorem ca_Mail_init_66 : ca_I m_Mail_init m_Texts_init 66 0 := ⟨gi_W tw_55, ⟨⟨_, rfl⟩, by decide +kernel, by decide⟩, rfl, rfl, List.mem_cons_of_mem _ tw_4, List.mem_cons_of_mem _ tw_217, List.mem_cons_of_mem _ tw_54⟩
theorem ca_Model_find_133 : ca_S m_Model_find m_Model_small 133 1 := ⟨gi_S tw_1100 tw_1101 tw_13 tw_1102, ⟨⟨_, rfl⟩, by decide +kernel, by decide⟩⟩
theorem ca_Model_isName_197 : ca_V m_Model_isName m_Model_next 197 2 := ⟨gi_V tw_1180 tw_1182 ts_61 tw_13 tw_1183, ⟨⟨_, rfl⟩, by decide +kernel, by decide⟩⟩
theorem ca_Model_isName_200 : ca_V m_Model_isName m_Model_is 200 2 := ⟨gi_V tw_1168 tw_1170 ts_58 tw_13 tw_1171, ⟨⟨_, rfl⟩, by decide +kernel, by decide⟩⟩
theorem ca_Model_addWord_191 : ca_V m_Model_addWord m_Model_add 191 2 := ⟨gi_V tw_1199 tw_1201 ts_65 tw_13 tw_1202, ⟨⟨_, rfl⟩, by decide +kernel, by decide⟩⟩
theorem ca_Model_makeName_204 : ca_V m_Model_makeName m_Model_beginPart 204 1 := ⟨gi_V tw_1188 tw_1190 ts_63 tw_13 tw_1191, ⟨⟨_, rfl⟩, by decide +kernel, by decide⟩⟩
theorem ca_Model_makeName_197 : ca_V m_Model_makeName m_Model_next 197 2 := ⟨gi_V tw_1180 tw_1182 ts_61 tw_13 tw_1183, ⟨⟨_, rfl⟩, by decide +kernel, by decide⟩⟩
theorem ca_Model_makeName_200 : ca_V m_Model_makeName m_Model_is 200 2 := ⟨gi_V tw_1168 tw_1170 ts_58 tw_13 tw_1171, ⟨⟨_, rfl⟩, by decide +kernel, by decide⟩⟩
theorem ca_Model_makeName_191 : ca_V m_Model_makeName m_Model_add 191 2 := ⟨gi_V tw_1199 tw_1201 ts_65 tw_13 tw_1202, ⟨⟨_, rfl⟩, by decide +kernel, by decide⟩⟩
theorem ca_Model_makeName_207 : ca_V m_Model_makeName m_Model_addWord 207 2 := ⟨gi_V tw_1203 tw_1205 ts_66 tw_13 tw_1206, ⟨⟨_, rfl⟩, by decide +kernel, by decide⟩⟩
theorem ca_Model_makeName_210 : ca_V m_Model_makeName m_Model_endPart 210 1 := ⟨gi_V tw_1207 tw_1209 ts_67 tw_13 tw_1210, ⟨⟨_, rfl⟩, by decide +kernel, by decide⟩⟩
theorem ca_Model_beginGroup_233 : ca_V m_Model_beginGroup m_Model_isName 233 2 := ⟨gi_V tw_1176 tw_1178 ts_60 tw_13 tw_1179, ⟨⟨_, rfl⟩, by decide +kernel, by decide⟩⟩
theorem ca_Model_beginGroup_197 : ca_V m_Model_beginGroup m_Model_next 197 2 := ⟨gi_V tw_1180 tw_1182 ts_61 tw_13 tw_1183, ⟨⟨_, rfl⟩, by decide +kernel, by decide⟩⟩
theorem ca_Model_beginGroup_239 : ca_V m_Model_beginGroup m_Model_makeName 239 3 := ⟨gi_V tw_1184 tw_1186 ts_62 tw_13 tw_1187, ⟨⟨_, rfl⟩, by decide +kernel, by decide⟩⟩
theorem ca_Model_beginGroup_204 : ca_V m_Model_beginGroup m_Model_beginPart 204 1 := ⟨gi_V tw_1188 tw_1190 ts_63 tw_13 tw_1191, ⟨⟨_, rfl⟩, by decide +kernel, by decide⟩⟩
theorem ca_Model_beginGroup_210 : ca_V m_Model_beginGroup m_Model_endPart 210 1 := ⟨gi_V tw_1207 tw_1209 ts_67 tw_13 tw_1210, ⟨⟨_, rfl⟩, by decide +kernel, by decide⟩⟩
theorem ca_Model_rowEnd_197 : ca_V m_Model_rowEnd m_Model_next 197 2 := ⟨gi_V tw_1180 tw_1182 ts_61 tw_13 tw_1183, ⟨⟨_, rfl⟩, by decide +kernel, by decide⟩⟩
theorem ca_Model_rowEnd_213 : ca_V m_Model_rowEnd m_Model_isRowWord 213 3 := ⟨gi_V tw_1227 tw_1229 ts_72 tw_13 tw_1230, ⟨⟨_, rfl⟩, by decide +kernel, by decide⟩⟩
theorem ca_Model_rowEnd_200 : ca_V m_Model_rowEnd m_Model_is 200 2 := ⟨gi_V tw_1168 tw_1170 ts_58 tw_13 tw_1171, ⟨⟨_, rfl⟩, by decide +kernel, by decide⟩⟩
theorem ca_Model_isSpec_217 : ca_V m_Model_isSpec m_Model_rowEnd 217 3 := ⟨gi_V tw_1223 tw_1225 ts_71 tw_13 tw_1226, ⟨⟨_, rfl⟩, by decide +kernel, by decide⟩⟩
theorem ca_Model_isSpec_197 : ca_V m_Model_isSpec m_Model_next 197 2 := ⟨gi_V tw_1180 tw_1182 ts_61 tw_13 tw_1183, ⟨⟨_, rfl⟩, by decide +kernel, by decide⟩⟩
theorem ca_Model_isSpec_200 : ca_V m_Model_isSpec m_Model_is 200 2 := ⟨gi_V tw_1168 tw_1170 ts_58 tw_13 tw_1171, ⟨⟨_, rfl⟩, by decide +kernel, by decide⟩⟩
theorem ca_Model_behindRoute_197 : ca_V m_Model_behindRoute m_Model_next 197 2 := ⟨gi_V tw_1180 tw_1182 ts_61 tw_13 tw_1183, ⟨⟨_, rfl⟩, by decide +kernel, by decide⟩⟩
theorem ca_Model_behindRoute_200 : ca_V m_Model_behindRoute m_Model_is 200 2 := ⟨gi_V tw_1168 tw_1170 ts_58 tw_13 tw_1171, ⟨⟨_, rfl⟩, by decide +kernel, by decide⟩⟩
theorem ca_Model_makeWords_204 : ca_V m_Model_makeWords m_Model_beginPart 204 1 := ⟨gi_V tw_1188 tw_1190 ts_63 tw_13 tw_1191, ⟨⟨_, rfl⟩, by decide +kernel, by decide⟩⟩
theorem ca_Model_makeWords_197 : ca_V m_Model_makeWords m_Model_next 197 2 := ⟨gi_V tw_1180 tw_1182 ts_61 tw_13 tw_1183, ⟨⟨_, rfl⟩, by decide +kernel, by decide⟩⟩
theorem ca_Model_makeWords_191 : ca_V m_Model_makeWords m_Model_add 191 2 := ⟨gi_V tw_1199 tw_1201 ts_65 tw_13 tw_1202, ⟨⟨_, rfl⟩, by decide +kernel, by decide⟩⟩
theorem ca_Model_makeWords_207 : ca_V m_Model_makeWords m_Model_addWord 207 2 := ⟨gi_V tw_1203 tw_1205 ts_66 tw_13 tw_1206, ⟨⟨_, rfl⟩, by decide +kernel, by decide⟩⟩
theorem ca_Model_makeWords_210 : ca_V m_Model_makeWords m_Model_endPart 210 1 := ⟨gi_V tw_1207 tw_1209 ts_67 tw_13 tw_1210, ⟨⟨_, rfl⟩, by decide +kernel, by decide⟩⟩
theorem ca_Model_makeComment_197 : ca_V m_Model_makeComment m_Model_next 197 2 := ⟨gi_V tw_1180 tw_1182 ts_61 tw_13 tw_1183, ⟨⟨_, rfl⟩, by decide +kernel, by decide⟩⟩
theorem ca_Model_makeComment_204 : ca_V m_Model_makeComment m_Model_beginPart 204 1 := ⟨gi_V tw_1188 tw_1190 ts_63 tw_13 tw_1191, ⟨⟨_, rfl⟩, by decide +kernel, by decide⟩⟩
theorem ca_Model_makeComment_207 : ca_V m_Model_makeComment m_Model_addWord 207 2 := ⟨gi_V tw_1203 tw_1205 ts_66 tw_13 tw_1206, ⟨⟨_, rfl⟩, by decide +kernel, by decide⟩⟩
theorem ca_Model_makeComment_210 : ca_V m_Model_makeComment m_Model_endPart 210 1 := ⟨gi_V tw_1207 tw_1209 ts_67 tw_13 tw_1210, ⟨⟨_, rfl⟩, by decide +kernel, by decide⟩⟩
theorem ca_Model_takeMailbox_197 : ca_V m_Model_takeMailbox m_Model_next 197 2 := ⟨gi_V tw_1180 tw_1182 ts_61 tw_13 tw_1183, ⟨⟨_, rfl⟩, by decide +kernel, by decide⟩⟩
theorem ca_Model_takeMailbox_200 : ca_V m_Model_takeMailbox m_Model_is 200 2 := ⟨gi_V tw_1168 tw_1170 ts_58 tw_13 tw_1171, ⟨⟨_, rfl⟩, by decide +kernel, by decide⟩⟩
theorem ca_Model_takeMailbox_230 : ca_V m_Model_takeMailbox m_Model_behindRoute 230 2 := ⟨gi_V tw_1215 tw_1217 ts_69 tw_13 tw_1218, ⟨⟨_, rfl⟩, by decide +kernel, by decide⟩⟩
theorem ca_Model_takeMailbox_233 : ca_V m_Model_takeMailbox m_Model_isName 233 2 := ⟨gi_V tw_1176 tw_1178 ts_60 tw_13 tw_1179, ⟨⟨_, rfl⟩, by decide +kernel, by decide⟩⟩
theorem ca_Model_takeMailbox_236 : ca_V m_Model_takeMailbox m_Model_isSpec 236 2 := ⟨gi_V tw_1219 tw_1221 ts_70 tw_13 tw_1222, ⟨⟨_, rfl⟩, by decide +kernel, by decide⟩⟩
theorem ca_Model_takeMailbox_239 : ca_V m_Model_takeMailbox m_Model_makeName 239 3 := ⟨gi_V tw_1184 tw_1186 ts_62 tw_13 tw_1187, ⟨⟨_, rfl⟩, by decide +kernel, by decide⟩⟩
theorem ca_Model_takeMailbox_242 : ca_V m_Model_takeMailbox m_Model_makeComment 242 2 := ⟨gi_V tw_1231 tw_1233 ts_73 tw_13 tw_1234, ⟨⟨_, rfl⟩, by decide +kernel, by decide⟩⟩
theorem ca_Model_takeMailbox_245 : ca_V m_Model_takeMailbox m_Model_makeWords 245 3 := ⟨gi_V tw_1235 tw_1237 ts_74 tw_13 tw_1238, ⟨⟨_, rfl⟩, by decide +kernel, by decide⟩⟩
theorem ca_Model_addresses_137 : ca_V m_Model_addresses m_Model_isField 137 1 := ⟨gi_V tw_1107 tw_1109 ts_48 tw_13 tw_1110, ⟨⟨_, rfl⟩, by decide +kernel, by decide⟩⟩
theorem ca_Model_addresses_251 : ca_V m_Model_addresses m_Model_cut 251 2 := ⟨gi_V tw_1129 tw_1131 ts_49 tw_13 tw_1132, ⟨⟨_, rfl⟩, by decide +kernel, by decide⟩⟩
theorem ca_Model_addresses_255 : ca_V m_Model_addresses m_Model_forget 255 3 := ⟨gi_V tw_1164 tw_1166 ts_57 tw_13 tw_1167, ⟨⟨_, rfl⟩, by decide +kernel, by decide⟩⟩
theorem ca_Model_addresses_200 : ca_V m_Model_addresses m_Model_is 200 2 := ⟨gi_V tw_1168 tw_1170 ts_58 tw_13 tw_1171, ⟨⟨_, rfl⟩, by decide +kernel, by decide⟩⟩
theorem ca_Model_addresses_258 : ca_V m_Model_addresses m_Model_beginGroup 258 2 := ⟨gi_V tw_1172 tw_1174 ts_59 tw_13 tw_1175, ⟨⟨_, rfl⟩, by decide +kernel, by decide⟩⟩
theorem ca_Model_addresses_261 : ca_V m_Model_addresses m_Model_takeMailbox 261 4 := ⟨gi_V tw_1211 tw_1213 ts_68 tw_13 tw_1214, ⟨⟨_, rfl⟩, by decide +kernel, by decide⟩⟩
theorem ca_Mail_end_71 : ca_V m_Mail_end m_Row_size 71 0 := ⟨gi_V tw_254 tw_255 tw_256 tw_2 tw_257, ⟨⟨_, rfl⟩, by decide +kernel, by decide⟩⟩
theorem ca_Mail_end_75 : ca_V m_Mail_end m_Row_add 75 1 := ⟨gi_V tw_258 tw_60 tw_61 tw_2 tw_62, ⟨⟨_, rfl⟩, by decide +kernel, by decide⟩⟩
theorem ca_Mail_end_79 : ca_S m_Mail_end m_Arrays_fill 79 2 := ⟨gi_S tw_259 tw_260 tw_5 tw_261, ⟨⟨_, rfl⟩, by decide +kernel, by decide⟩⟩
theorem ca_Mail_at_154 : ca_V m_Mail_at m_Mail_textsFor 154 1 := ⟨gi_V tw_399 tw_401 ts_4 tw_1 tw_402, ⟨⟨_, rfl⟩, by decide +kernel, by decide⟩⟩
theorem ca_Mail_at_158 : ca_V m_Mail_at m_Mail_textFor 158 2 := ⟨gi_V tw_415 tw_417 ts_5 tw_1 tw_418, ⟨⟨_, rfl⟩, by decide +kernel, by decide⟩⟩
theorem ca_Mail_at_114 : ca_V m_Mail_at m_Texts_byteOf 114 2 := ⟨gi_V tw_376 tw_353 tw_354 tw_4 tw_355, ⟨⟨_, rfl⟩, by decide +kernel, by decide⟩⟩
theorem ca_Head_firstNamed_30 : ca_V m_Head_firstNamed m_Head_count 30 0 := ⟨gi_V tw_317 tw_318 tw_319 tw_3 tw_320, ⟨⟨_, rfl⟩, by decide +kernel, by decide⟩⟩
theorem ca_Head_firstNamed_31 : ca_V m_Head_firstNamed m_Texts_isNamed 31 2 := ⟨gi_V tw_343 tw_344 tw_345 tw_4 tw_346, ⟨⟨_, rfl⟩, by decide +kernel, by decide⟩⟩
theorem ca_Mail_find_98 : ca_V m_Mail_find m_Head_firstNamed 98 1 := ⟨gi_V tw_339 tw_340 tw_341 tw_3 tw_342, ⟨⟨_, rfl⟩, by decide +kernel, by decide⟩⟩
theorem ca_Mail_find_89 : ca_V m_Mail_find m_Row_cutTo 89 1 := ⟨gi_V tw_325 tw_275 tw_276 tw_2 tw_277, ⟨⟨_, rfl⟩, by decide +kernel, by decide⟩⟩
theorem ca_Identities_takeBetween_25 : ca_V m_Identities_takeBetween m_Texts_byteOf 25 2 := ⟨gi_V tw_780 tw_353 tw_354 tw_4 tw_355, ⟨⟨_, rfl⟩, by decide +kernel, by decide⟩⟩
theorem ca_Identities_takeBetween_37 : ca_V m_Identities_takeBetween m_Texts_dropOpen 37 0 := ⟨gi_V tw_786 tw_596 tw_597 tw_4 tw_598, ⟨⟨_, rfl⟩, by decide +kernel, by decide⟩⟩
theorem ca_Identities_takeBetween_40 : ca_V m_Identities_takeBetween m_Texts_put 40 1 := ⟨gi_V tw_787 tw_299 tw_300 tw_4 tw_301, ⟨⟨_, rfl⟩, by decide +kernel, by decide⟩⟩
theorem ca_Identities_takeBetween_44 : ca_V m_Identities_takeBetween m_Texts_close 44 0 := ⟨gi_V tw_788 tw_313 tw_314 tw_4 tw_315, ⟨⟨_, rfl⟩, by decide +kernel, by decide⟩⟩
theorem ca_Identities_readBytes_18 : ca_V m_Identities_readBytes m_Texts_clear 18 0 := ⟨gi_V tw_778 tw_271 tw_272 tw_4 tw_273, ⟨⟨_, rfl⟩, by decide +kernel, by decide⟩⟩
theorem ca_Identities_readBytes_21 : ca_V m_Identities_readBytes m_Texts_sizeOf 21 1 := ⟨gi_V tw_779 tw_348 tw_349 tw_4 tw_350, ⟨⟨_, rfl⟩, by decide +kernel, by decide⟩⟩
theorem ca_Identities_readBytes_25 : ca_V m_Identities_readBytes m_Texts_byteOf 25 2 := ⟨gi_V tw_780 tw_353 tw_354 tw_4 tw_355, ⟨⟨_, rfl⟩, by decide +kernel, by decide⟩⟩
theorem ca_Identities_readBytes_29 : ca_V m_Identities_readBytes m_Identities_takeBetween 29 4 := ⟨gi_V tw_781 tw_783 ts_32 tw_10 tw_784, ⟨⟨_, rfl⟩, by decide +kernel, by decide⟩⟩
theorem ca_Mail_identities_102 : ca_V m_Mail_identities m_Head_texts 102 0 := ⟨gi_V tw_363 tw_364 tw_365 tw_3 tw_366, ⟨⟨_, rfl⟩, by decide +kernel, by decide⟩⟩
theorem ca_Mail_identities_117 : ca_V m_Mail_identities m_Mail_valueOf 117 1 := ⟨gi_V tw_495 tw_497 ts_11 tw_1 tw_498, ⟨⟨_, rfl⟩, by decide +kernel, by decide⟩⟩
theorem ca_Mail_identities_130 : ca_V m_Mail_identities m_Identities_readBytes 130 2 := ⟨gi_V tw_774 tw_775 tw_776 tw_10 tw_777, ⟨⟨_, rfl⟩, by decide +kernel, by decide⟩⟩
theorem ca_Mail_identities_134 : ca_V m_Mail_identities m_Identities_texts 134 0 := ⟨gi_V tw_407 tw_408 tw_409 tw_10 tw_410, ⟨⟨_, rfl⟩, by decide +kernel, by decide⟩⟩
theorem ca_Mail_identities_135 : ca_V m_Mail_identities m_Texts_count 135 0 := ⟨gi_V tw_385 tw_322 tw_323 tw_4 tw_324, ⟨⟨_, rfl⟩, by decide +kernel, by decide⟩⟩
end
section
theorem d_Row_get_0 : decode prog_7_method_3_code 0 = .ok (.iload_n 1, 1) := by decide +kernel
theorem d_Row_get_1 : decode prog_7_method_3_code 1 = .ok (.ifCond .lt 20, 3) := by decide +kernel
theorem d_Row_get_4 : decode prog_7_method_3_code 4 = .ok (.iload_n 1, 1) := by decide +kernel
theorem d_Row_get_5 : decode prog_7_method_3_code 5 = .ok (.aload_n 0, 1) := by decide +kernel
theorem d_Row_get_6 : decode prog_7_method_3_code 6 = .ok (.getfield 15, 3) := by decide +kernel
theorem d_Row_get_9 : decode prog_7_method_3_code 9 = .ok (.if_icmp .ge 12, 3) := by decide +kernel
theorem d_Row_get_12 : decode prog_7_method_3_code 12 = .ok (.aload_n 0, 1) := by decide +kernel
theorem d_Row_get_13 : decode prog_7_method_3_code 13 = .ok (.getfield 11, 3) := by decide +kernel
theorem d_Row_get_16 : decode prog_7_method_3_code 16 = .ok (.iload_n 1, 1) := by decide +kernel
theorem d_Row_get_17 : decode prog_7_method_3_code 17 = .ok (.iaload, 1) := by decide +kernel
theorem d_Row_get_18 : decode prog_7_method_3_code 18 = .ok (.goto 4, 3) := by decide +kernel
theorem d_Row_get_21 : decode prog_7_method_3_code 21 = .ok (.iconst (-1), 1) := by decide +kernel
theorem d_Row_get_22 : decode prog_7_method_3_code 22 = .ok (.ireturn, 1) := by decide +kernel
theorem d_Row_size_0 : decode prog_7_method_2_code 0 = .ok (.aload_n 0, 1) := by decide +kernel
theorem d_Row_size_1 : decode prog_7_method_2_code 1 = .ok (.getfield 15, 3) := by decide +kernel
theorem d_Row_size_4 : decode prog_7_method_2_code 4 = .ok (.ireturn, 1) := by decide +kernel
theorem d_Row_add_0 : decode prog_7_method_4_code 0 = .ok (.aload_n 0, 1) := by decide +kernel
theorem d_Row_add_1 : decode prog_7_method_4_code 1 = .ok (.getfield 15, 3) := by decide +kernel
theorem d_Row_add_4 : decode prog_7_method_4_code 4 = .ok (.sipush 4096, 3) := by decide +kernel
theorem d_Row_add_7 : decode prog_7_method_4_code 7 = .ok (.if_icmp .lt 4, 3) := by decide +kernel
theorem d_Row_add_10 : decode prog_7_method_4_code 10 = .ok (.return_, 1) := by decide +kernel
theorem d_Row_add_11 : decode prog_7_method_4_code 11 = .ok (.aload_n 0, 1) := by decide +kernel
theorem d_Row_add_12 : decode prog_7_method_4_code 12 = .ok (.getfield 15, 3) := by decide +kernel
theorem d_Row_add_15 : decode prog_7_method_4_code 15 = .ok (.aload_n 0, 1) := by decide +kernel
theorem d_Row_add_16 : decode prog_7_method_4_code 16 = .ok (.getfield 11, 3) := by decide +kernel
theorem d_Row_add_19 : decode prog_7_method_4_code 19 = .ok (.arraylength, 1) := by decide +kernel
theorem d_Row_add_20 : decode prog_7_method_4_code 20 = .ok (.if_icmp .lt 20, 3) := by decide +kernel
theorem d_Row_add_23 : decode prog_7_method_4_code 23 = .ok (.aload_n 0, 1) := by decide +kernel
theorem d_Row_add_24 : decode prog_7_method_4_code 24 = .ok (.aload_n 0, 1) := by decide +kernel
theorem d_Row_add_25 : decode prog_7_method_4_code 25 = .ok (.getfield 11, 3) := by decide +kernel
theorem d_Row_add_28 : decode prog_7_method_4_code 28 = .ok (.iconst 2, 1) := by decide +kernel
theorem d_Row_add_29 : decode prog_7_method_4_code 29 = .ok (.aload_n 0, 1) := by decide +kernel
theorem d_Row_add_30 : decode prog_7_method_4_code 30 = .ok (.getfield 15, 3) := by decide +kernel
theorem d_Row_add_33 : decode prog_7_method_4_code 33 = .ok (.imul, 1) := by decide +kernel
theorem d_Row_add_34 : decode prog_7_method_4_code 34 = .ok (.invokestatic 19, 3) := by decide +kernel
theorem d_Row_add_37 : decode prog_7_method_4_code 37 = .ok (.putfield 11, 3) := by decide +kernel
theorem d_Row_add_40 : decode prog_7_method_4_code 40 = .ok (.aload_n 0, 1) := by decide +kernel
theorem d_Row_add_41 : decode prog_7_method_4_code 41 = .ok (.getfield 11, 3) := by decide +kernel
theorem d_Row_add_44 : decode prog_7_method_4_code 44 = .ok (.aload_n 0, 1) := by decide +kernel
theorem d_Row_add_45 : decode prog_7_method_4_code 45 = .ok (.getfield 15, 3) := by decide +kernel
theorem d_Row_add_48 : decode prog_7_method_4_code 48 = .ok (.iload_n 1, 1) := by decide +kernel
theorem d_Row_add_49 : decode prog_7_method_4_code 49 = .ok (.iastore, 1) := by decide +kernel
theorem d_Row_add_50 : decode prog_7_method_4_code 50 = .ok (.aload_n 0, 1) := by decide +kernel
theorem d_Row_add_51 : decode prog_7_method_4_code 51 = .ok (.dup, 1) := by decide +kernel
theorem d_Row_add_52 : decode prog_7_method_4_code 52 = .ok (.getfield 15, 3) := by decide +kernel
theorem d_Row_add_55 : decode prog_7_method_4_code 55 = .ok (.iconst 1, 1) := by decide +kernel
theorem d_Row_add_56 : decode prog_7_method_4_code 56 = .ok (.iadd, 1) := by decide +kernel
theorem d_Row_add_57 : decode prog_7_method_4_code 57 = .ok (.putfield 15, 3) := by decide +kernel
theorem d_Row_add_60 : decode prog_7_method_4_code 60 = .ok (.return_, 1) := by decide +kernel
theorem d_Row_cutTo_0 : decode prog_7_method_5_code 0 = .ok (.iload_n 1, 1) := by decide +kernel
theorem d_Row_cutTo_1 : decode prog_7_method_5_code 1 = .ok (.ifCond .lt 16, 3) := by decide +kernel
theorem d_Row_cutTo_4 : decode prog_7_method_5_code 4 = .ok (.iload_n 1, 1) := by decide +kernel
theorem d_Row_cutTo_5 : decode prog_7_method_5_code 5 = .ok (.aload_n 0, 1) := by decide +kernel
theorem d_Row_cutTo_6 : decode prog_7_method_5_code 6 = .ok (.getfield 15, 3) := by decide +kernel
theorem d_Row_cutTo_9 : decode prog_7_method_5_code 9 = .ok (.if_icmp .ge 8, 3) := by decide +kernel
theorem d_Row_cutTo_12 : decode prog_7_method_5_code 12 = .ok (.aload_n 0, 1) := by decide +kernel
theorem d_Row_cutTo_13 : decode prog_7_method_5_code 13 = .ok (.iload_n 1, 1) := by decide +kernel
theorem d_Row_cutTo_14 : decode prog_7_method_5_code 14 = .ok (.putfield 15, 3) := by decide +kernel
theorem d_Row_cutTo_17 : decode prog_7_method_5_code 17 = .ok (.return_, 1) := by decide +kernel
theorem d_Row_init_0 : decode prog_7_method_1_code 0 = .ok (.aload_n 0, 1) := by decide +kernel
theorem d_Row_init_1 : decode prog_7_method_1_code 1 = .ok (.invokespecial 3, 3) := by decide +kernel
theorem d_Row_init_4 : decode prog_7_method_1_code 4 = .ok (.aload_n 0, 1) := by decide +kernel
theorem d_Row_init_5 : decode prog_7_method_1_code 5 = .ok (.bipush 16, 2) := by decide +kernel
theorem d_Row_init_7 : decode prog_7_method_1_code 7 = .ok (.newarray .int, 2) := by decide +kernel
theorem d_Row_init_9 : decode prog_7_method_1_code 9 = .ok (.putfield 11, 3) := by decide +kernel
theorem d_Row_init_12 : decode prog_7_method_1_code 12 = .ok (.aload_n 0, 1) := by decide +kernel
theorem d_Row_init_13 : decode prog_7_method_1_code 13 = .ok (.iconst 0, 1) := by decide +kernel
theorem d_Row_init_14 : decode prog_7_method_1_code 14 = .ok (.putfield 15, 3) := by decide +kernel
theorem d_Row_init_17 : decode prog_7_method_1_code 17 = .ok (.return_, 1) := by decide +kernel
end
section
section JDKROWS
variable {G : gl_G} {μ : mt_M} {pc : Nat} {lv : List (Nat × Value)} {rest : List Value} {h : hp_T} {Z : Option Value → hp_T → Prop} {index : Nat}
/-- a walk's cells and slots never pass its room: what is wanted there is nothing -/
theorem ev_pureR {pc2 : Nat} {lv2 : List (Nat × Value)} {st st2 : List Value}
    (hs : ∀ (p : Program) (e : Env) (R : Room) (s : State) (m : MethodId) (args : Array Value) (below : List Frame) (meth : Method) (c : Code), cx_ok G μ p R s m args meth c → ∀ (H : Heap) (locs : List Loc) (cells slots : Nat) (Q : State → Prop) (ls : Array Slot), hp_ok G h H → va_S (gl_A G) s.heap H locs → lv_has ls (mt_n μ) lv → cells ≤ R.cells → slots ≤ R.slots →
      (∀ ls2 : Array Slot, lv_has ls2 (mt_n μ) lv2 → W p (gl_l G) e R s m args below meth c H locs cells slots Q (F0 m pc2 ls2 st2)) → W p (gl_l G) e R s m args below meth c H locs cells slots Q (F0 m pc ls st))
    (k : ev_E G μ pc2 lv2 st2 h Z) : ev_E G μ pc lv st h Z := by
  obtain ⟨o, h', hZ, h1, h2, k⟩ := k
  exact ⟨o, h', hZ, h1, h2, fun p e R s m args below meth c C H locs cells slots ls hO hS hl hc hq => hs p e R s m args below meth c C H locs cells slots _ ls hO hS hl (by omega) (by omega) (fun ls2 hl2 => k p e R s m args below meth c C H locs cells slots ls2 hO hS hl2 hc hq)⟩
theorem ev_mmax {x y : Int32} (hlink : Cond.methodLink (mt_y μ).cls index Lib.Math.max.name ∈ mt_w μ) (hstat : Cond.static Lib.Math.max.name ∈ mt_w μ) (hini : Cond.initialized "java/lang/Math" ∈ mt_w μ) (hcode : Cond.code Lib.Math.max.name Lib.Math.max.code 2 (some .int) ∈ mt_w μ) (hf : 1 ≤ mt_f μ) (hlo : (rest.map fun v => v.category).sum + 13 ≤ mt_l μ) (hd : decode (mt_b μ) pc = .ok (.invokestatic index, 3)) (kk : ev_E G μ (pc + 3) lv (.int (if x < y then y else x) :: rest) h Z) : ev_E G μ pc lv (.int y :: .int x :: rest) h Z := by
  refine ev_pureR (fun p e R s m args below meth c X H locs cells slots Q ls hO hS hl hc hs k => ?_) kk
  obtain ⟨hx, hb, hml, hr, hown, hts, hlocks, hname, hK, hL, hbs, hRf, hRl, hG⟩ := X
  exact va_mmax hx hb (hml.trans hl.1.symm) hown (hts _ hlink) (hts _ hstat) (hts _ hini) (hts _ hcode) (by rw [hRf]; exact hf) (by rw [hRl]; exact hlo) hc hs hd (k ls hl)
theorem ev_mmin {x y : Int32} (hlink : Cond.methodLink (mt_y μ).cls index Lib.Math.min.name ∈ mt_w μ) (hstat : Cond.static Lib.Math.min.name ∈ mt_w μ) (hini : Cond.initialized "java/lang/Math" ∈ mt_w μ) (hcode : Cond.code Lib.Math.min.name Lib.Math.min.code 2 (some .int) ∈ mt_w μ) (hf : 1 ≤ mt_f μ) (hlo : (rest.map fun v => v.category).sum + 13 ≤ mt_l μ) (hd : decode (mt_b μ) pc = .ok (.invokestatic index, 3)) (kk : ev_E G μ (pc + 3) lv (.int (if y < x then y else x) :: rest) h Z) : ev_E G μ pc lv (.int y :: .int x :: rest) h Z := by
  refine ev_pureR (fun p e R s m args below meth c X H locs cells slots Q ls hO hS hl hc hs k => ?_) kk
  obtain ⟨hx, hb, hml, hr, hown, hts, hlocks, hname, hK, hL, hbs, hRf, hRl, hG⟩ := X
  exact va_mmin hx hb (hml.trans hl.1.symm) hown (hts _ hlink) (hts _ hstat) (hts _ hini) (hts _ hcode) (by rw [hRf]; exact hf) (by rw [hRl]; exact hlo) hc hs hd (k ls hl)
/-- System.arraycopy of ints from the one array's begin to the other's begin -/
theorem ev_copyi {a0 a n0 n1 n t0 : Nat} {cI : ClassId} {f g : Nat → Int32} (ht : (gl_t G)[t0]? = some (cI, .int)) (he0 : h.2.2 a0 = some (.inl (cI, n0, .inl f))) (he1 : h.2.2 a = some (.inl (cI, n1, .inl g))) (hn0 : n ≤ n0) (hn1 : n ≤ n1) (hn : n < 2 ^ 31)
    (hlink : Cond.methodLink (mt_y μ).cls index arraycopyName ∈ mt_w μ) (hnat : Cond.native arraycopyName ∈ mt_w μ) (hstat : Cond.static arraycopyName ∈ mt_w μ) (hini : Cond.initialized "java/lang/System" ∈ mt_w μ) (hf : 1 ≤ mt_f μ) (hlo : (rest.map fun v => v.category).sum + (nativeFrameWords "java/lang/System" "arraycopy" 5 + 11) ≤ mt_l μ) (hd : decode (mt_b μ) pc = .ok (.invokestatic index, 3))
    (kk : ev_E G μ (pc + 3) lv rest (hp_up h a (.inl (cI, n1, .inl (va_cpy f g 0 0 n)))) Z) : ev_E G μ pc lv (.int (nI n) :: .int 0 :: .ref a :: .int 0 :: .ref a0 :: rest) h Z := by
  refine ev_step (h2 := hp_up h a (.inl (cI, n1, .inl (va_cpy f g 0 0 n)))) (Nat.le_refl _) (Nat.le_refl _) (fun p e R s m args below meth c X H locs cells slots Q ls hO hS hl _ _ kk => ?_) kk
  obtain ⟨hx, hb, hml, hr, hown, hts, hlocks, hname, hK, hL, hbs, hRf, hRl, hG⟩ := X
  have c0 : (0 : Int32).toNatClampNeg = 0 := by decide
  have cn : (nI n).toNatClampNeg = n := nI_clamp hn
  intro T hT X
  have hc0 : H[a0]? = some (vp_cell cI (n0, .inl f)) := (hO.2 a0 _ he0).1
  have hc1 : H[a]? = some (vp_cell cI (n1, .inl g)) := (hO.2 a _ he1).1
  obtain ⟨-, k0, hk0, cm0, hkk0⟩ := (hK.2 t0 _ ht).1 n0 (fun j => .int (f j))
  obtain ⟨-, k1, hk1, cm1, hkk1⟩ := (hK.2 t0 _ ht).1 n1 (fun j => .int (g j))
  have z0 : (0 : Int32).toInt = 0 := by decide
  have zn : (nI n).toInt = (n : Int) := nI_toInt hn
  obtain ⟨vm', X', step⟩ := X.arraycopy hx hown (hts _ hlink) (hts _ hnat) (hts _ hstat) (hts _ hini) (src := a0) (dst := a) (cs := vp_cell cI (n0, .inl f)) (cd := vp_cell cI (n1, .inl g)) (srcPos := 0) (destPos := 0) (n := nI n) (by rw [hT]; exact hc0) (by rw [hT]; exact hc1)
    (fun _ h => by cases h) (fun _ h => by cases h) (fun h => by cases h) (fun h => by cases h) hk0 hk1 hkk0 hkk1 (by simp [refKind]) (by decide) (by decide) (nI_pos hn)
    (by rw [z0, zn]; show ¬ _ > ((arrV cI n0 (fun j => .int (f j))).slots.size : Int); rw [arrV_size]; omega)
    (by rw [z0, zn]; show ¬ _ > ((arrV cI n1 (fun j => .int (g j))).slots.size : Int); rw [arrV_size]; omega)
    (fun vm₁ _ i hi => by
      rw [cn] at hi
      have e9 : (vp_cell cI (n0, .inl f)).slots.getD ((0 : Int32).toNatClampNeg + i) .null = .int (f ((0 : Int32).toNatClampNeg + i)) := by
        show (arrV cI n0 (fun j => .int (f j))).slots.getD _ _ = _
        rw [Array.getD_eq_getD_getElem?, arrV_read _ _ (by rw [c0]; omega)]
        rfl
      refine ⟨?_, ?_⟩
      · rw [e9]; rfl
      · rw [e9]
        exact trivial)
    (g := F0 m pc ls (.int (nI n) :: .int 0 :: .ref a :: .int 0 :: .ref a0 :: rest)) rfl (by rw [hml]; exact hl.1) (rest := rest) rfl (by rw [hb]; exact hd) (by rw [hRf]; exact hf) (by rw [hRl]; show 2 * 0 + _ + _ ≤ _; omega)
  have e1 : copied (vp_cell cI (n0, .inl f)) (vp_cell cI (n1, .inl g)) 0 0 (nI n) = vp_cell cI (n1, .inl (va_cpy f g (0 : Int32).toNatClampNeg (0 : Int32).toNatClampNeg (nI n).toNatClampNeg)) := va_copied (fun z => .int z) cI cI f g (by rw [c0, cn]; omega)
  rw [c0, cn] at e1
  rw [e1] at X' step
  have hla : a < H.size := (Array.getElem?_eq_some_iff.mp hc1).1
  have hheap : ((T.setVm vm').setCell a (vp_cell cI (n1, .inl (va_cpy f g 0 0 n)))).heap = H.setIfInBounds a (vp_cell cI (n1, .inl (va_cpy f g 0 0 n))) := by rw [← hT]; rfl
  have oq : ∀ q : Nat, q ≠ a → (H.setIfInBounds a (vp_cell cI (n1, .inl (va_cpy f g 0 0 n))))[q]? = H[q]? := fun q hq => by simp [Array.getElem?_setIfInBounds, Ne.symm hq]
  have hba := (hO.2 a _ he1).2
  have fin : ∀ L : List Loc, (∀ q ∈ L, q.base = a) → W p (gl_l G) e R s m args below meth c (H.setIfInBounds a (vp_cell cI (n1, .inl (va_cpy f g 0 0 n)))) (locs ++ L) cells slots Q (F0 m (pc + 3) ls rest) := fun L hL => by
    refine W.cs (show cells = cells + (h.1 - h.1) by omega) (show slots = slots + (h.2.1 - h.2.1) by omega) ?_
    refine kk _ _ ls (hO.set hba (show (H.setIfInBounds a _)[a]? = some _ by simp [Array.getElem?_setIfInBounds, hla]) (by simp) oq) ⟨by simp; exact hS.1, fun q g1 g2 => ?_, fun q hq => ?_⟩ hl
    · rw [oq q (fun e => g2 (by rw [e]; exact hba))]
      exact hS.2.1 q g1 g2
    · rcases List.mem_append.mp hq with z | z
      · exact hS.2.2 q z
      · show gl_b G ≤ q.base
        rw [hL q z]
        exact hba
  obtain ⟨t, a1, b1⟩ := fin _ (fun q hq => by
    obtain ⟨z, -, hz⟩ := List.mem_map.mp hq
    rw [← hz]) _ hheap X'
  exact ⟨t, step t a1, b1⟩
end JDKROWS
end
section
/-! calls by the shape of what comes back; locals restated -/
def lq_all (lv : List (Nat × Value)) : List (Nat × Value) → Prop
  | [] => True
  | q :: l => lq_at lv q.1 = some q.2 ∧ lq_all lv l
theorem lq_all_mem {lv : List (Nat × Value)} : ∀ {l : List (Nat × Value)}, lq_all lv l → ∀ q ∈ l, lq_at lv q.1 = some q.2
  | [], _, _, h => by cases h
  | _ :: _, h, _, hq => by
    rcases List.mem_cons.mp hq with e | e
    · rw [e]; exact h.1
    · exact lq_all_mem h.2 _ e
/-- at a loop's head: the locals by name, in this order -/
theorem ev_as {G : gl_G} {μ : mt_M} {pc : Nat} {lv : List (Nat × Value)} {st : List Value} {h : hp_T} {Z : Option Value → hp_T → Prop} (lv2 : List (Nat × Value)) (hs : lq_all lv lv2) (k : ev_E G μ pc lv2 st h Z) : ev_E G μ pc lv st h Z := ev_lv (lq_all_mem hs) k
/-- answers v, leaves the cells -/
abbrev cv (v : Value) (h : hp_T) : Option Value → hp_T → Prop := fun o h' => o = some v ∧ h' = h
/-- answers nothing, leaves cells with P -/
abbrev cn (P : hp_T → Prop) : Option Value → hp_T → Prop := fun o h' => o = none ∧ P h'
/-- answers a value, leaves cells, with P -/
abbrev cr (P : Value → hp_T → Prop) : Option Value → hp_T → Prop := fun o h' => ∃ v, o = some v ∧ P v h'
section SHAPES
variable {G : gl_G} {μ ν : mt_M} {pc : Nat} {lv : List (Nat × Value)} {h : hp_T} {Z : Option Value → hp_T → Prop} {index n : Nat}
theorem ev_Vv {b ci : Nat} {fs : List Value} {T : u_T} {N : Nat} {v : Value} (As rest : List Value) (F : ca_V μ ν index n) (hd : decode (mt_b μ) pc = .ok (.invokevirtual index, 3)) (hc : vwCl[ci]? = some ((mt_y ν).cls, T, N)) (he : h.2.2 b = some (.inr (ci, fs))) (hn : As.length = n) (hroom : (rest.map fun v => v.category).sum ≤ 8) (hM : ct_E G ν (.ref b :: As) h (cv v h)) (kk : ev_E G μ (pc + 3) lv (v :: rest) h Z) : ev_E G μ pc lv (As.reverse ++ .ref b :: rest) h Z :=
  ev_callV F hd hc he hn hroom hM (fun o h1 z => by obtain ⟨rfl, rfl⟩ := z; exact kk)
theorem ev_Vn {b ci : Nat} {fs : List Value} {T : u_T} {N : Nat} {P : hp_T → Prop} (As rest : List Value) (F : ca_V μ ν index n) (hd : decode (mt_b μ) pc = .ok (.invokevirtual index, 3)) (hc : vwCl[ci]? = some ((mt_y ν).cls, T, N)) (he : h.2.2 b = some (.inr (ci, fs))) (hn : As.length = n) (hroom : (rest.map fun v => v.category).sum ≤ 8) (hM : ct_E G ν (.ref b :: As) h (cn P)) (kk : ∀ h1, P h1 → ev_E G μ (pc + 3) lv rest h1 Z) : ev_E G μ pc lv (As.reverse ++ .ref b :: rest) h Z :=
  ev_callV F hd hc he hn hroom hM (fun o h1 z => by obtain ⟨rfl, z⟩ := z; exact kk h1 z)
theorem ev_Vr {b ci : Nat} {fs : List Value} {T : u_T} {N : Nat} {P : Value → hp_T → Prop} (As rest : List Value) (F : ca_V μ ν index n) (hd : decode (mt_b μ) pc = .ok (.invokevirtual index, 3)) (hc : vwCl[ci]? = some ((mt_y ν).cls, T, N)) (he : h.2.2 b = some (.inr (ci, fs))) (hn : As.length = n) (hroom : (rest.map fun v => v.category).sum ≤ 8) (hM : ct_E G ν (.ref b :: As) h (cr P)) (kk : ∀ v h1, P v h1 → ev_E G μ (pc + 3) lv (v :: rest) h1 Z) : ev_E G μ pc lv (As.reverse ++ .ref b :: rest) h Z :=
  ev_callV F hd hc he hn hroom hM (fun o h1 z => by obtain ⟨v, rfl, z⟩ := z; exact kk v h1 z)
theorem ev_Sv {v : Value} (As rest : List Value) (F : ca_S μ ν index n) (hd : decode (mt_b μ) pc = .ok (.invokestatic index, 3)) (hn : As.length = n) (hroom : (rest.map fun v => v.category).sum ≤ 8) (hM : ct_E G ν As h (cv v h)) (kk : ev_E G μ (pc + 3) lv (v :: rest) h Z) : ev_E G μ pc lv (As.reverse ++ rest) h Z :=
  ev_callS F hd hn hroom hM (fun o h1 z => by obtain ⟨rfl, rfl⟩ := z; exact kk)
theorem ev_Sn {P : hp_T → Prop} (As rest : List Value) (F : ca_S μ ν index n) (hd : decode (mt_b μ) pc = .ok (.invokestatic index, 3)) (hn : As.length = n) (hroom : (rest.map fun v => v.category).sum ≤ 8) (hM : ct_E G ν As h (cn P)) (kk : ∀ h1, P h1 → ev_E G μ (pc + 3) lv rest h1 Z) : ev_E G μ pc lv (As.reverse ++ rest) h Z :=
  ev_callS F hd hn hroom hM (fun o h1 z => by obtain ⟨rfl, z⟩ := z; exact kk h1 z)
theorem ev_Sr {P : Value → hp_T → Prop} (As rest : List Value) (F : ca_S μ ν index n) (hd : decode (mt_b μ) pc = .ok (.invokestatic index, 3)) (hn : As.length = n) (hroom : (rest.map fun v => v.category).sum ≤ 8) (hM : ct_E G ν As h (cr P)) (kk : ∀ v h1, P v h1 → ev_E G μ (pc + 3) lv (v :: rest) h1 Z) : ev_E G μ pc lv (As.reverse ++ rest) h Z :=
  ev_callS F hd hn hroom hM (fun o h1 z => by obtain ⟨v, rfl, z⟩ := z; exact kk v h1 z)
theorem ev_In {b : Nat} {P : hp_T → Prop} (As rest : List Value) (F : ca_I μ ν index n) (hd : decode (mt_b μ) pc = .ok (.invokespecial index, 3)) (hn : As.length = n) (hroom : (rest.map fun v => v.category).sum ≤ 8) (hM : ct_E G ν (.ref b :: As) h (cn P)) (kk : ∀ h1, P h1 → ev_E G μ (pc + 3) lv rest h1 Z) : ev_E G μ pc lv (As.reverse ++ .ref b :: rest) h Z :=
  ev_callI F hd hn hroom hM (fun o h1 z => by obtain ⟨rfl, z⟩ := z; exact kk h1 z)
end SHAPES
end
section
/-! Row: a row of numbers in an array that grows -/
/-- a Row at a, its array at c of cap cells, holding xs -/
def rw_at (cI : ClassId) (h : hp_T) (a c cap : Nat) (xs : List Int32) : Prop :=
  h.2.2 a = some (.inr (1, [.ref c, .int (nI xs.length)])) ∧ ∃ f : Nat → Int32, h.2.2 c = some (.inl (cI, cap, .inl f)) ∧ xs.length ≤ cap ∧ cap ≤ 4096 ∧ ∀ j, j < xs.length → f j = xs.getD j (-1)
/-- what get answers -/
def rg (xs : List Int32) (i : Int32) : Int32 := if i < 0 then -1 else xs.getD i.toNatClampNeg (-1)
theorem rg_neg {xs : List Int32} {i : Int32} (h : i < 0) : rg xs i = -1 := if_pos h
theorem rg_nat {xs : List Int32} {j : Nat} (h : j < 2 ^ 31) : rg xs (nI j) = xs.getD j (-1) := by
  rw [rg, if_neg (nI_pos h), nI_clamp h]
theorem rg_big {xs : List Int32} {i : Int32} (h0 : ¬ i < 0) (h : nI xs.length ≤ i) (hl : xs.length < 2 ^ 31) : rg xs i = -1 := by
  obtain ⟨j, hj, rfl⟩ := nI_of h0
  rw [rg_nat hj]
  have := (nI_leI hl hj).mp h
  rw [List.getD_eq_getElem?_getD, List.getElem?_eq_none (by omega)]
  rfl
section ROW
variable {G : gl_G} {cI : ClassId}
theorem c_Row_size {h : hp_T} {a : Nat} {r x : Value} {n : Int32} (hA : h.2.2 a = some (.inr (1, [r, .int n]))) : ct_E G m_Row_size [.ref a] h (cv (.int n) h) := by
  refine ct_of (ws' := tb_all) rfl rfl (Nat.le_of_ble_eq_true rfl) ?_
  refine ev_aload_n d_Row_size_0 rfl rfl ?_
  refine ev_get (fa_Row_15 rfl rfl) d_Row_size_1 hA rfl ?_
  refine ev_iret d_Row_size_4 rfl ?_
  exact ⟨rfl, rfl⟩
theorem c_Row_get (hT : (gl_t G)[0]? = some (cI, .int)) {h : hp_T} {a c cap : Nat} {xs : List Int32} (hr : rw_at cI h a c cap xs) (i : Int32) : ct_E G m_Row_get [.ref a, .int i] h (cv (.int (rg xs i)) h) := by
  obtain ⟨hA, f, hC, hle, hcap, hf⟩ := hr
  have hl : xs.length < 2 ^ 31 := by omega
  refine ct_of (ws' := tb_all) rfl rfl (Nat.le_of_ble_eq_true rfl) ?_
  refine ev_iload_n d_Row_get_0 rfl rfl ?_
  refine ev_if_lt (tgt := 21) d_Row_get_1 (by decide) (fun c_1 => ?_) (fun c_1 => ?_)
  · refine ev_iconst (v := (-1)) d_Row_get_21 (by decide) ?_
    refine ev_iret d_Row_get_22 rfl ?_
    rw [rg_neg c_1]
    exact ⟨rfl, rfl⟩
  · refine ev_iload_n d_Row_get_4 rfl rfl ?_
    refine ev_aload_n d_Row_get_5 rfl rfl ?_
    refine ev_get (fa_Row_15 rfl rfl) d_Row_get_6 hA rfl ?_
    refine ev_icmp_ge (tgt := 21) d_Row_get_9 (by decide) (fun c_9 => ?_) (fun c_9 => ?_)
    · refine ev_iconst (v := (-1)) d_Row_get_21 (by decide) ?_
      refine ev_iret d_Row_get_22 rfl ?_
      rw [rg_big c_1 c_9 hl]
      exact ⟨rfl, rfl⟩
    · obtain ⟨j, hj, rfl, -, hjc, -⟩ := pk_mu c_1 c_9 hl
      have hin : vp_in (nI j) cap := vp_in_nI (by omega) (by omega)
      refine ev_aload_n d_Row_get_12 rfl rfl ?_
      refine ev_get (fa_Row_11 rfl rfl) d_Row_get_13 hA rfl ?_
      refine ev_iload_n d_Row_get_16 rfl rfl ?_
      refine ev_iald hT hC hin d_Row_get_17 ?_
      refine ev_goto (tgt := 22) d_Row_get_18 (by decide) ?_
      refine ev_iret d_Row_get_22 rfl ?_
      rw [hjc, hf j hj, rg_nat (by omega)]
      exact ⟨rfl, rfl⟩
theorem c_Row_cutTo {h : hp_T} {a c cap : Nat} {xs : List Int32} (hr : rw_at cI h a c cap xs) (i : Int32) : ct_E G m_Row_cutTo [.ref a, .int i] h (cn (fun h' => (i < 0 ∨ nI xs.length ≤ i) ∧ h' = h ∨ ∃ j : Nat, j < xs.length ∧ i = nI j ∧ h' = hp_up h a (.inr (1, [.ref c, .int (nI j)])))) := by
  obtain ⟨hA, f, hC, hle, hcap, hf⟩ := hr
  have hl : xs.length < 2 ^ 31 := by omega
  refine ct_of (ws' := tb_all) rfl rfl (Nat.le_of_ble_eq_true rfl) ?_
  refine ev_iload_n d_Row_cutTo_0 rfl rfl ?_
  refine ev_if_lt (tgt := 17) d_Row_cutTo_1 (by decide) (fun c_1 => ?_) (fun c_1 => ?_)
  · refine ev_vret d_Row_cutTo_17 rfl ?_
    exact ⟨rfl, Or.inl ⟨Or.inl c_1, rfl⟩⟩
  · refine ev_iload_n d_Row_cutTo_4 rfl rfl ?_
    refine ev_aload_n d_Row_cutTo_5 rfl rfl ?_
    refine ev_get (fa_Row_15 rfl rfl) d_Row_cutTo_6 hA rfl ?_
    refine ev_icmp_ge (tgt := 17) d_Row_cutTo_9 (by decide) (fun c_9 => ?_) (fun c_9 => ?_)
    · refine ev_vret d_Row_cutTo_17 rfl ?_
      exact ⟨rfl, Or.inl ⟨Or.inr c_9, rfl⟩⟩
    · obtain ⟨j, hj, rfl, -, hjc, -⟩ := pk_mu c_1 c_9 hl
      refine ev_aload_n d_Row_cutTo_12 rfl rfl ?_
      refine ev_iload_n d_Row_cutTo_13 rfl rfl ?_
      refine ev_put (fp_Row_15 rfl rfl) d_Row_cutTo_14 hA (Nat.le_of_ble_eq_true rfl) rfl rfl ?_
      refine ev_vret d_Row_cutTo_17 rfl ?_
      exact ⟨rfl, Or.inr ⟨j, hj, rfl, rfl⟩⟩
end ROW
end
section
/-! The reference (class 9): its ints as registers I by their field numbers, its arrays as rows R by the order in which they are made; they lie behind the object at M, in that order. -/
def mo_len : Nat → Nat := fun k => match k with
  | 1 => 20
  | 2 => 1500
  | 3 => 40
  | 4 => 40
  | 5 => 40
  | 6 => 40
  | 7 => 1600
  | 8 => 1501
  | 9 => 1501
  | 10 => 1501
  | 11 => 1501
  | 12 => 1600
  | 13 => 20000
  | 14 => 3
  | 15 => 7
  | 16 => 7000
  | 17 => 7000
  | 18 => 1000
  | 19 => 800
  | 20 => 800
  | 21 => 800
  | 22 => 800
  | 23 => 800
  | 24 => 800
  | 25 => 1600
  | 26 => 1600
  | 27 => 1600
  | _ => 0
def mo_int (k : Nat) : Bool := decide (1 ≤ k) && decide (k ≤ 27) && !decide (k = 22)
def mo_obj (M : Nat) (I : Nat → Int32) : List Value := [.int (I 0), .ref (M + 1), .ref (M + 2), .int (I 3), .int (I 4), .int (I 5), .ref (M + 3), .ref (M + 4), .ref (M + 5), .ref (M + 6), .ref (M + 7), .int (I 11), .int (I 12), .ref (M + 8), .ref (M + 9), .ref (M + 10), .ref (M + 11), .ref (M + 12), .int (I 18), .ref (M + 13), .ref (M + 14), .ref (M + 15), .ref (M + 16), .ref (M + 17), .int (I 24), .int (I 25), .ref (M + 18), .int (I 27), .ref (M + 19), .ref (M + 20), .ref (M + 21), .ref (M + 22), .ref (M + 23), .ref (M + 24), .ref (M + 25), .ref (M + 26), .ref (M + 27), .int (I 37), .int (I 38), .int (I 39), .int (I 40), .int (I 41), .int (I 42), .int (I 43), .int (I 44)]
/-- the cells with the reference laid over h0 -/
def mo_ov (cI cZ : ClassId) (h0 : hp_T) (M : Nat) (I : Nat → Int32) (R : Nat → Nat → Int32) : hp_T := (h0.1, h0.2.1, fun q => if q = M then some (.inr (9, mo_obj M I)) else if M < q ∧ q ≤ M + 27 then some (.inl (if q = M + 22 then cZ else cI, mo_len (q - M), .inl (R (q - M)))) else h0.2.2 q)
theorem mo_self {cI cZ : ClassId} {h0 : hp_T} {M : Nat} {I : Nat → Int32} {R : Nat → Nat → Int32} : (mo_ov cI cZ h0 M I R).2.2 M = some (.inr (9, mo_obj M I)) := if_pos rfl
theorem mo_arr {cI cZ : ClassId} {h0 : hp_T} {M : Nat} {I : Nat → Int32} {R : Nat → Nat → Int32} {k : Nat} (hk : mo_int k = true) : (mo_ov cI cZ h0 M I R).2.2 (M + k) = some (.inl (cI, mo_len k, .inl (R k))) := by
  simp only [mo_int, Bool.and_eq_true, decide_eq_true_eq, Bool.not_eq_true', decide_eq_false_iff_not] at hk
  obtain ⟨⟨h1, h2⟩, h3⟩ := hk
  show (if M + k = M then _ else if M < M + k ∧ M + k ≤ M + 27 then _ else _) = _
  rw [if_neg (by omega), if_pos (by omega), if_neg (by omega), Nat.add_sub_cancel_left]
theorem mo_arrZ {cI cZ : ClassId} {h0 : hp_T} {M : Nat} {I : Nat → Int32} {R : Nat → Nat → Int32} : (mo_ov cI cZ h0 M I R).2.2 (M + 22) = some (.inl (cZ, mo_len 22, .inl (R 22))) := by
  show (if M + 22 = M then _ else if M < M + 22 ∧ M + 22 ≤ M + 27 then _ else _) = _
  rw [if_neg (by omega), if_pos (by omega), if_pos rfl, Nat.add_sub_cancel_left]
theorem mo_out {cI cZ : ClassId} {h0 : hp_T} {M q : Nat} {I : Nat → Int32} {R : Nat → Nat → Int32} (h : q < M ∨ M + 27 < q) : (mo_ov cI cZ h0 M I R).2.2 q = h0.2.2 q := by
  show (if q = M then _ else if M < q ∧ q ≤ M + 27 then _ else _) = _
  rw [if_neg (by omega), if_neg (by omega)]
theorem mo_upI {cI cZ : ClassId} {h0 : hp_T} {M : Nat} {I J : Nat → Int32} {R : Nat → Nat → Int32} : hp_up (mo_ov cI cZ h0 M I R) M (.inr (9, mo_obj M J)) = mo_ov cI cZ h0 M J R := by
  unfold hp_up mo_ov
  congr 2
  funext q
  by_cases hq : q = M
  · simp [hq]
  · simp [hq]
theorem mo_upR {cI cZ : ClassId} {h0 : hp_T} {M : Nat} {I : Nat → Int32} {R : Nat → Nat → Int32} {k : Nat} {f : Nat → Int32} (hk : mo_int k = true) : hp_up (mo_ov cI cZ h0 M I R) (M + k) (.inl (cI, mo_len k, .inl f)) = mo_ov cI cZ h0 M I (va_up R k f) := by
  simp only [mo_int, Bool.and_eq_true, decide_eq_true_eq, Bool.not_eq_true', decide_eq_false_iff_not] at hk
  obtain ⟨⟨h1, h2⟩, h3⟩ := hk
  unfold hp_up mo_ov
  congr 2
  funext q
  by_cases hq : q = M + k
  · subst hq
    rw [if_pos rfl, if_neg (by omega), if_pos (by omega), if_neg (by omega), Nat.add_sub_cancel_left, va_up_self]
  · rw [if_neg hq]
    by_cases hM : q = M
    · simp [hM]
    · by_cases hr : M < q ∧ q ≤ M + 27
      · simp only [if_neg hM, if_pos hr]
        rw [va_up_ne _ _ (show q - M ≠ k by omega)]
      · simp only [if_neg hM, if_neg hr]
theorem mo_upZ {cI cZ : ClassId} {h0 : hp_T} {M : Nat} {I : Nat → Int32} {R : Nat → Nat → Int32} {f : Nat → Int32} : hp_up (mo_ov cI cZ h0 M I R) (M + 22) (.inl (cZ, mo_len 22, .inl f)) = mo_ov cI cZ h0 M I (va_up R 22 f) := by
  unfold hp_up mo_ov
  congr 2
  funext q
  by_cases hq : q = M + 22
  · subst hq
    rw [if_pos rfl, if_neg (by omega), if_pos (by omega), if_pos rfl, Nat.add_sub_cancel_left, va_up_self]
  · rw [if_neg hq]
    by_cases hM : q = M
    · simp [hM]
    · by_cases hr : M < q ∧ q ≤ M + 27
      · simp only [if_neg hM, if_pos hr]
        rw [va_up_ne _ _ (show q - M ≠ 22 by omega)]
      · simp only [if_neg hM, if_neg hr]
section MO
variable {G : gl_G} {μ ν : mt_M} {pc : Nat} {lv : List (Nat × Value)} {st : List Value} {Z : Option Value → hp_T → Prop} {cI cZ : ClassId} {h0 : hp_T} {M : Nat} {I : Nat → Int32} {R : Nat → Nat → Int32} {index : Nat}
theorem mo_get {f : Nat} {v : Value} (F : fa_at μ index 9 f) (hd : decode (mt_b μ) pc = .ok (.getfield index, 3)) (hv : (mo_obj M I)[f]? = some v) (kk : ev_E G μ (pc + 3) lv (v :: st) (mo_ov cI cZ h0 M I R) Z) : ev_E G μ pc lv (.ref M :: st) (mo_ov cI cZ h0 M I R) Z := ev_get F hd mo_self hv kk
theorem mo_put {f : Nat} {x : Int32} {t : FieldType} (F : fa_put μ index 9 f t) (hd : decode (mt_b μ) pc = .ok (.putfield index, 3)) (hl : f < (mo_obj M I).length) (hn : narrow t (.int x) = .int x) (hfit : fits t (.int x) = true) (hs : (mo_obj M I).set f (.int x) = mo_obj M (upd I f x)) (kk : ev_E G μ (pc + 3) lv st (mo_ov cI cZ h0 M (upd I f x) R) Z) : ev_E G μ pc lv (.int x :: .ref M :: st) (mo_ov cI cZ h0 M I R) Z := by
  refine ev_put F hd mo_self hl hn hfit ?_
  rw [hs, mo_upI]
  exact kk
theorem mo_ald (hT : (gl_t G)[0]? = some (cI, .int)) {k : Nat} {i : Int32} (hd : decode (mt_b μ) pc = .ok (.iaload, 1)) (hk : mo_int k = true) (hi : vp_in i (mo_len k)) (kk : ev_E G μ (pc + 1) lv (.int (R k i.toNatClampNeg) :: st) (mo_ov cI cZ h0 M I R) Z) : ev_E G μ pc lv (.int i :: .ref (M + k) :: st) (mo_ov cI cZ h0 M I R) Z := ev_iald hT (mo_arr hk) hi hd kk
theorem mo_ast (hT : (gl_t G)[0]? = some (cI, .int)) {k : Nat} {i x : Int32} (hd : decode (mt_b μ) pc = .ok (.iastore, 1)) (hk : mo_int k = true) (hi : vp_in i (mo_len k)) (kk : ev_E G μ (pc + 1) lv st (mo_ov cI cZ h0 M I (va_up R k (upd (R k) i.toNatClampNeg x))) Z) : ev_E G μ pc lv (.int x :: .int i :: .ref (M + k) :: st) (mo_ov cI cZ h0 M I R) Z := by
  refine ev_iast hT (mo_arr hk) hi hd ?_
  rw [mo_upR hk]
  exact kk
theorem mo_zald (hZ : (gl_t G)[1]? = some (cZ, .boolean)) {i : Int32} (hd : decode (mt_b μ) pc = .ok (.baload, 1)) (hi : vp_in i (mo_len 22)) (kk : ev_E G μ (pc + 1) lv (.int (R 22 i.toNatClampNeg) :: st) (mo_ov cI cZ h0 M I R) Z) : ev_E G μ pc lv (.int i :: .ref (M + 22) :: st) (mo_ov cI cZ h0 M I R) Z := ev_zald hZ mo_arrZ hi hd kk
theorem mo_zast (hZ : (gl_t G)[1]? = some (cZ, .boolean)) {i x : Int32} (hd : decode (mt_b μ) pc = .ok (.bastore, 1)) (hi : vp_in i (mo_len 22)) (kk : ev_E G μ (pc + 1) lv st (mo_ov cI cZ h0 M I (va_up R 22 (upd (R 22) i.toNatClampNeg (vp_nar .boolean x)))) Z) : ev_E G μ pc lv (.int x :: .int i :: .ref (M + 22) :: st) (mo_ov cI cZ h0 M I R) Z := by
  refine ev_zast hZ mo_arrZ hi hd ?_
  rw [mo_upZ]
  exact kk
theorem mo_Vv {v : Value} (As rest : List Value) (F : ca_V μ ν index As.length) (hd : decode (mt_b μ) pc = .ok (.invokevirtual index, 3)) (hc : (mt_y ν).cls = "MailHeadsModel") (hroom : (rest.map fun v => v.category).sum ≤ 8) (hM : ct_E G ν (.ref M :: As) (mo_ov cI cZ h0 M I R) (cv v (mo_ov cI cZ h0 M I R))) (kk : ev_E G μ (pc + 3) lv (v :: rest) (mo_ov cI cZ h0 M I R) Z) : ev_E G μ pc lv (As.reverse ++ .ref M :: rest) (mo_ov cI cZ h0 M I R) Z := ev_Vv (ci := 9) As rest F hd (by rw [hc]; rfl) mo_self rfl hroom hM kk
theorem mo_Vn {P : hp_T → Prop} (As rest : List Value) (F : ca_V μ ν index As.length) (hd : decode (mt_b μ) pc = .ok (.invokevirtual index, 3)) (hc : (mt_y ν).cls = "MailHeadsModel") (hroom : (rest.map fun v => v.category).sum ≤ 8) (hM : ct_E G ν (.ref M :: As) (mo_ov cI cZ h0 M I R) (cn P)) (kk : ∀ h1, P h1 → ev_E G μ (pc + 3) lv rest h1 Z) : ev_E G μ pc lv (As.reverse ++ .ref M :: rest) (mo_ov cI cZ h0 M I R) Z := ev_Vn (ci := 9) As rest F hd (by rw [hc]; rfl) mo_self rfl hroom hM kk
theorem mo_Vr {P : Value → hp_T → Prop} (As rest : List Value) (F : ca_V μ ν index As.length) (hd : decode (mt_b μ) pc = .ok (.invokevirtual index, 3)) (hc : (mt_y ν).cls = "MailHeadsModel") (hroom : (rest.map fun v => v.category).sum ≤ 8) (hM : ct_E G ν (.ref M :: As) (mo_ov cI cZ h0 M I R) (cr P)) (kk : ∀ v h1, P v h1 → ev_E G μ (pc + 3) lv (v :: rest) h1 Z) : ev_E G μ pc lv (As.reverse ++ .ref M :: rest) (mo_ov cI cZ h0 M I R) Z := ev_Vr (ci := 9) As rest F hd (by rw [hc]; rfl) mo_self rfl hroom hM kk
end MO
end
section
theorem d_Model_isBlank_0 : decode prog_11_method_6_code 0 = .ok (.iload_n 0, 1) := by decide +kernel
theorem d_Model_isBlank_1 : decode prog_11_method_6_code 1 = .ok (.bipush 32, 2) := by decide +kernel
theorem d_Model_isBlank_3 : decode prog_11_method_6_code 3 = .ok (.if_icmp .eq 9, 3) := by decide +kernel
theorem d_Model_isBlank_6 : decode prog_11_method_6_code 6 = .ok (.iload_n 0, 1) := by decide +kernel
theorem d_Model_isBlank_7 : decode prog_11_method_6_code 7 = .ok (.bipush 9, 2) := by decide +kernel
theorem d_Model_isBlank_9 : decode prog_11_method_6_code 9 = .ok (.if_icmp .ne 7, 3) := by decide +kernel
theorem d_Model_isBlank_12 : decode prog_11_method_6_code 12 = .ok (.iconst 1, 1) := by decide +kernel
theorem d_Model_isBlank_13 : decode prog_11_method_6_code 13 = .ok (.goto 4, 3) := by decide +kernel
theorem d_Model_isBlank_16 : decode prog_11_method_6_code 16 = .ok (.iconst 0, 1) := by decide +kernel
theorem d_Model_isBlank_17 : decode prog_11_method_6_code 17 = .ok (.ireturn, 1) := by decide +kernel
theorem d_Model_colonOf_0 : decode prog_11_method_9_code 0 = .ok (.iload_n 1, 1) := by decide +kernel
theorem d_Model_colonOf_1 : decode prog_11_method_9_code 1 = .ok (.istore_n 3, 1) := by decide +kernel
theorem d_Model_colonOf_2 : decode prog_11_method_9_code 2 = .ok (.iload_n 3, 1) := by decide +kernel
theorem d_Model_colonOf_3 : decode prog_11_method_9_code 3 = .ok (.iload_n 2, 1) := by decide +kernel
theorem d_Model_colonOf_4 : decode prog_11_method_9_code 4 = .ok (.if_icmp .ge 42, 3) := by decide +kernel
theorem d_Model_colonOf_7 : decode prog_11_method_9_code 7 = .ok (.aload_n 0, 1) := by decide +kernel
theorem d_Model_colonOf_8 : decode prog_11_method_9_code 8 = .ok (.getfield 13, 3) := by decide +kernel
theorem d_Model_colonOf_11 : decode prog_11_method_9_code 11 = .ok (.iload_n 3, 1) := by decide +kernel
theorem d_Model_colonOf_12 : decode prog_11_method_9_code 12 = .ok (.iaload, 1) := by decide +kernel
theorem d_Model_colonOf_13 : decode prog_11_method_9_code 13 = .ok (.bipush 33, 2) := by decide +kernel
theorem d_Model_colonOf_15 : decode prog_11_method_9_code 15 = .ok (.if_icmp .lt 31, 3) := by decide +kernel
theorem d_Model_colonOf_18 : decode prog_11_method_9_code 18 = .ok (.aload_n 0, 1) := by decide +kernel
theorem d_Model_colonOf_19 : decode prog_11_method_9_code 19 = .ok (.getfield 13, 3) := by decide +kernel
theorem d_Model_colonOf_22 : decode prog_11_method_9_code 22 = .ok (.iload_n 3, 1) := by decide +kernel
theorem d_Model_colonOf_23 : decode prog_11_method_9_code 23 = .ok (.iaload, 1) := by decide +kernel
theorem d_Model_colonOf_24 : decode prog_11_method_9_code 24 = .ok (.bipush 126, 2) := by decide +kernel
theorem d_Model_colonOf_26 : decode prog_11_method_9_code 26 = .ok (.if_icmp .gt 20, 3) := by decide +kernel
theorem d_Model_colonOf_29 : decode prog_11_method_9_code 29 = .ok (.aload_n 0, 1) := by decide +kernel
theorem d_Model_colonOf_30 : decode prog_11_method_9_code 30 = .ok (.getfield 13, 3) := by decide +kernel
theorem d_Model_colonOf_33 : decode prog_11_method_9_code 33 = .ok (.iload_n 3, 1) := by decide +kernel
theorem d_Model_colonOf_34 : decode prog_11_method_9_code 34 = .ok (.iaload, 1) := by decide +kernel
theorem d_Model_colonOf_35 : decode prog_11_method_9_code 35 = .ok (.bipush 58, 2) := by decide +kernel
theorem d_Model_colonOf_37 : decode prog_11_method_9_code 37 = .ok (.if_icmp .eq 9, 3) := by decide +kernel
theorem d_Model_colonOf_40 : decode prog_11_method_9_code 40 = .ok (.iinc 3 1, 3) := by decide +kernel
theorem d_Model_colonOf_43 : decode prog_11_method_9_code 43 = .ok (.goto (-41), 3) := by decide +kernel
theorem d_Model_colonOf_46 : decode prog_11_method_9_code 46 = .ok (.iload_n 3, 1) := by decide +kernel
theorem d_Model_colonOf_47 : decode prog_11_method_9_code 47 = .ok (.iload_n 1, 1) := by decide +kernel
theorem d_Model_colonOf_48 : decode prog_11_method_9_code 48 = .ok (.if_icmp .ne 5, 3) := by decide +kernel
theorem d_Model_colonOf_51 : decode prog_11_method_9_code 51 = .ok (.iconst (-1), 1) := by decide +kernel
theorem d_Model_colonOf_52 : decode prog_11_method_9_code 52 = .ok (.ireturn, 1) := by decide +kernel
theorem d_Model_colonOf_53 : decode prog_11_method_9_code 53 = .ok (.iload_n 3, 1) := by decide +kernel
theorem d_Model_colonOf_54 : decode prog_11_method_9_code 54 = .ok (.iload_n 2, 1) := by decide +kernel
theorem d_Model_colonOf_55 : decode prog_11_method_9_code 55 = .ok (.if_icmp .ge 21, 3) := by decide +kernel
theorem d_Model_colonOf_58 : decode prog_11_method_9_code 58 = .ok (.aload_n 0, 1) := by decide +kernel
theorem d_Model_colonOf_59 : decode prog_11_method_9_code 59 = .ok (.getfield 13, 3) := by decide +kernel
theorem d_Model_colonOf_62 : decode prog_11_method_9_code 62 = .ok (.iload_n 3, 1) := by decide +kernel
theorem d_Model_colonOf_63 : decode prog_11_method_9_code 63 = .ok (.iaload, 1) := by decide +kernel
theorem d_Model_colonOf_64 : decode prog_11_method_9_code 64 = .ok (.invokestatic 109, 3) := by decide +kernel
theorem d_Model_colonOf_67 : decode prog_11_method_9_code 67 = .ok (.ifCond .eq 9, 3) := by decide +kernel
theorem d_Model_colonOf_70 : decode prog_11_method_9_code 70 = .ok (.iinc 3 1, 3) := by decide +kernel
theorem d_Model_colonOf_73 : decode prog_11_method_9_code 73 = .ok (.goto (-20), 3) := by decide +kernel
theorem d_Model_colonOf_76 : decode prog_11_method_9_code 76 = .ok (.iload_n 3, 1) := by decide +kernel
theorem d_Model_colonOf_77 : decode prog_11_method_9_code 77 = .ok (.iload_n 2, 1) := by decide +kernel
theorem d_Model_colonOf_78 : decode prog_11_method_9_code 78 = .ok (.if_icmp .ge 18, 3) := by decide +kernel
theorem d_Model_colonOf_81 : decode prog_11_method_9_code 81 = .ok (.aload_n 0, 1) := by decide +kernel
theorem d_Model_colonOf_82 : decode prog_11_method_9_code 82 = .ok (.getfield 13, 3) := by decide +kernel
theorem d_Model_colonOf_85 : decode prog_11_method_9_code 85 = .ok (.iload_n 3, 1) := by decide +kernel
theorem d_Model_colonOf_86 : decode prog_11_method_9_code 86 = .ok (.iaload, 1) := by decide +kernel
theorem d_Model_colonOf_87 : decode prog_11_method_9_code 87 = .ok (.bipush 58, 2) := by decide +kernel
theorem d_Model_colonOf_89 : decode prog_11_method_9_code 89 = .ok (.if_icmp .ne 7, 3) := by decide +kernel
theorem d_Model_colonOf_92 : decode prog_11_method_9_code 92 = .ok (.iload_n 3, 1) := by decide +kernel
theorem d_Model_colonOf_93 : decode prog_11_method_9_code 93 = .ok (.goto 4, 3) := by decide +kernel
theorem d_Model_colonOf_96 : decode prog_11_method_9_code 96 = .ok (.iconst (-1), 1) := by decide +kernel
theorem d_Model_colonOf_97 : decode prog_11_method_9_code 97 = .ok (.ireturn, 1) := by decide +kernel
theorem d_Model_keep_0 : decode prog_11_method_10_code 0 = .ok (.iload_n 1, 1) := by decide +kernel
theorem d_Model_keep_1 : decode prog_11_method_10_code 1 = .ok (.istore_n 3, 1) := by decide +kernel
theorem d_Model_keep_2 : decode prog_11_method_10_code 2 = .ok (.iload_n 3, 1) := by decide +kernel
theorem d_Model_keep_3 : decode prog_11_method_10_code 3 = .ok (.iload_n 2, 1) := by decide +kernel
theorem d_Model_keep_4 : decode prog_11_method_10_code 4 = .ok (.if_icmp .ge 34, 3) := by decide +kernel
theorem d_Model_keep_7 : decode prog_11_method_10_code 7 = .ok (.aload_n 0, 1) := by decide +kernel
theorem d_Model_keep_8 : decode prog_11_method_10_code 8 = .ok (.getfield 28, 3) := by decide +kernel
theorem d_Model_keep_11 : decode prog_11_method_10_code 11 = .ok (.aload_n 0, 1) := by decide +kernel
theorem d_Model_keep_12 : decode prog_11_method_10_code 12 = .ok (.getfield 113, 3) := by decide +kernel
theorem d_Model_keep_15 : decode prog_11_method_10_code 15 = .ok (.aload_n 0, 1) := by decide +kernel
theorem d_Model_keep_16 : decode prog_11_method_10_code 16 = .ok (.getfield 13, 3) := by decide +kernel
theorem d_Model_keep_19 : decode prog_11_method_10_code 19 = .ok (.iload_n 3, 1) := by decide +kernel
theorem d_Model_keep_20 : decode prog_11_method_10_code 20 = .ok (.iaload, 1) := by decide +kernel
theorem d_Model_keep_21 : decode prog_11_method_10_code 21 = .ok (.iastore, 1) := by decide +kernel
theorem d_Model_keep_22 : decode prog_11_method_10_code 22 = .ok (.aload_n 0, 1) := by decide +kernel
theorem d_Model_keep_23 : decode prog_11_method_10_code 23 = .ok (.dup, 1) := by decide +kernel
theorem d_Model_keep_24 : decode prog_11_method_10_code 24 = .ok (.getfield 113, 3) := by decide +kernel
theorem d_Model_keep_27 : decode prog_11_method_10_code 27 = .ok (.iconst 1, 1) := by decide +kernel
theorem d_Model_keep_28 : decode prog_11_method_10_code 28 = .ok (.iadd, 1) := by decide +kernel
theorem d_Model_keep_29 : decode prog_11_method_10_code 29 = .ok (.putfield 113, 3) := by decide +kernel
theorem d_Model_keep_32 : decode prog_11_method_10_code 32 = .ok (.iinc 3 1, 3) := by decide +kernel
theorem d_Model_keep_35 : decode prog_11_method_10_code 35 = .ok (.goto (-33), 3) := by decide +kernel
theorem d_Model_keep_38 : decode prog_11_method_10_code 38 = .ok (.return_, 1) := by decide +kernel
theorem d_Model_addField_0 : decode prog_11_method_11_code 0 = .ok (.iload_n 1, 1) := by decide +kernel
theorem d_Model_addField_1 : decode prog_11_method_11_code 1 = .ok (.istore 4, 2) := by decide +kernel
theorem d_Model_addField_3 : decode prog_11_method_11_code 3 = .ok (.aload_n 0, 1) := by decide +kernel
theorem d_Model_addField_4 : decode prog_11_method_11_code 4 = .ok (.getfield 13, 3) := by decide +kernel
theorem d_Model_addField_7 : decode prog_11_method_11_code 7 = .ok (.iload 4, 2) := by decide +kernel
theorem d_Model_addField_9 : decode prog_11_method_11_code 9 = .ok (.iaload, 1) := by decide +kernel
theorem d_Model_addField_10 : decode prog_11_method_11_code 10 = .ok (.bipush 33, 2) := by decide +kernel
theorem d_Model_addField_12 : decode prog_11_method_11_code 12 = .ok (.if_icmp .lt 33, 3) := by decide +kernel
theorem d_Model_addField_15 : decode prog_11_method_11_code 15 = .ok (.aload_n 0, 1) := by decide +kernel
theorem d_Model_addField_16 : decode prog_11_method_11_code 16 = .ok (.getfield 13, 3) := by decide +kernel
theorem d_Model_addField_19 : decode prog_11_method_11_code 19 = .ok (.iload 4, 2) := by decide +kernel
theorem d_Model_addField_21 : decode prog_11_method_11_code 21 = .ok (.iaload, 1) := by decide +kernel
theorem d_Model_addField_22 : decode prog_11_method_11_code 22 = .ok (.bipush 126, 2) := by decide +kernel
theorem d_Model_addField_24 : decode prog_11_method_11_code 24 = .ok (.if_icmp .gt 21, 3) := by decide +kernel
theorem d_Model_addField_27 : decode prog_11_method_11_code 27 = .ok (.aload_n 0, 1) := by decide +kernel
theorem d_Model_addField_28 : decode prog_11_method_11_code 28 = .ok (.getfield 13, 3) := by decide +kernel
theorem d_Model_addField_31 : decode prog_11_method_11_code 31 = .ok (.iload 4, 2) := by decide +kernel
theorem d_Model_addField_33 : decode prog_11_method_11_code 33 = .ok (.iaload, 1) := by decide +kernel
theorem d_Model_addField_34 : decode prog_11_method_11_code 34 = .ok (.bipush 58, 2) := by decide +kernel
theorem d_Model_addField_36 : decode prog_11_method_11_code 36 = .ok (.if_icmp .eq 9, 3) := by decide +kernel
theorem d_Model_addField_39 : decode prog_11_method_11_code 39 = .ok (.iinc 4 1, 3) := by decide +kernel
theorem d_Model_addField_42 : decode prog_11_method_11_code 42 = .ok (.goto (-39), 3) := by decide +kernel
theorem d_Model_addField_45 : decode prog_11_method_11_code 45 = .ok (.aload_n 0, 1) := by decide +kernel
theorem d_Model_addField_46 : decode prog_11_method_11_code 46 = .ok (.getfield 16, 3) := by decide +kernel
theorem d_Model_addField_49 : decode prog_11_method_11_code 49 = .ok (.aload_n 0, 1) := by decide +kernel
theorem d_Model_addField_50 : decode prog_11_method_11_code 50 = .ok (.getfield 116, 3) := by decide +kernel
theorem d_Model_addField_53 : decode prog_11_method_11_code 53 = .ok (.aload_n 0, 1) := by decide +kernel
theorem d_Model_addField_54 : decode prog_11_method_11_code 54 = .ok (.getfield 113, 3) := by decide +kernel
theorem d_Model_addField_57 : decode prog_11_method_11_code 57 = .ok (.iastore, 1) := by decide +kernel
theorem d_Model_addField_58 : decode prog_11_method_11_code 58 = .ok (.aload_n 0, 1) := by decide +kernel
theorem d_Model_addField_59 : decode prog_11_method_11_code 59 = .ok (.getfield 19, 3) := by decide +kernel
theorem d_Model_addField_62 : decode prog_11_method_11_code 62 = .ok (.aload_n 0, 1) := by decide +kernel
theorem d_Model_addField_63 : decode prog_11_method_11_code 63 = .ok (.getfield 116, 3) := by decide +kernel
theorem d_Model_addField_66 : decode prog_11_method_11_code 66 = .ok (.iload 4, 2) := by decide +kernel
theorem d_Model_addField_68 : decode prog_11_method_11_code 68 = .ok (.iload_n 1, 1) := by decide +kernel
theorem d_Model_addField_69 : decode prog_11_method_11_code 69 = .ok (.isub, 1) := by decide +kernel
theorem d_Model_addField_70 : decode prog_11_method_11_code 70 = .ok (.iastore, 1) := by decide +kernel
theorem d_Model_addField_71 : decode prog_11_method_11_code 71 = .ok (.aload_n 0, 1) := by decide +kernel
theorem d_Model_addField_72 : decode prog_11_method_11_code 72 = .ok (.iload_n 1, 1) := by decide +kernel
theorem d_Model_addField_73 : decode prog_11_method_11_code 73 = .ok (.iload 4, 2) := by decide +kernel
theorem d_Model_addField_75 : decode prog_11_method_11_code 75 = .ok (.invokevirtual 119, 3) := by decide +kernel
theorem d_Model_addField_78 : decode prog_11_method_11_code 78 = .ok (.aload_n 0, 1) := by decide +kernel
theorem d_Model_addField_79 : decode prog_11_method_11_code 79 = .ok (.getfield 22, 3) := by decide +kernel
theorem d_Model_addField_82 : decode prog_11_method_11_code 82 = .ok (.aload_n 0, 1) := by decide +kernel
theorem d_Model_addField_83 : decode prog_11_method_11_code 83 = .ok (.getfield 116, 3) := by decide +kernel
theorem d_Model_addField_86 : decode prog_11_method_11_code 86 = .ok (.aload_n 0, 1) := by decide +kernel
theorem d_Model_addField_87 : decode prog_11_method_11_code 87 = .ok (.getfield 113, 3) := by decide +kernel
theorem d_Model_addField_90 : decode prog_11_method_11_code 90 = .ok (.iastore, 1) := by decide +kernel
theorem d_Model_addField_91 : decode prog_11_method_11_code 91 = .ok (.aload_n 0, 1) := by decide +kernel
theorem d_Model_addField_92 : decode prog_11_method_11_code 92 = .ok (.getfield 25, 3) := by decide +kernel
theorem d_Model_addField_95 : decode prog_11_method_11_code 95 = .ok (.aload_n 0, 1) := by decide +kernel
theorem d_Model_addField_96 : decode prog_11_method_11_code 96 = .ok (.getfield 116, 3) := by decide +kernel
theorem d_Model_addField_99 : decode prog_11_method_11_code 99 = .ok (.iload_n 3, 1) := by decide +kernel
theorem d_Model_addField_100 : decode prog_11_method_11_code 100 = .ok (.iload_n 2, 1) := by decide +kernel
theorem d_Model_addField_101 : decode prog_11_method_11_code 101 = .ok (.isub, 1) := by decide +kernel
theorem d_Model_addField_102 : decode prog_11_method_11_code 102 = .ok (.iconst 1, 1) := by decide +kernel
theorem d_Model_addField_103 : decode prog_11_method_11_code 103 = .ok (.isub, 1) := by decide +kernel
theorem d_Model_addField_104 : decode prog_11_method_11_code 104 = .ok (.iastore, 1) := by decide +kernel
theorem d_Model_addField_105 : decode prog_11_method_11_code 105 = .ok (.aload_n 0, 1) := by decide +kernel
theorem d_Model_addField_106 : decode prog_11_method_11_code 106 = .ok (.iload_n 2, 1) := by decide +kernel
theorem d_Model_addField_107 : decode prog_11_method_11_code 107 = .ok (.iconst 1, 1) := by decide +kernel
theorem d_Model_addField_108 : decode prog_11_method_11_code 108 = .ok (.iadd, 1) := by decide +kernel
theorem d_Model_addField_109 : decode prog_11_method_11_code 109 = .ok (.iload_n 3, 1) := by decide +kernel
theorem d_Model_addField_110 : decode prog_11_method_11_code 110 = .ok (.invokevirtual 119, 3) := by decide +kernel
theorem d_Model_addField_113 : decode prog_11_method_11_code 113 = .ok (.aload_n 0, 1) := by decide +kernel
theorem d_Model_addField_114 : decode prog_11_method_11_code 114 = .ok (.dup, 1) := by decide +kernel
theorem d_Model_addField_115 : decode prog_11_method_11_code 115 = .ok (.getfield 116, 3) := by decide +kernel
theorem d_Model_addField_118 : decode prog_11_method_11_code 118 = .ok (.iconst 1, 1) := by decide +kernel
theorem d_Model_addField_119 : decode prog_11_method_11_code 119 = .ok (.iadd, 1) := by decide +kernel
theorem d_Model_addField_120 : decode prog_11_method_11_code 120 = .ok (.putfield 116, 3) := by decide +kernel
theorem d_Model_addField_123 : decode prog_11_method_11_code 123 = .ok (.return_, 1) := by decide +kernel
theorem d_Model_read_0 : decode prog_11_method_12_code 0 = .ok (.aload_n 0, 1) := by decide +kernel
theorem d_Model_read_1 : decode prog_11_method_12_code 1 = .ok (.iconst 0, 1) := by decide +kernel
theorem d_Model_read_2 : decode prog_11_method_12_code 2 = .ok (.putfield 99, 3) := by decide +kernel
theorem d_Model_read_5 : decode prog_11_method_12_code 5 = .ok (.aload_n 0, 1) := by decide +kernel
theorem d_Model_read_6 : decode prog_11_method_12_code 6 = .ok (.getfield 106, 3) := by decide +kernel
theorem d_Model_read_9 : decode prog_11_method_12_code 9 = .ok (.istore_n 1, 1) := by decide +kernel
theorem d_Model_read_10 : decode prog_11_method_12_code 10 = .ok (.aload_n 0, 1) := by decide +kernel
theorem d_Model_read_11 : decode prog_11_method_12_code 11 = .ok (.iconst 0, 1) := by decide +kernel
theorem d_Model_read_12 : decode prog_11_method_12_code 12 = .ok (.putfield 106, 3) := by decide +kernel
theorem d_Model_read_15 : decode prog_11_method_12_code 15 = .ok (.aload_n 0, 1) := by decide +kernel
theorem d_Model_read_16 : decode prog_11_method_12_code 16 = .ok (.iconst 0, 1) := by decide +kernel
theorem d_Model_read_17 : decode prog_11_method_12_code 17 = .ok (.putfield 116, 3) := by decide +kernel
theorem d_Model_read_20 : decode prog_11_method_12_code 20 = .ok (.aload_n 0, 1) := by decide +kernel
theorem d_Model_read_21 : decode prog_11_method_12_code 21 = .ok (.iconst 0, 1) := by decide +kernel
theorem d_Model_read_22 : decode prog_11_method_12_code 22 = .ok (.putfield 122, 3) := by decide +kernel
theorem d_Model_read_25 : decode prog_11_method_12_code 25 = .ok (.aload_n 0, 1) := by decide +kernel
theorem d_Model_read_26 : decode prog_11_method_12_code 26 = .ok (.iconst 0, 1) := by decide +kernel
theorem d_Model_read_27 : decode prog_11_method_12_code 27 = .ok (.putfield 113, 3) := by decide +kernel
theorem d_Model_read_30 : decode prog_11_method_12_code 30 = .ok (.iconst 0, 1) := by decide +kernel
theorem d_Model_read_31 : decode prog_11_method_12_code 31 = .ok (.istore_n 2, 1) := by decide +kernel
theorem d_Model_read_32 : decode prog_11_method_12_code 32 = .ok (.iconst 0, 1) := by decide +kernel
theorem d_Model_read_33 : decode prog_11_method_12_code 33 = .ok (.istore_n 3, 1) := by decide +kernel
theorem d_Model_read_34 : decode prog_11_method_12_code 34 = .ok (.iload_n 3, 1) := by decide +kernel
theorem d_Model_read_35 : decode prog_11_method_12_code 35 = .ok (.iload_n 1, 1) := by decide +kernel
theorem d_Model_read_36 : decode prog_11_method_12_code 36 = .ok (.if_icmp .ge 193, 3) := by decide +kernel
theorem d_Model_read_39 : decode prog_11_method_12_code 39 = .ok (.iload_n 3, 1) := by decide +kernel
theorem d_Model_read_40 : decode prog_11_method_12_code 40 = .ok (.istore 4, 2) := by decide +kernel
theorem d_Model_read_42 : decode prog_11_method_12_code 42 = .ok (.iload 4, 2) := by decide +kernel
theorem d_Model_read_44 : decode prog_11_method_12_code 44 = .ok (.iload_n 1, 1) := by decide +kernel
theorem d_Model_read_45 : decode prog_11_method_12_code 45 = .ok (.if_icmp .ge 21, 3) := by decide +kernel
theorem d_Model_read_48 : decode prog_11_method_12_code 48 = .ok (.aload_n 0, 1) := by decide +kernel
theorem d_Model_read_49 : decode prog_11_method_12_code 49 = .ok (.getfield 13, 3) := by decide +kernel
theorem d_Model_read_52 : decode prog_11_method_12_code 52 = .ok (.iload 4, 2) := by decide +kernel
theorem d_Model_read_54 : decode prog_11_method_12_code 54 = .ok (.iaload, 1) := by decide +kernel
theorem d_Model_read_55 : decode prog_11_method_12_code 55 = .ok (.bipush 10, 2) := by decide +kernel
theorem d_Model_read_57 : decode prog_11_method_12_code 57 = .ok (.if_icmp .eq 9, 3) := by decide +kernel
theorem d_Model_read_60 : decode prog_11_method_12_code 60 = .ok (.iinc 4 1, 3) := by decide +kernel
theorem d_Model_read_63 : decode prog_11_method_12_code 63 = .ok (.goto (-21), 3) := by decide +kernel
theorem d_Model_read_66 : decode prog_11_method_12_code 66 = .ok (.iload 4, 2) := by decide +kernel
theorem d_Model_read_68 : decode prog_11_method_12_code 68 = .ok (.iload_n 1, 1) := by decide +kernel
theorem d_Model_read_69 : decode prog_11_method_12_code 69 = .ok (.if_icmp .ge 30, 3) := by decide +kernel
theorem d_Model_read_72 : decode prog_11_method_12_code 72 = .ok (.iload 4, 2) := by decide +kernel
theorem d_Model_read_74 : decode prog_11_method_12_code 74 = .ok (.iload_n 3, 1) := by decide +kernel
theorem d_Model_read_75 : decode prog_11_method_12_code 75 = .ok (.if_icmp .le 24, 3) := by decide +kernel
theorem d_Model_read_78 : decode prog_11_method_12_code 78 = .ok (.aload_n 0, 1) := by decide +kernel
theorem d_Model_read_79 : decode prog_11_method_12_code 79 = .ok (.getfield 13, 3) := by decide +kernel
theorem d_Model_read_82 : decode prog_11_method_12_code 82 = .ok (.iload 4, 2) := by decide +kernel
theorem d_Model_read_84 : decode prog_11_method_12_code 84 = .ok (.iconst 1, 1) := by decide +kernel
theorem d_Model_read_85 : decode prog_11_method_12_code 85 = .ok (.isub, 1) := by decide +kernel
theorem d_Model_read_86 : decode prog_11_method_12_code 86 = .ok (.iaload, 1) := by decide +kernel
theorem d_Model_read_87 : decode prog_11_method_12_code 87 = .ok (.bipush 13, 2) := by decide +kernel
theorem d_Model_read_89 : decode prog_11_method_12_code 89 = .ok (.if_icmp .ne 10, 3) := by decide +kernel
theorem d_Model_read_92 : decode prog_11_method_12_code 92 = .ok (.iload 4, 2) := by decide +kernel
theorem d_Model_read_94 : decode prog_11_method_12_code 94 = .ok (.iconst 1, 1) := by decide +kernel
theorem d_Model_read_95 : decode prog_11_method_12_code 95 = .ok (.isub, 1) := by decide +kernel
theorem d_Model_read_96 : decode prog_11_method_12_code 96 = .ok (.goto 5, 3) := by decide +kernel
theorem d_Model_read_99 : decode prog_11_method_12_code 99 = .ok (.iload 4, 2) := by decide +kernel
theorem d_Model_read_101 : decode prog_11_method_12_code 101 = .ok (.istore 5, 2) := by decide +kernel
theorem d_Model_read_103 : decode prog_11_method_12_code 103 = .ok (.aload_n 0, 1) := by decide +kernel
theorem d_Model_read_104 : decode prog_11_method_12_code 104 = .ok (.iload_n 3, 1) := by decide +kernel
theorem d_Model_read_105 : decode prog_11_method_12_code 105 = .ok (.iload 5, 2) := by decide +kernel
theorem d_Model_read_107 : decode prog_11_method_12_code 107 = .ok (.invokevirtual 125, 3) := by decide +kernel
theorem d_Model_read_110 : decode prog_11_method_12_code 110 = .ok (.istore 6, 2) := by decide +kernel
theorem d_Model_read_112 : decode prog_11_method_12_code 112 = .ok (.iload 5, 2) := by decide +kernel
theorem d_Model_read_114 : decode prog_11_method_12_code 114 = .ok (.iload_n 3, 1) := by decide +kernel
theorem d_Model_read_115 : decode prog_11_method_12_code 115 = .ok (.if_icmp .le 60, 3) := by decide +kernel
theorem d_Model_read_118 : decode prog_11_method_12_code 118 = .ok (.aload_n 0, 1) := by decide +kernel
theorem d_Model_read_119 : decode prog_11_method_12_code 119 = .ok (.getfield 13, 3) := by decide +kernel
theorem d_Model_read_122 : decode prog_11_method_12_code 122 = .ok (.iload_n 3, 1) := by decide +kernel
theorem d_Model_read_123 : decode prog_11_method_12_code 123 = .ok (.iaload, 1) := by decide +kernel
theorem d_Model_read_124 : decode prog_11_method_12_code 124 = .ok (.invokestatic 109, 3) := by decide +kernel
theorem d_Model_read_127 : decode prog_11_method_12_code 127 = .ok (.ifCond .eq 48, 3) := by decide +kernel
theorem d_Model_read_130 : decode prog_11_method_12_code 130 = .ok (.iload_n 2, 1) := by decide +kernel
theorem d_Model_read_131 : decode prog_11_method_12_code 131 = .ok (.ifCond .eq 31, 3) := by decide +kernel
theorem d_Model_read_134 : decode prog_11_method_12_code 134 = .ok (.aload_n 0, 1) := by decide +kernel
theorem d_Model_read_135 : decode prog_11_method_12_code 135 = .ok (.iload_n 3, 1) := by decide +kernel
theorem d_Model_read_136 : decode prog_11_method_12_code 136 = .ok (.iload 5, 2) := by decide +kernel
theorem d_Model_read_138 : decode prog_11_method_12_code 138 = .ok (.invokevirtual 119, 3) := by decide +kernel
theorem d_Model_read_141 : decode prog_11_method_12_code 141 = .ok (.aload_n 0, 1) := by decide +kernel
theorem d_Model_read_142 : decode prog_11_method_12_code 142 = .ok (.getfield 25, 3) := by decide +kernel
theorem d_Model_read_145 : decode prog_11_method_12_code 145 = .ok (.aload_n 0, 1) := by decide +kernel
theorem d_Model_read_146 : decode prog_11_method_12_code 146 = .ok (.getfield 116, 3) := by decide +kernel
theorem d_Model_read_149 : decode prog_11_method_12_code 149 = .ok (.iconst 1, 1) := by decide +kernel
theorem d_Model_read_150 : decode prog_11_method_12_code 150 = .ok (.isub, 1) := by decide +kernel
theorem d_Model_read_151 : decode prog_11_method_12_code 151 = .ok (.dup2, 1) := by decide +kernel
theorem d_Model_read_152 : decode prog_11_method_12_code 152 = .ok (.iaload, 1) := by decide +kernel
theorem d_Model_read_153 : decode prog_11_method_12_code 153 = .ok (.iload 5, 2) := by decide +kernel
theorem d_Model_read_155 : decode prog_11_method_12_code 155 = .ok (.iload_n 3, 1) := by decide +kernel
theorem d_Model_read_156 : decode prog_11_method_12_code 156 = .ok (.isub, 1) := by decide +kernel
theorem d_Model_read_157 : decode prog_11_method_12_code 157 = .ok (.iadd, 1) := by decide +kernel
theorem d_Model_read_158 : decode prog_11_method_12_code 158 = .ok (.iastore, 1) := by decide +kernel
theorem d_Model_read_159 : decode prog_11_method_12_code 159 = .ok (.goto 62, 3) := by decide +kernel
theorem d_Model_read_162 : decode prog_11_method_12_code 162 = .ok (.aload_n 0, 1) := by decide +kernel
theorem d_Model_read_163 : decode prog_11_method_12_code 163 = .ok (.dup, 1) := by decide +kernel
theorem d_Model_read_164 : decode prog_11_method_12_code 164 = .ok (.getfield 122, 3) := by decide +kernel
theorem d_Model_read_167 : decode prog_11_method_12_code 167 = .ok (.iconst 1, 1) := by decide +kernel
theorem d_Model_read_168 : decode prog_11_method_12_code 168 = .ok (.iadd, 1) := by decide +kernel
theorem d_Model_read_169 : decode prog_11_method_12_code 169 = .ok (.putfield 122, 3) := by decide +kernel
theorem d_Model_read_172 : decode prog_11_method_12_code 172 = .ok (.goto 49, 3) := by decide +kernel
theorem d_Model_read_175 : decode prog_11_method_12_code 175 = .ok (.iload 6, 2) := by decide +kernel
theorem d_Model_read_177 : decode prog_11_method_12_code 177 = .ok (.iconst (-1), 1) := by decide +kernel
theorem d_Model_read_178 : decode prog_11_method_12_code 178 = .ok (.if_icmp .ne 18, 3) := by decide +kernel
theorem d_Model_read_181 : decode prog_11_method_12_code 181 = .ok (.aload_n 0, 1) := by decide +kernel
theorem d_Model_read_182 : decode prog_11_method_12_code 182 = .ok (.dup, 1) := by decide +kernel
theorem d_Model_read_183 : decode prog_11_method_12_code 183 = .ok (.getfield 122, 3) := by decide +kernel
theorem d_Model_read_186 : decode prog_11_method_12_code 186 = .ok (.iconst 1, 1) := by decide +kernel
theorem d_Model_read_187 : decode prog_11_method_12_code 187 = .ok (.iadd, 1) := by decide +kernel
theorem d_Model_read_188 : decode prog_11_method_12_code 188 = .ok (.putfield 122, 3) := by decide +kernel
theorem d_Model_read_191 : decode prog_11_method_12_code 191 = .ok (.iconst 0, 1) := by decide +kernel
theorem d_Model_read_192 : decode prog_11_method_12_code 192 = .ok (.istore_n 2, 1) := by decide +kernel
theorem d_Model_read_193 : decode prog_11_method_12_code 193 = .ok (.goto 28, 3) := by decide +kernel
theorem d_Model_read_196 : decode prog_11_method_12_code 196 = .ok (.aload_n 0, 1) := by decide +kernel
theorem d_Model_read_197 : decode prog_11_method_12_code 197 = .ok (.getfield 116, 3) := by decide +kernel
theorem d_Model_read_200 : decode prog_11_method_12_code 200 = .ok (.bipush 40, 2) := by decide +kernel
theorem d_Model_read_202 : decode prog_11_method_12_code 202 = .ok (.if_icmp .ne 8, 3) := by decide +kernel
theorem d_Model_read_205 : decode prog_11_method_12_code 205 = .ok (.aload_n 0, 1) := by decide +kernel
theorem d_Model_read_206 : decode prog_11_method_12_code 206 = .ok (.getfield 116, 3) := by decide +kernel
theorem d_Model_read_209 : decode prog_11_method_12_code 209 = .ok (.ireturn, 1) := by decide +kernel
theorem d_Model_read_210 : decode prog_11_method_12_code 210 = .ok (.aload_n 0, 1) := by decide +kernel
theorem d_Model_read_211 : decode prog_11_method_12_code 211 = .ok (.iload_n 3, 1) := by decide +kernel
theorem d_Model_read_212 : decode prog_11_method_12_code 212 = .ok (.iload 6, 2) := by decide +kernel
theorem d_Model_read_214 : decode prog_11_method_12_code 214 = .ok (.iload 5, 2) := by decide +kernel
theorem d_Model_read_216 : decode prog_11_method_12_code 216 = .ok (.invokevirtual 129, 3) := by decide +kernel
theorem d_Model_read_219 : decode prog_11_method_12_code 219 = .ok (.iconst 1, 1) := by decide +kernel
theorem d_Model_read_220 : decode prog_11_method_12_code 220 = .ok (.istore_n 2, 1) := by decide +kernel
theorem d_Model_read_221 : decode prog_11_method_12_code 221 = .ok (.iload 4, 2) := by decide +kernel
theorem d_Model_read_223 : decode prog_11_method_12_code 223 = .ok (.iconst 1, 1) := by decide +kernel
theorem d_Model_read_224 : decode prog_11_method_12_code 224 = .ok (.iadd, 1) := by decide +kernel
theorem d_Model_read_225 : decode prog_11_method_12_code 225 = .ok (.istore_n 3, 1) := by decide +kernel
theorem d_Model_read_226 : decode prog_11_method_12_code 226 = .ok (.goto (-192), 3) := by decide +kernel
theorem d_Model_read_229 : decode prog_11_method_12_code 229 = .ok (.aload_n 0, 1) := by decide +kernel
theorem d_Model_read_230 : decode prog_11_method_12_code 230 = .ok (.getfield 116, 3) := by decide +kernel
theorem d_Model_read_233 : decode prog_11_method_12_code 233 = .ok (.ireturn, 1) := by decide +kernel
theorem d_Model_length_0 : decode prog_11_method_36_code 0 = .ok (.aload_n 0, 1) := by decide +kernel
theorem d_Model_length_1 : decode prog_11_method_36_code 1 = .ok (.iconst 0, 1) := by decide +kernel
theorem d_Model_length_2 : decode prog_11_method_36_code 2 = .ok (.putfield 99, 3) := by decide +kernel
theorem d_Model_length_5 : decode prog_11_method_36_code 5 = .ok (.iload_n 1, 1) := by decide +kernel
theorem d_Model_length_6 : decode prog_11_method_36_code 6 = .ok (.ifCond .lt 23, 3) := by decide +kernel
theorem d_Model_length_9 : decode prog_11_method_36_code 9 = .ok (.iload_n 1, 1) := by decide +kernel
theorem d_Model_length_10 : decode prog_11_method_36_code 10 = .ok (.bipush 6, 2) := by decide +kernel
theorem d_Model_length_12 : decode prog_11_method_36_code 12 = .ok (.if_icmp .gt 17, 3) := by decide +kernel
theorem d_Model_length_15 : decode prog_11_method_36_code 15 = .ok (.iload_n 2, 1) := by decide +kernel
theorem d_Model_length_16 : decode prog_11_method_36_code 16 = .ok (.ifCond .lt 13, 3) := by decide +kernel
theorem d_Model_length_19 : decode prog_11_method_36_code 19 = .ok (.iload_n 2, 1) := by decide +kernel
theorem d_Model_length_20 : decode prog_11_method_36_code 20 = .ok (.aload_n 0, 1) := by decide +kernel
theorem d_Model_length_21 : decode prog_11_method_36_code 21 = .ok (.getfield 52, 3) := by decide +kernel
theorem d_Model_length_24 : decode prog_11_method_36_code 24 = .ok (.iload_n 1, 1) := by decide +kernel
theorem d_Model_length_25 : decode prog_11_method_36_code 25 = .ok (.iaload, 1) := by decide +kernel
theorem d_Model_length_26 : decode prog_11_method_36_code 26 = .ok (.if_icmp .lt 7, 3) := by decide +kernel
theorem d_Model_length_29 : decode prog_11_method_36_code 29 = .ok (.iconst (-1), 1) := by decide +kernel
theorem d_Model_length_30 : decode prog_11_method_36_code 30 = .ok (.goto 15, 3) := by decide +kernel
theorem d_Model_length_33 : decode prog_11_method_36_code 33 = .ok (.aload_n 0, 1) := by decide +kernel
theorem d_Model_length_34 : decode prog_11_method_36_code 34 = .ok (.getfield 58, 3) := by decide +kernel
theorem d_Model_length_37 : decode prog_11_method_36_code 37 = .ok (.sipush 1000, 3) := by decide +kernel
theorem d_Model_length_40 : decode prog_11_method_36_code 40 = .ok (.iload_n 1, 1) := by decide +kernel
theorem d_Model_length_41 : decode prog_11_method_36_code 41 = .ok (.imul, 1) := by decide +kernel
theorem d_Model_length_42 : decode prog_11_method_36_code 42 = .ok (.iload_n 2, 1) := by decide +kernel
theorem d_Model_length_43 : decode prog_11_method_36_code 43 = .ok (.iadd, 1) := by decide +kernel
theorem d_Model_length_44 : decode prog_11_method_36_code 44 = .ok (.iaload, 1) := by decide +kernel
theorem d_Model_length_45 : decode prog_11_method_36_code 45 = .ok (.ireturn, 1) := by decide +kernel
theorem d_Model_parameterByte_0 : decode prog_11_method_74_code 0 = .ok (.aload_n 0, 1) := by decide +kernel
theorem d_Model_parameterByte_1 : decode prog_11_method_74_code 1 = .ok (.iconst 0, 1) := by decide +kernel
theorem d_Model_parameterByte_2 : decode prog_11_method_74_code 2 = .ok (.putfield 99, 3) := by decide +kernel
theorem d_Model_parameterByte_5 : decode prog_11_method_74_code 5 = .ok (.iload_n 1, 1) := by decide +kernel
theorem d_Model_parameterByte_6 : decode prog_11_method_74_code 6 = .ok (.ifCond .eq 10, 3) := by decide +kernel
theorem d_Model_parameterByte_9 : decode prog_11_method_74_code 9 = .ok (.aload_n 0, 1) := by decide +kernel
theorem d_Model_parameterByte_10 : decode prog_11_method_74_code 10 = .ok (.getfield 96, 3) := by decide +kernel
theorem d_Model_parameterByte_13 : decode prog_11_method_74_code 13 = .ok (.goto 7, 3) := by decide +kernel
theorem d_Model_parameterByte_16 : decode prog_11_method_74_code 16 = .ok (.aload_n 0, 1) := by decide +kernel
theorem d_Model_parameterByte_17 : decode prog_11_method_74_code 17 = .ok (.getfield 92, 3) := by decide +kernel
theorem d_Model_parameterByte_20 : decode prog_11_method_74_code 20 = .ok (.istore_n 3, 1) := by decide +kernel
theorem d_Model_parameterByte_21 : decode prog_11_method_74_code 21 = .ok (.iload_n 2, 1) := by decide +kernel
theorem d_Model_parameterByte_22 : decode prog_11_method_74_code 22 = .ok (.ifCond .lt 8, 3) := by decide +kernel
theorem d_Model_parameterByte_25 : decode prog_11_method_74_code 25 = .ok (.iload_n 2, 1) := by decide +kernel
theorem d_Model_parameterByte_26 : decode prog_11_method_74_code 26 = .ok (.iload_n 3, 1) := by decide +kernel
theorem d_Model_parameterByte_27 : decode prog_11_method_74_code 27 = .ok (.if_icmp .lt 7, 3) := by decide +kernel
theorem d_Model_parameterByte_30 : decode prog_11_method_74_code 30 = .ok (.iconst (-1), 1) := by decide +kernel
theorem d_Model_parameterByte_31 : decode prog_11_method_74_code 31 = .ok (.goto 22, 3) := by decide +kernel
theorem d_Model_parameterByte_34 : decode prog_11_method_74_code 34 = .ok (.iload_n 1, 1) := by decide +kernel
theorem d_Model_parameterByte_35 : decode prog_11_method_74_code 35 = .ok (.ifCond .eq 12, 3) := by decide +kernel
theorem d_Model_parameterByte_38 : decode prog_11_method_74_code 38 = .ok (.aload_n 0, 1) := by decide +kernel
theorem d_Model_parameterByte_39 : decode prog_11_method_74_code 39 = .ok (.getfield 89, 3) := by decide +kernel
theorem d_Model_parameterByte_42 : decode prog_11_method_74_code 42 = .ok (.iload_n 2, 1) := by decide +kernel
theorem d_Model_parameterByte_43 : decode prog_11_method_74_code 43 = .ok (.iaload, 1) := by decide +kernel
theorem d_Model_parameterByte_44 : decode prog_11_method_74_code 44 = .ok (.goto 9, 3) := by decide +kernel
theorem d_Model_parameterByte_47 : decode prog_11_method_74_code 47 = .ok (.aload_n 0, 1) := by decide +kernel
theorem d_Model_parameterByte_48 : decode prog_11_method_74_code 48 = .ok (.getfield 86, 3) := by decide +kernel
theorem d_Model_parameterByte_51 : decode prog_11_method_74_code 51 = .ok (.iload_n 2, 1) := by decide +kernel
theorem d_Model_parameterByte_52 : decode prog_11_method_74_code 52 = .ok (.iaload, 1) := by decide +kernel
theorem d_Model_parameterByte_53 : decode prog_11_method_74_code 53 = .ok (.ireturn, 1) := by decide +kernel
theorem d_Model_thrown_0 : decode prog_11_method_2_code 0 = .ok (.aload_n 0, 1) := by decide +kernel
theorem d_Model_thrown_1 : decode prog_11_method_2_code 1 = .ok (.getfield 99, 3) := by decide +kernel
theorem d_Model_thrown_4 : decode prog_11_method_2_code 4 = .ok (.ireturn, 1) := by decide +kernel
theorem d_Model_bad_0 : decode prog_11_method_13_code 0 = .ok (.aload_n 0, 1) := by decide +kernel
theorem d_Model_bad_1 : decode prog_11_method_13_code 1 = .ok (.iconst 0, 1) := by decide +kernel
theorem d_Model_bad_2 : decode prog_11_method_13_code 2 = .ok (.putfield 99, 3) := by decide +kernel
theorem d_Model_bad_5 : decode prog_11_method_13_code 5 = .ok (.aload_n 0, 1) := by decide +kernel
theorem d_Model_bad_6 : decode prog_11_method_13_code 6 = .ok (.getfield 122, 3) := by decide +kernel
theorem d_Model_bad_9 : decode prog_11_method_13_code 9 = .ok (.ireturn, 1) := by decide +kernel
theorem d_Model_endPart_0 : decode prog_11_method_35_code 0 = .ok (.aload_n 0, 1) := by decide +kernel
theorem d_Model_endPart_1 : decode prog_11_method_35_code 1 = .ok (.getfield 52, 3) := by decide +kernel
theorem d_Model_endPart_4 : decode prog_11_method_35_code 4 = .ok (.iload_n 1, 1) := by decide +kernel
theorem d_Model_endPart_5 : decode prog_11_method_35_code 5 = .ok (.dup2, 1) := by decide +kernel
theorem d_Model_endPart_6 : decode prog_11_method_35_code 6 = .ok (.iaload, 1) := by decide +kernel
theorem d_Model_endPart_7 : decode prog_11_method_35_code 7 = .ok (.iconst 1, 1) := by decide +kernel
theorem d_Model_endPart_8 : decode prog_11_method_35_code 8 = .ok (.iadd, 1) := by decide +kernel
theorem d_Model_endPart_9 : decode prog_11_method_35_code 9 = .ok (.iastore, 1) := by decide +kernel
theorem d_Model_endPart_10 : decode prog_11_method_35_code 10 = .ok (.return_, 1) := by decide +kernel
theorem d_Model_areaOf_0 : decode prog_11_method_30_code 0 = .ok (.iload_n 0, 1) := by decide +kernel
theorem d_Model_areaOf_1 : decode prog_11_method_30_code 1 = .ok (.iconst 4, 1) := by decide +kernel
theorem d_Model_areaOf_2 : decode prog_11_method_30_code 2 = .ok (.if_icmp .ge 7, 3) := by decide +kernel
theorem d_Model_areaOf_5 : decode prog_11_method_30_code 5 = .ok (.iconst 0, 1) := by decide +kernel
theorem d_Model_areaOf_6 : decode prog_11_method_30_code 6 = .ok (.goto 13, 3) := by decide +kernel
theorem d_Model_areaOf_9 : decode prog_11_method_30_code 9 = .ok (.iload_n 0, 1) := by decide +kernel
theorem d_Model_areaOf_10 : decode prog_11_method_30_code 10 = .ok (.iconst 4, 1) := by decide +kernel
theorem d_Model_areaOf_11 : decode prog_11_method_30_code 11 = .ok (.if_icmp .ne 7, 3) := by decide +kernel
theorem d_Model_areaOf_14 : decode prog_11_method_30_code 14 = .ok (.iconst 1, 1) := by decide +kernel
theorem d_Model_areaOf_15 : decode prog_11_method_30_code 15 = .ok (.goto 4, 3) := by decide +kernel
theorem d_Model_areaOf_18 : decode prog_11_method_30_code 18 = .ok (.iconst 2, 1) := by decide +kernel
theorem d_Model_areaOf_19 : decode prog_11_method_30_code 19 = .ok (.ireturn, 1) := by decide +kernel
theorem d_Model_roomAt_0 : decode prog_11_method_31_code 0 = .ok (.sipush 6000, 3) := by decide +kernel
theorem d_Model_roomAt_3 : decode prog_11_method_31_code 3 = .ok (.iload_n 1, 1) := by decide +kernel
theorem d_Model_roomAt_4 : decode prog_11_method_31_code 4 = .ok (.invokestatic 185, 3) := by decide +kernel
theorem d_Model_roomAt_7 : decode prog_11_method_31_code 7 = .ok (.imul, 1) := by decide +kernel
theorem d_Model_roomAt_8 : decode prog_11_method_31_code 8 = .ok (.aload_n 0, 1) := by decide +kernel
theorem d_Model_roomAt_9 : decode prog_11_method_31_code 9 = .ok (.getfield 49, 3) := by decide +kernel
theorem d_Model_roomAt_12 : decode prog_11_method_31_code 12 = .ok (.iload_n 1, 1) := by decide +kernel
theorem d_Model_roomAt_13 : decode prog_11_method_31_code 13 = .ok (.invokestatic 185, 3) := by decide +kernel
theorem d_Model_roomAt_16 : decode prog_11_method_31_code 16 = .ok (.iaload, 1) := by decide +kernel
theorem d_Model_roomAt_17 : decode prog_11_method_31_code 17 = .ok (.iadd, 1) := by decide +kernel
theorem d_Model_roomAt_18 : decode prog_11_method_31_code 18 = .ok (.ireturn, 1) := by decide +kernel
theorem d_Model_add_0 : decode prog_11_method_33_code 0 = .ok (.aload_n 0, 1) := by decide +kernel
theorem d_Model_add_1 : decode prog_11_method_33_code 1 = .ok (.getfield 46, 3) := by decide +kernel
theorem d_Model_add_4 : decode prog_11_method_33_code 4 = .ok (.aload_n 0, 1) := by decide +kernel
theorem d_Model_add_5 : decode prog_11_method_33_code 5 = .ok (.iload_n 1, 1) := by decide +kernel
theorem d_Model_add_6 : decode prog_11_method_33_code 6 = .ok (.invokevirtual 188, 3) := by decide +kernel
theorem d_Model_add_9 : decode prog_11_method_33_code 9 = .ok (.iload_n 2, 1) := by decide +kernel
theorem d_Model_add_10 : decode prog_11_method_33_code 10 = .ok (.iastore, 1) := by decide +kernel
theorem d_Model_add_11 : decode prog_11_method_33_code 11 = .ok (.aload_n 0, 1) := by decide +kernel
theorem d_Model_add_12 : decode prog_11_method_33_code 12 = .ok (.getfield 49, 3) := by decide +kernel
theorem d_Model_add_15 : decode prog_11_method_33_code 15 = .ok (.iload_n 1, 1) := by decide +kernel
theorem d_Model_add_16 : decode prog_11_method_33_code 16 = .ok (.invokestatic 185, 3) := by decide +kernel
theorem d_Model_add_19 : decode prog_11_method_33_code 19 = .ok (.dup2, 1) := by decide +kernel
theorem d_Model_add_20 : decode prog_11_method_33_code 20 = .ok (.iaload, 1) := by decide +kernel
theorem d_Model_add_21 : decode prog_11_method_33_code 21 = .ok (.iconst 1, 1) := by decide +kernel
theorem d_Model_add_22 : decode prog_11_method_33_code 22 = .ok (.iadd, 1) := by decide +kernel
theorem d_Model_add_23 : decode prog_11_method_33_code 23 = .ok (.iastore, 1) := by decide +kernel
theorem d_Model_add_24 : decode prog_11_method_33_code 24 = .ok (.aload_n 0, 1) := by decide +kernel
theorem d_Model_add_25 : decode prog_11_method_33_code 25 = .ok (.getfield 58, 3) := by decide +kernel
theorem d_Model_add_28 : decode prog_11_method_33_code 28 = .ok (.sipush 1000, 3) := by decide +kernel
theorem d_Model_add_31 : decode prog_11_method_33_code 31 = .ok (.iload_n 1, 1) := by decide +kernel
theorem d_Model_add_32 : decode prog_11_method_33_code 32 = .ok (.imul, 1) := by decide +kernel
theorem d_Model_add_33 : decode prog_11_method_33_code 33 = .ok (.aload_n 0, 1) := by decide +kernel
theorem d_Model_add_34 : decode prog_11_method_33_code 34 = .ok (.getfield 52, 3) := by decide +kernel
theorem d_Model_add_37 : decode prog_11_method_33_code 37 = .ok (.iload_n 1, 1) := by decide +kernel
theorem d_Model_add_38 : decode prog_11_method_33_code 38 = .ok (.iaload, 1) := by decide +kernel
theorem d_Model_add_39 : decode prog_11_method_33_code 39 = .ok (.iadd, 1) := by decide +kernel
theorem d_Model_add_40 : decode prog_11_method_33_code 40 = .ok (.dup2, 1) := by decide +kernel
theorem d_Model_add_41 : decode prog_11_method_33_code 41 = .ok (.iaload, 1) := by decide +kernel
theorem d_Model_add_42 : decode prog_11_method_33_code 42 = .ok (.iconst 1, 1) := by decide +kernel
theorem d_Model_add_43 : decode prog_11_method_33_code 43 = .ok (.iadd, 1) := by decide +kernel
theorem d_Model_add_44 : decode prog_11_method_33_code 44 = .ok (.iastore, 1) := by decide +kernel
theorem d_Model_add_45 : decode prog_11_method_33_code 45 = .ok (.return_, 1) := by decide +kernel
theorem d_Model_isField_0 : decode prog_11_method_15_code 0 = .ok (.iload_n 1, 1) := by decide +kernel
theorem d_Model_isField_1 : decode prog_11_method_15_code 1 = .ok (.ifCond .lt 15, 3) := by decide +kernel
theorem d_Model_isField_4 : decode prog_11_method_15_code 4 = .ok (.iload_n 1, 1) := by decide +kernel
theorem d_Model_isField_5 : decode prog_11_method_15_code 5 = .ok (.aload_n 0, 1) := by decide +kernel
theorem d_Model_isField_6 : decode prog_11_method_15_code 6 = .ok (.getfield 116, 3) := by decide +kernel
theorem d_Model_isField_9 : decode prog_11_method_15_code 9 = .ok (.if_icmp .ge 7, 3) := by decide +kernel
theorem d_Model_isField_12 : decode prog_11_method_15_code 12 = .ok (.iconst 1, 1) := by decide +kernel
theorem d_Model_isField_13 : decode prog_11_method_15_code 13 = .ok (.goto 4, 3) := by decide +kernel
theorem d_Model_isField_16 : decode prog_11_method_15_code 16 = .ok (.iconst 0, 1) := by decide +kernel
theorem d_Model_isField_17 : decode prog_11_method_15_code 17 = .ok (.ireturn, 1) := by decide +kernel
theorem d_Model_beginPart_0 : decode prog_11_method_32_code 0 = .ok (.sipush 1000, 3) := by decide +kernel
theorem d_Model_beginPart_3 : decode prog_11_method_32_code 3 = .ok (.iload_n 1, 1) := by decide +kernel
theorem d_Model_beginPart_4 : decode prog_11_method_32_code 4 = .ok (.imul, 1) := by decide +kernel
theorem d_Model_beginPart_5 : decode prog_11_method_32_code 5 = .ok (.aload_n 0, 1) := by decide +kernel
theorem d_Model_beginPart_6 : decode prog_11_method_32_code 6 = .ok (.getfield 52, 3) := by decide +kernel
theorem d_Model_beginPart_9 : decode prog_11_method_32_code 9 = .ok (.iload_n 1, 1) := by decide +kernel
theorem d_Model_beginPart_10 : decode prog_11_method_32_code 10 = .ok (.iaload, 1) := by decide +kernel
theorem d_Model_beginPart_11 : decode prog_11_method_32_code 11 = .ok (.iadd, 1) := by decide +kernel
theorem d_Model_beginPart_12 : decode prog_11_method_32_code 12 = .ok (.istore_n 2, 1) := by decide +kernel
theorem d_Model_beginPart_13 : decode prog_11_method_32_code 13 = .ok (.aload_n 0, 1) := by decide +kernel
theorem d_Model_beginPart_14 : decode prog_11_method_32_code 14 = .ok (.getfield 55, 3) := by decide +kernel
theorem d_Model_beginPart_17 : decode prog_11_method_32_code 17 = .ok (.iload_n 2, 1) := by decide +kernel
theorem d_Model_beginPart_18 : decode prog_11_method_32_code 18 = .ok (.aload_n 0, 1) := by decide +kernel
theorem d_Model_beginPart_19 : decode prog_11_method_32_code 19 = .ok (.iload_n 1, 1) := by decide +kernel
theorem d_Model_beginPart_20 : decode prog_11_method_32_code 20 = .ok (.invokevirtual 188, 3) := by decide +kernel
theorem d_Model_beginPart_23 : decode prog_11_method_32_code 23 = .ok (.iastore, 1) := by decide +kernel
theorem d_Model_beginPart_24 : decode prog_11_method_32_code 24 = .ok (.aload_n 0, 1) := by decide +kernel
theorem d_Model_beginPart_25 : decode prog_11_method_32_code 25 = .ok (.getfield 58, 3) := by decide +kernel
theorem d_Model_beginPart_28 : decode prog_11_method_32_code 28 = .ok (.iload_n 2, 1) := by decide +kernel
theorem d_Model_beginPart_29 : decode prog_11_method_32_code 29 = .ok (.iconst 0, 1) := by decide +kernel
theorem d_Model_beginPart_30 : decode prog_11_method_32_code 30 = .ok (.iastore, 1) := by decide +kernel
theorem d_Model_beginPart_31 : decode prog_11_method_32_code 31 = .ok (.return_, 1) := by decide +kernel
theorem d_Model_forget_0 : decode prog_11_method_29_code 0 = .ok (.iload_n 1, 1) := by decide +kernel
theorem d_Model_forget_1 : decode prog_11_method_29_code 1 = .ok (.istore 4, 2) := by decide +kernel
theorem d_Model_forget_3 : decode prog_11_method_29_code 3 = .ok (.iload 4, 2) := by decide +kernel
theorem d_Model_forget_5 : decode prog_11_method_29_code 5 = .ok (.iload_n 2, 1) := by decide +kernel
theorem d_Model_forget_6 : decode prog_11_method_29_code 6 = .ok (.if_icmp .gt 17, 3) := by decide +kernel
theorem d_Model_forget_9 : decode prog_11_method_29_code 9 = .ok (.aload_n 0, 1) := by decide +kernel
theorem d_Model_forget_10 : decode prog_11_method_29_code 10 = .ok (.getfield 52, 3) := by decide +kernel
theorem d_Model_forget_13 : decode prog_11_method_29_code 13 = .ok (.iload 4, 2) := by decide +kernel
theorem d_Model_forget_15 : decode prog_11_method_29_code 15 = .ok (.iconst 0, 1) := by decide +kernel
theorem d_Model_forget_16 : decode prog_11_method_29_code 16 = .ok (.iastore, 1) := by decide +kernel
theorem d_Model_forget_17 : decode prog_11_method_29_code 17 = .ok (.iinc 4 1, 3) := by decide +kernel
theorem d_Model_forget_20 : decode prog_11_method_29_code 20 = .ok (.goto (-17), 3) := by decide +kernel
theorem d_Model_forget_23 : decode prog_11_method_29_code 23 = .ok (.aload_n 0, 1) := by decide +kernel
theorem d_Model_forget_24 : decode prog_11_method_29_code 24 = .ok (.getfield 49, 3) := by decide +kernel
theorem d_Model_forget_27 : decode prog_11_method_29_code 27 = .ok (.iload_n 3, 1) := by decide +kernel
theorem d_Model_forget_28 : decode prog_11_method_29_code 28 = .ok (.iconst 0, 1) := by decide +kernel
theorem d_Model_forget_29 : decode prog_11_method_29_code 29 = .ok (.iastore, 1) := by decide +kernel
theorem d_Model_forget_30 : decode prog_11_method_29_code 30 = .ok (.return_, 1) := by decide +kernel
theorem d_Model_identities_0 : decode prog_11_method_50_code 0 = .ok (.aload_n 0, 1) := by decide +kernel
theorem d_Model_identities_1 : decode prog_11_method_50_code 1 = .ok (.aload_n 0, 1) := by decide +kernel
theorem d_Model_identities_2 : decode prog_11_method_50_code 2 = .ok (.iload_n 1, 1) := by decide +kernel
theorem d_Model_identities_3 : decode prog_11_method_50_code 3 = .ok (.invokevirtual 137, 3) := by decide +kernel
theorem d_Model_identities_6 : decode prog_11_method_50_code 6 = .ok (.ifCond .eq 7, 3) := by decide +kernel
theorem d_Model_identities_9 : decode prog_11_method_50_code 9 = .ok (.iconst 0, 1) := by decide +kernel
theorem d_Model_identities_10 : decode prog_11_method_50_code 10 = .ok (.goto 4, 3) := by decide +kernel
theorem d_Model_identities_13 : decode prog_11_method_50_code 13 = .ok (.iconst 1, 1) := by decide +kernel
theorem d_Model_identities_14 : decode prog_11_method_50_code 14 = .ok (.putfield 99, 3) := by decide +kernel
theorem d_Model_identities_17 : decode prog_11_method_50_code 17 = .ok (.aload_n 0, 1) := by decide +kernel
theorem d_Model_identities_18 : decode prog_11_method_50_code 18 = .ok (.getfield 99, 3) := by decide +kernel
theorem d_Model_identities_21 : decode prog_11_method_50_code 21 = .ok (.ifCond .eq 5, 3) := by decide +kernel
theorem d_Model_identities_24 : decode prog_11_method_50_code 24 = .ok (.iconst 0, 1) := by decide +kernel
theorem d_Model_identities_25 : decode prog_11_method_50_code 25 = .ok (.ireturn, 1) := by decide +kernel
theorem d_Model_identities_26 : decode prog_11_method_50_code 26 = .ok (.aload_n 0, 1) := by decide +kernel
theorem d_Model_identities_27 : decode prog_11_method_50_code 27 = .ok (.iconst 4, 1) := by decide +kernel
theorem d_Model_identities_28 : decode prog_11_method_50_code 28 = .ok (.iconst 4, 1) := by decide +kernel
theorem d_Model_identities_29 : decode prog_11_method_50_code 29 = .ok (.iconst 1, 1) := by decide +kernel
theorem d_Model_identities_30 : decode prog_11_method_50_code 30 = .ok (.invokevirtual 255, 3) := by decide +kernel
theorem d_Model_identities_33 : decode prog_11_method_50_code 33 = .ok (.aload_n 0, 1) := by decide +kernel
theorem d_Model_identities_34 : decode prog_11_method_50_code 34 = .ok (.getfield 22, 3) := by decide +kernel
theorem d_Model_identities_37 : decode prog_11_method_50_code 37 = .ok (.iload_n 1, 1) := by decide +kernel
theorem d_Model_identities_38 : decode prog_11_method_50_code 38 = .ok (.iaload, 1) := by decide +kernel
theorem d_Model_identities_39 : decode prog_11_method_50_code 39 = .ok (.istore_n 2, 1) := by decide +kernel
theorem d_Model_identities_40 : decode prog_11_method_50_code 40 = .ok (.iload_n 2, 1) := by decide +kernel
theorem d_Model_identities_41 : decode prog_11_method_50_code 41 = .ok (.aload_n 0, 1) := by decide +kernel
theorem d_Model_identities_42 : decode prog_11_method_50_code 42 = .ok (.getfield 25, 3) := by decide +kernel
theorem d_Model_identities_45 : decode prog_11_method_50_code 45 = .ok (.iload_n 1, 1) := by decide +kernel
theorem d_Model_identities_46 : decode prog_11_method_50_code 46 = .ok (.iaload, 1) := by decide +kernel
theorem d_Model_identities_47 : decode prog_11_method_50_code 47 = .ok (.iadd, 1) := by decide +kernel
theorem d_Model_identities_48 : decode prog_11_method_50_code 48 = .ok (.istore_n 3, 1) := by decide +kernel
theorem d_Model_identities_49 : decode prog_11_method_50_code 49 = .ok (.iload_n 2, 1) := by decide +kernel
theorem d_Model_identities_50 : decode prog_11_method_50_code 50 = .ok (.iload_n 3, 1) := by decide +kernel
theorem d_Model_identities_51 : decode prog_11_method_50_code 51 = .ok (.if_icmp .ge 187, 3) := by decide +kernel
theorem d_Model_identities_54 : decode prog_11_method_50_code 54 = .ok (.iload_n 2, 1) := by decide +kernel
theorem d_Model_identities_55 : decode prog_11_method_50_code 55 = .ok (.istore 4, 2) := by decide +kernel
theorem d_Model_identities_57 : decode prog_11_method_50_code 57 = .ok (.iload 4, 2) := by decide +kernel
theorem d_Model_identities_59 : decode prog_11_method_50_code 59 = .ok (.iload_n 3, 1) := by decide +kernel
theorem d_Model_identities_60 : decode prog_11_method_50_code 60 = .ok (.if_icmp .ge 21, 3) := by decide +kernel
theorem d_Model_identities_63 : decode prog_11_method_50_code 63 = .ok (.aload_n 0, 1) := by decide +kernel
theorem d_Model_identities_64 : decode prog_11_method_50_code 64 = .ok (.getfield 28, 3) := by decide +kernel
theorem d_Model_identities_67 : decode prog_11_method_50_code 67 = .ok (.iload 4, 2) := by decide +kernel
theorem d_Model_identities_69 : decode prog_11_method_50_code 69 = .ok (.iaload, 1) := by decide +kernel
theorem d_Model_identities_70 : decode prog_11_method_50_code 70 = .ok (.bipush 60, 2) := by decide +kernel
theorem d_Model_identities_72 : decode prog_11_method_50_code 72 = .ok (.if_icmp .eq 9, 3) := by decide +kernel
theorem d_Model_identities_75 : decode prog_11_method_50_code 75 = .ok (.iinc 4 1, 3) := by decide +kernel
theorem d_Model_identities_78 : decode prog_11_method_50_code 78 = .ok (.goto (-21), 3) := by decide +kernel
theorem d_Model_identities_81 : decode prog_11_method_50_code 81 = .ok (.iload 4, 2) := by decide +kernel
theorem d_Model_identities_83 : decode prog_11_method_50_code 83 = .ok (.istore 5, 2) := by decide +kernel
theorem d_Model_identities_85 : decode prog_11_method_50_code 85 = .ok (.iload 5, 2) := by decide +kernel
theorem d_Model_identities_87 : decode prog_11_method_50_code 87 = .ok (.iload_n 3, 1) := by decide +kernel
theorem d_Model_identities_88 : decode prog_11_method_50_code 88 = .ok (.if_icmp .ge 21, 3) := by decide +kernel
theorem d_Model_identities_91 : decode prog_11_method_50_code 91 = .ok (.aload_n 0, 1) := by decide +kernel
theorem d_Model_identities_92 : decode prog_11_method_50_code 92 = .ok (.getfield 28, 3) := by decide +kernel
theorem d_Model_identities_95 : decode prog_11_method_50_code 95 = .ok (.iload 5, 2) := by decide +kernel
theorem d_Model_identities_97 : decode prog_11_method_50_code 97 = .ok (.iaload, 1) := by decide +kernel
theorem d_Model_identities_98 : decode prog_11_method_50_code 98 = .ok (.bipush 62, 2) := by decide +kernel
theorem d_Model_identities_100 : decode prog_11_method_50_code 100 = .ok (.if_icmp .eq 9, 3) := by decide +kernel
theorem d_Model_identities_103 : decode prog_11_method_50_code 103 = .ok (.iinc 5 1, 3) := by decide +kernel
theorem d_Model_identities_106 : decode prog_11_method_50_code 106 = .ok (.goto (-21), 3) := by decide +kernel
theorem d_Model_identities_109 : decode prog_11_method_50_code 109 = .ok (.iconst 0, 1) := by decide +kernel
theorem d_Model_identities_110 : decode prog_11_method_50_code 110 = .ok (.istore 6, 2) := by decide +kernel
theorem d_Model_identities_112 : decode prog_11_method_50_code 112 = .ok (.iload 4, 2) := by decide +kernel
theorem d_Model_identities_114 : decode prog_11_method_50_code 114 = .ok (.iconst 1, 1) := by decide +kernel
theorem d_Model_identities_115 : decode prog_11_method_50_code 115 = .ok (.iadd, 1) := by decide +kernel
theorem d_Model_identities_116 : decode prog_11_method_50_code 116 = .ok (.istore 7, 2) := by decide +kernel
theorem d_Model_identities_118 : decode prog_11_method_50_code 118 = .ok (.iload 7, 2) := by decide +kernel
theorem d_Model_identities_120 : decode prog_11_method_50_code 120 = .ok (.iload 5, 2) := by decide +kernel
theorem d_Model_identities_122 : decode prog_11_method_50_code 122 = .ok (.if_icmp .ge 34, 3) := by decide +kernel
theorem d_Model_identities_125 : decode prog_11_method_50_code 125 = .ok (.iload 6, 2) := by decide +kernel
theorem d_Model_identities_127 : decode prog_11_method_50_code 127 = .ok (.ifCond .ne 16, 3) := by decide +kernel
theorem d_Model_identities_130 : decode prog_11_method_50_code 130 = .ok (.aload_n 0, 1) := by decide +kernel
theorem d_Model_identities_131 : decode prog_11_method_50_code 131 = .ok (.getfield 28, 3) := by decide +kernel
theorem d_Model_identities_134 : decode prog_11_method_50_code 134 = .ok (.iload 7, 2) := by decide +kernel
theorem d_Model_identities_136 : decode prog_11_method_50_code 136 = .ok (.iaload, 1) := by decide +kernel
theorem d_Model_identities_137 : decode prog_11_method_50_code 137 = .ok (.invokestatic 109, 3) := by decide +kernel
theorem d_Model_identities_140 : decode prog_11_method_50_code 140 = .ok (.ifCond .eq 7, 3) := by decide +kernel
theorem d_Model_identities_143 : decode prog_11_method_50_code 143 = .ok (.iconst 1, 1) := by decide +kernel
theorem d_Model_identities_144 : decode prog_11_method_50_code 144 = .ok (.goto 4, 3) := by decide +kernel
theorem d_Model_identities_147 : decode prog_11_method_50_code 147 = .ok (.iconst 0, 1) := by decide +kernel
theorem d_Model_identities_148 : decode prog_11_method_50_code 148 = .ok (.istore 6, 2) := by decide +kernel
theorem d_Model_identities_150 : decode prog_11_method_50_code 150 = .ok (.iinc 7 1, 3) := by decide +kernel
theorem d_Model_identities_153 : decode prog_11_method_50_code 153 = .ok (.goto (-35), 3) := by decide +kernel
theorem d_Model_identities_156 : decode prog_11_method_50_code 156 = .ok (.iload 5, 2) := by decide +kernel
theorem d_Model_identities_158 : decode prog_11_method_50_code 158 = .ok (.iload 4, 2) := by decide +kernel
theorem d_Model_identities_160 : decode prog_11_method_50_code 160 = .ok (.isub, 1) := by decide +kernel
theorem d_Model_identities_161 : decode prog_11_method_50_code 161 = .ok (.iconst 1, 1) := by decide +kernel
theorem d_Model_identities_162 : decode prog_11_method_50_code 162 = .ok (.isub, 1) := by decide +kernel
theorem d_Model_identities_163 : decode prog_11_method_50_code 163 = .ok (.istore 7, 2) := by decide +kernel
theorem d_Model_identities_165 : decode prog_11_method_50_code 165 = .ok (.iload 5, 2) := by decide +kernel
theorem d_Model_identities_167 : decode prog_11_method_50_code 167 = .ok (.iload_n 3, 1) := by decide +kernel
theorem d_Model_identities_168 : decode prog_11_method_50_code 168 = .ok (.if_icmp .ge 62, 3) := by decide +kernel
theorem d_Model_identities_171 : decode prog_11_method_50_code 171 = .ok (.iload 6, 2) := by decide +kernel
theorem d_Model_identities_173 : decode prog_11_method_50_code 173 = .ok (.ifCond .ne 57, 3) := by decide +kernel
theorem d_Model_identities_176 : decode prog_11_method_50_code 176 = .ok (.iload 7, 2) := by decide +kernel
theorem d_Model_identities_178 : decode prog_11_method_50_code 178 = .ok (.iconst 1, 1) := by decide +kernel
theorem d_Model_identities_179 : decode prog_11_method_50_code 179 = .ok (.if_icmp .lt 51, 3) := by decide +kernel
theorem d_Model_identities_182 : decode prog_11_method_50_code 182 = .ok (.iload 7, 2) := by decide +kernel
theorem d_Model_identities_184 : decode prog_11_method_50_code 184 = .ok (.bipush 100, 2) := by decide +kernel
theorem d_Model_identities_186 : decode prog_11_method_50_code 186 = .ok (.if_icmp .gt 44, 3) := by decide +kernel
theorem d_Model_identities_189 : decode prog_11_method_50_code 189 = .ok (.aload_n 0, 1) := by decide +kernel
theorem d_Model_identities_190 : decode prog_11_method_50_code 190 = .ok (.iconst 4, 1) := by decide +kernel
theorem d_Model_identities_191 : decode prog_11_method_50_code 191 = .ok (.invokevirtual 204, 3) := by decide +kernel
theorem d_Model_identities_194 : decode prog_11_method_50_code 194 = .ok (.iload 4, 2) := by decide +kernel
theorem d_Model_identities_196 : decode prog_11_method_50_code 196 = .ok (.iconst 1, 1) := by decide +kernel
theorem d_Model_identities_197 : decode prog_11_method_50_code 197 = .ok (.iadd, 1) := by decide +kernel
theorem d_Model_identities_198 : decode prog_11_method_50_code 198 = .ok (.istore 8, 2) := by decide +kernel
theorem d_Model_identities_200 : decode prog_11_method_50_code 200 = .ok (.iload 8, 2) := by decide +kernel
theorem d_Model_identities_202 : decode prog_11_method_50_code 202 = .ok (.iload 5, 2) := by decide +kernel
theorem d_Model_identities_204 : decode prog_11_method_50_code 204 = .ok (.if_icmp .ge 21, 3) := by decide +kernel
theorem d_Model_identities_207 : decode prog_11_method_50_code 207 = .ok (.aload_n 0, 1) := by decide +kernel
theorem d_Model_identities_208 : decode prog_11_method_50_code 208 = .ok (.iconst 4, 1) := by decide +kernel
theorem d_Model_identities_209 : decode prog_11_method_50_code 209 = .ok (.aload_n 0, 1) := by decide +kernel
theorem d_Model_identities_210 : decode prog_11_method_50_code 210 = .ok (.getfield 28, 3) := by decide +kernel
theorem d_Model_identities_213 : decode prog_11_method_50_code 213 = .ok (.iload 8, 2) := by decide +kernel
theorem d_Model_identities_215 : decode prog_11_method_50_code 215 = .ok (.iaload, 1) := by decide +kernel
theorem d_Model_identities_216 : decode prog_11_method_50_code 216 = .ok (.invokevirtual 191, 3) := by decide +kernel
theorem d_Model_identities_219 : decode prog_11_method_50_code 219 = .ok (.iinc 8 1, 3) := by decide +kernel
theorem d_Model_identities_222 : decode prog_11_method_50_code 222 = .ok (.goto (-22), 3) := by decide +kernel
theorem d_Model_identities_225 : decode prog_11_method_50_code 225 = .ok (.aload_n 0, 1) := by decide +kernel
theorem d_Model_identities_226 : decode prog_11_method_50_code 226 = .ok (.iconst 4, 1) := by decide +kernel
theorem d_Model_identities_227 : decode prog_11_method_50_code 227 = .ok (.invokevirtual 210, 3) := by decide +kernel
theorem d_Model_identities_230 : decode prog_11_method_50_code 230 = .ok (.iload 5, 2) := by decide +kernel
theorem d_Model_identities_232 : decode prog_11_method_50_code 232 = .ok (.iconst 1, 1) := by decide +kernel
theorem d_Model_identities_233 : decode prog_11_method_50_code 233 = .ok (.iadd, 1) := by decide +kernel
theorem d_Model_identities_234 : decode prog_11_method_50_code 234 = .ok (.istore_n 2, 1) := by decide +kernel
theorem d_Model_identities_235 : decode prog_11_method_50_code 235 = .ok (.goto (-186), 3) := by decide +kernel
theorem d_Model_identities_238 : decode prog_11_method_50_code 238 = .ok (.aload_n 0, 1) := by decide +kernel
theorem d_Model_identities_239 : decode prog_11_method_50_code 239 = .ok (.getfield 52, 3) := by decide +kernel
theorem d_Model_identities_242 : decode prog_11_method_50_code 242 = .ok (.iconst 4, 1) := by decide +kernel
theorem d_Model_identities_243 : decode prog_11_method_50_code 243 = .ok (.iaload, 1) := by decide +kernel
theorem d_Model_identities_244 : decode prog_11_method_50_code 244 = .ok (.ireturn, 1) := by decide +kernel
theorem d_Model_numberOf_0 : decode prog_11_method_54_code 0 = .ok (.iconst 0, 1) := by decide +kernel
theorem d_Model_numberOf_1 : decode prog_11_method_54_code 1 = .ok (.istore_n 3, 1) := by decide +kernel
theorem d_Model_numberOf_2 : decode prog_11_method_54_code 2 = .ok (.iload_n 1, 1) := by decide +kernel
theorem d_Model_numberOf_3 : decode prog_11_method_54_code 3 = .ok (.istore 4, 2) := by decide +kernel
theorem d_Model_numberOf_5 : decode prog_11_method_54_code 5 = .ok (.iload 4, 2) := by decide +kernel
theorem d_Model_numberOf_7 : decode prog_11_method_54_code 7 = .ok (.iload_n 2, 1) := by decide +kernel
theorem d_Model_numberOf_8 : decode prog_11_method_54_code 8 = .ok (.if_icmp .ge 36, 3) := by decide +kernel
theorem d_Model_numberOf_11 : decode prog_11_method_54_code 11 = .ok (.iload_n 3, 1) := by decide +kernel
theorem d_Model_numberOf_12 : decode prog_11_method_54_code 12 = .ok (.ldc_w 274, 3) := by decide +kernel
theorem d_Model_numberOf_15 : decode prog_11_method_54_code 15 = .ok (.if_icmp .le 7, 3) := by decide +kernel
theorem d_Model_numberOf_18 : decode prog_11_method_54_code 18 = .ok (.iload_n 3, 1) := by decide +kernel
theorem d_Model_numberOf_19 : decode prog_11_method_54_code 19 = .ok (.goto 18, 3) := by decide +kernel
theorem d_Model_numberOf_22 : decode prog_11_method_54_code 22 = .ok (.bipush 10, 2) := by decide +kernel
theorem d_Model_numberOf_24 : decode prog_11_method_54_code 24 = .ok (.iload_n 3, 1) := by decide +kernel
theorem d_Model_numberOf_25 : decode prog_11_method_54_code 25 = .ok (.imul, 1) := by decide +kernel
theorem d_Model_numberOf_26 : decode prog_11_method_54_code 26 = .ok (.aload_n 0, 1) := by decide +kernel
theorem d_Model_numberOf_27 : decode prog_11_method_54_code 27 = .ok (.getfield 43, 3) := by decide +kernel
theorem d_Model_numberOf_30 : decode prog_11_method_54_code 30 = .ok (.iload 4, 2) := by decide +kernel
theorem d_Model_numberOf_32 : decode prog_11_method_54_code 32 = .ok (.iaload, 1) := by decide +kernel
theorem d_Model_numberOf_33 : decode prog_11_method_54_code 33 = .ok (.iadd, 1) := by decide +kernel
theorem d_Model_numberOf_34 : decode prog_11_method_54_code 34 = .ok (.bipush 48, 2) := by decide +kernel
theorem d_Model_numberOf_36 : decode prog_11_method_54_code 36 = .ok (.isub, 1) := by decide +kernel
theorem d_Model_numberOf_37 : decode prog_11_method_54_code 37 = .ok (.istore_n 3, 1) := by decide +kernel
theorem d_Model_numberOf_38 : decode prog_11_method_54_code 38 = .ok (.iinc 4 1, 3) := by decide +kernel
theorem d_Model_numberOf_41 : decode prog_11_method_54_code 41 = .ok (.goto (-36), 3) := by decide +kernel
theorem d_Model_numberOf_44 : decode prog_11_method_54_code 44 = .ok (.iload_n 3, 1) := by decide +kernel
theorem d_Model_numberOf_45 : decode prog_11_method_54_code 45 = .ok (.ireturn, 1) := by decide +kernel
theorem d_Model_number_0 : decode prog_11_method_55_code 0 = .ok (.aload_n 0, 1) := by decide +kernel
theorem d_Model_number_1 : decode prog_11_method_55_code 1 = .ok (.aload_n 0, 1) := by decide +kernel
theorem d_Model_number_2 : decode prog_11_method_55_code 2 = .ok (.getfield 37, 3) := by decide +kernel
theorem d_Model_number_5 : decode prog_11_method_55_code 5 = .ok (.iload_n 1, 1) := by decide +kernel
theorem d_Model_number_6 : decode prog_11_method_55_code 6 = .ok (.iaload, 1) := by decide +kernel
theorem d_Model_number_7 : decode prog_11_method_55_code 7 = .ok (.aload_n 0, 1) := by decide +kernel
theorem d_Model_number_8 : decode prog_11_method_55_code 8 = .ok (.getfield 40, 3) := by decide +kernel
theorem d_Model_number_11 : decode prog_11_method_55_code 11 = .ok (.iload_n 1, 1) := by decide +kernel
theorem d_Model_number_12 : decode prog_11_method_55_code 12 = .ok (.iaload, 1) := by decide +kernel
theorem d_Model_number_13 : decode prog_11_method_55_code 13 = .ok (.invokevirtual 275, 3) := by decide +kernel
theorem d_Model_number_16 : decode prog_11_method_55_code 16 = .ok (.ireturn, 1) := by decide +kernel
theorem d_Model_isDigit_0 : decode prog_11_method_8_code 0 = .ok (.iload_n 0, 1) := by decide +kernel
theorem d_Model_isDigit_1 : decode prog_11_method_8_code 1 = .ok (.bipush 48, 2) := by decide +kernel
theorem d_Model_isDigit_3 : decode prog_11_method_8_code 3 = .ok (.if_icmp .lt 13, 3) := by decide +kernel
theorem d_Model_isDigit_6 : decode prog_11_method_8_code 6 = .ok (.iload_n 0, 1) := by decide +kernel
theorem d_Model_isDigit_7 : decode prog_11_method_8_code 7 = .ok (.bipush 57, 2) := by decide +kernel
theorem d_Model_isDigit_9 : decode prog_11_method_8_code 9 = .ok (.if_icmp .gt 7, 3) := by decide +kernel
theorem d_Model_isDigit_12 : decode prog_11_method_8_code 12 = .ok (.iconst 1, 1) := by decide +kernel
theorem d_Model_isDigit_13 : decode prog_11_method_8_code 13 = .ok (.goto 4, 3) := by decide +kernel
theorem d_Model_isDigit_16 : decode prog_11_method_8_code 16 = .ok (.iconst 0, 1) := by decide +kernel
theorem d_Model_isDigit_17 : decode prog_11_method_8_code 17 = .ok (.ireturn, 1) := by decide +kernel
theorem d_Model_longOf_0 : decode prog_11_method_52_code 0 = .ok (.aload_n 0, 1) := by decide +kernel
theorem d_Model_longOf_1 : decode prog_11_method_52_code 1 = .ok (.getfield 40, 3) := by decide +kernel
theorem d_Model_longOf_4 : decode prog_11_method_52_code 4 = .ok (.iload_n 1, 1) := by decide +kernel
theorem d_Model_longOf_5 : decode prog_11_method_52_code 5 = .ok (.iaload, 1) := by decide +kernel
theorem d_Model_longOf_6 : decode prog_11_method_52_code 6 = .ok (.aload_n 0, 1) := by decide +kernel
theorem d_Model_longOf_7 : decode prog_11_method_52_code 7 = .ok (.getfield 37, 3) := by decide +kernel
theorem d_Model_longOf_10 : decode prog_11_method_52_code 10 = .ok (.iload_n 1, 1) := by decide +kernel
theorem d_Model_longOf_11 : decode prog_11_method_52_code 11 = .ok (.iaload, 1) := by decide +kernel
theorem d_Model_longOf_12 : decode prog_11_method_52_code 12 = .ok (.isub, 1) := by decide +kernel
theorem d_Model_longOf_13 : decode prog_11_method_52_code 13 = .ok (.ireturn, 1) := by decide +kernel
theorem d_Model_isDigits_0 : decode prog_11_method_53_code 0 = .ok (.iload_n 1, 1) := by decide +kernel
theorem d_Model_isDigits_1 : decode prog_11_method_53_code 1 = .ok (.aload_n 0, 1) := by decide +kernel
theorem d_Model_isDigits_2 : decode prog_11_method_53_code 2 = .ok (.getfield 149, 3) := by decide +kernel
theorem d_Model_isDigits_5 : decode prog_11_method_53_code 5 = .ok (.if_icmp .ge 31, 3) := by decide +kernel
theorem d_Model_isDigits_8 : decode prog_11_method_53_code 8 = .ok (.aload_n 0, 1) := by decide +kernel
theorem d_Model_isDigits_9 : decode prog_11_method_53_code 9 = .ok (.getfield 31, 3) := by decide +kernel
theorem d_Model_isDigits_12 : decode prog_11_method_53_code 12 = .ok (.iload_n 1, 1) := by decide +kernel
theorem d_Model_isDigits_13 : decode prog_11_method_53_code 13 = .ok (.iaload, 1) := by decide +kernel
theorem d_Model_isDigits_14 : decode prog_11_method_53_code 14 = .ok (.iconst 4, 1) := by decide +kernel
theorem d_Model_isDigits_15 : decode prog_11_method_53_code 15 = .ok (.if_icmp .ne 21, 3) := by decide +kernel
theorem d_Model_isDigits_18 : decode prog_11_method_53_code 18 = .ok (.aload_n 0, 1) := by decide +kernel
theorem d_Model_isDigits_19 : decode prog_11_method_53_code 19 = .ok (.iload_n 1, 1) := by decide +kernel
theorem d_Model_isDigits_20 : decode prog_11_method_53_code 20 = .ok (.invokevirtual 268, 3) := by decide +kernel
theorem d_Model_isDigits_23 : decode prog_11_method_53_code 23 = .ok (.iload_n 2, 1) := by decide +kernel
theorem d_Model_isDigits_24 : decode prog_11_method_53_code 24 = .ok (.if_icmp .lt 12, 3) := by decide +kernel
theorem d_Model_isDigits_27 : decode prog_11_method_53_code 27 = .ok (.aload_n 0, 1) := by decide +kernel
theorem d_Model_isDigits_28 : decode prog_11_method_53_code 28 = .ok (.iload_n 1, 1) := by decide +kernel
theorem d_Model_isDigits_29 : decode prog_11_method_53_code 29 = .ok (.invokevirtual 268, 3) := by decide +kernel
theorem d_Model_isDigits_32 : decode prog_11_method_53_code 32 = .ok (.iload_n 3, 1) := by decide +kernel
theorem d_Model_isDigits_33 : decode prog_11_method_53_code 33 = .ok (.if_icmp .le 5, 3) := by decide +kernel
theorem d_Model_isDigits_36 : decode prog_11_method_53_code 36 = .ok (.iconst 0, 1) := by decide +kernel
theorem d_Model_isDigits_37 : decode prog_11_method_53_code 37 = .ok (.ireturn, 1) := by decide +kernel
theorem d_Model_isDigits_38 : decode prog_11_method_53_code 38 = .ok (.aload_n 0, 1) := by decide +kernel
theorem d_Model_isDigits_39 : decode prog_11_method_53_code 39 = .ok (.getfield 37, 3) := by decide +kernel
theorem d_Model_isDigits_42 : decode prog_11_method_53_code 42 = .ok (.iload_n 1, 1) := by decide +kernel
theorem d_Model_isDigits_43 : decode prog_11_method_53_code 43 = .ok (.iaload, 1) := by decide +kernel
theorem d_Model_isDigits_44 : decode prog_11_method_53_code 44 = .ok (.istore 4, 2) := by decide +kernel
theorem d_Model_isDigits_46 : decode prog_11_method_53_code 46 = .ok (.iload 4, 2) := by decide +kernel
theorem d_Model_isDigits_48 : decode prog_11_method_53_code 48 = .ok (.aload_n 0, 1) := by decide +kernel
theorem d_Model_isDigits_49 : decode prog_11_method_53_code 49 = .ok (.getfield 40, 3) := by decide +kernel
theorem d_Model_isDigits_52 : decode prog_11_method_53_code 52 = .ok (.iload_n 1, 1) := by decide +kernel
theorem d_Model_isDigits_53 : decode prog_11_method_53_code 53 = .ok (.iaload, 1) := by decide +kernel
theorem d_Model_isDigits_54 : decode prog_11_method_53_code 54 = .ok (.if_icmp .ge 24, 3) := by decide +kernel
theorem d_Model_isDigits_57 : decode prog_11_method_53_code 57 = .ok (.aload_n 0, 1) := by decide +kernel
theorem d_Model_isDigits_58 : decode prog_11_method_53_code 58 = .ok (.getfield 43, 3) := by decide +kernel
theorem d_Model_isDigits_61 : decode prog_11_method_53_code 61 = .ok (.iload 4, 2) := by decide +kernel
theorem d_Model_isDigits_63 : decode prog_11_method_53_code 63 = .ok (.iaload, 1) := by decide +kernel
theorem d_Model_isDigits_64 : decode prog_11_method_53_code 64 = .ok (.invokestatic 271, 3) := by decide +kernel
theorem d_Model_isDigits_67 : decode prog_11_method_53_code 67 = .ok (.ifCond .ne 5, 3) := by decide +kernel
theorem d_Model_isDigits_70 : decode prog_11_method_53_code 70 = .ok (.iconst 0, 1) := by decide +kernel
theorem d_Model_isDigits_71 : decode prog_11_method_53_code 71 = .ok (.ireturn, 1) := by decide +kernel
theorem d_Model_isDigits_72 : decode prog_11_method_53_code 72 = .ok (.iinc 4 1, 3) := by decide +kernel
theorem d_Model_isDigits_75 : decode prog_11_method_53_code 75 = .ok (.goto (-29), 3) := by decide +kernel
theorem d_Model_isDigits_78 : decode prog_11_method_53_code 78 = .ok (.iconst 1, 1) := by decide +kernel
theorem d_Model_isDigits_79 : decode prog_11_method_53_code 79 = .ok (.ireturn, 1) := by decide +kernel
theorem d_Model_two_0 : decode prog_11_method_62_code 0 = .ok (.aload_n 0, 1) := by decide +kernel
theorem d_Model_two_1 : decode prog_11_method_62_code 1 = .ok (.aload_n 0, 1) := by decide +kernel
theorem d_Model_two_2 : decode prog_11_method_62_code 2 = .ok (.getfield 265, 3) := by decide +kernel
theorem d_Model_two_5 : decode prog_11_method_62_code 5 = .ok (.iconst 2, 1) := by decide +kernel
theorem d_Model_two_6 : decode prog_11_method_62_code 6 = .ok (.iconst 2, 1) := by decide +kernel
theorem d_Model_two_7 : decode prog_11_method_62_code 7 = .ok (.invokevirtual 294, 3) := by decide +kernel
theorem d_Model_two_10 : decode prog_11_method_62_code 10 = .ok (.ifCond .eq 14, 3) := by decide +kernel
theorem d_Model_two_13 : decode prog_11_method_62_code 13 = .ok (.aload_n 0, 1) := by decide +kernel
theorem d_Model_two_14 : decode prog_11_method_62_code 14 = .ok (.aload_n 0, 1) := by decide +kernel
theorem d_Model_two_15 : decode prog_11_method_62_code 15 = .ok (.getfield 265, 3) := by decide +kernel
theorem d_Model_two_18 : decode prog_11_method_62_code 18 = .ok (.invokevirtual 297, 3) := by decide +kernel
theorem d_Model_two_21 : decode prog_11_method_62_code 21 = .ok (.goto 4, 3) := by decide +kernel
theorem d_Model_two_24 : decode prog_11_method_62_code 24 = .ok (.iconst (-1), 1) := by decide +kernel
theorem d_Model_two_25 : decode prog_11_method_62_code 25 = .ok (.istore_n 2, 1) := by decide +kernel
theorem d_Model_two_26 : decode prog_11_method_62_code 26 = .ok (.iload_n 2, 1) := by decide +kernel
theorem d_Model_two_27 : decode prog_11_method_62_code 27 = .ok (.iload_n 1, 1) := by decide +kernel
theorem d_Model_two_28 : decode prog_11_method_62_code 28 = .ok (.if_icmp .ge 7, 3) := by decide +kernel
theorem d_Model_two_31 : decode prog_11_method_62_code 31 = .ok (.iload_n 2, 1) := by decide +kernel
theorem d_Model_two_32 : decode prog_11_method_62_code 32 = .ok (.goto 4, 3) := by decide +kernel
theorem d_Model_two_35 : decode prog_11_method_62_code 35 = .ok (.iconst (-1), 1) := by decide +kernel
theorem d_Model_two_36 : decode prog_11_method_62_code 36 = .ok (.ireturn, 1) := by decide +kernel
theorem d_Model_next_0 : decode prog_11_method_28_code 0 = .ok (.iload_n 1, 1) := by decide +kernel
theorem d_Model_next_1 : decode prog_11_method_28_code 1 = .ok (.istore_n 3, 1) := by decide +kernel
theorem d_Model_next_2 : decode prog_11_method_28_code 2 = .ok (.iload_n 3, 1) := by decide +kernel
theorem d_Model_next_3 : decode prog_11_method_28_code 3 = .ok (.iload_n 2, 1) := by decide +kernel
theorem d_Model_next_4 : decode prog_11_method_28_code 4 = .ok (.if_icmp .ge 18, 3) := by decide +kernel
theorem d_Model_next_7 : decode prog_11_method_28_code 7 = .ok (.aload_n 0, 1) := by decide +kernel
theorem d_Model_next_8 : decode prog_11_method_28_code 8 = .ok (.getfield 31, 3) := by decide +kernel
theorem d_Model_next_11 : decode prog_11_method_28_code 11 = .ok (.iload_n 3, 1) := by decide +kernel
theorem d_Model_next_12 : decode prog_11_method_28_code 12 = .ok (.iaload, 1) := by decide +kernel
theorem d_Model_next_13 : decode prog_11_method_28_code 13 = .ok (.ifCond .ne 9, 3) := by decide +kernel
theorem d_Model_next_16 : decode prog_11_method_28_code 16 = .ok (.iinc 3 1, 3) := by decide +kernel
theorem d_Model_next_19 : decode prog_11_method_28_code 19 = .ok (.goto (-17), 3) := by decide +kernel
theorem d_Model_next_22 : decode prog_11_method_28_code 22 = .ok (.iload_n 3, 1) := by decide +kernel
theorem d_Model_next_23 : decode prog_11_method_28_code 23 = .ok (.ireturn, 1) := by decide +kernel
theorem d_Model_beginWord_0 : decode prog_11_method_19_code 0 = .ok (.aload_n 0, 1) := by decide +kernel
theorem d_Model_beginWord_1 : decode prog_11_method_19_code 1 = .ok (.getfield 31, 3) := by decide +kernel
theorem d_Model_beginWord_4 : decode prog_11_method_19_code 4 = .ok (.aload_n 0, 1) := by decide +kernel
theorem d_Model_beginWord_5 : decode prog_11_method_19_code 5 = .ok (.getfield 149, 3) := by decide +kernel
theorem d_Model_beginWord_8 : decode prog_11_method_19_code 8 = .ok (.iload_n 1, 1) := by decide +kernel
theorem d_Model_beginWord_9 : decode prog_11_method_19_code 9 = .ok (.iastore, 1) := by decide +kernel
theorem d_Model_beginWord_10 : decode prog_11_method_19_code 10 = .ok (.aload_n 0, 1) := by decide +kernel
theorem d_Model_beginWord_11 : decode prog_11_method_19_code 11 = .ok (.getfield 34, 3) := by decide +kernel
theorem d_Model_beginWord_14 : decode prog_11_method_19_code 14 = .ok (.aload_n 0, 1) := by decide +kernel
theorem d_Model_beginWord_15 : decode prog_11_method_19_code 15 = .ok (.getfield 149, 3) := by decide +kernel
theorem d_Model_beginWord_18 : decode prog_11_method_19_code 18 = .ok (.iload_n 2, 1) := by decide +kernel
theorem d_Model_beginWord_19 : decode prog_11_method_19_code 19 = .ok (.iastore, 1) := by decide +kernel
theorem d_Model_beginWord_20 : decode prog_11_method_19_code 20 = .ok (.aload_n 0, 1) := by decide +kernel
theorem d_Model_beginWord_21 : decode prog_11_method_19_code 21 = .ok (.getfield 37, 3) := by decide +kernel
theorem d_Model_beginWord_24 : decode prog_11_method_19_code 24 = .ok (.aload_n 0, 1) := by decide +kernel
theorem d_Model_beginWord_25 : decode prog_11_method_19_code 25 = .ok (.getfield 149, 3) := by decide +kernel
theorem d_Model_beginWord_28 : decode prog_11_method_19_code 28 = .ok (.aload_n 0, 1) := by decide +kernel
theorem d_Model_beginWord_29 : decode prog_11_method_19_code 29 = .ok (.getfield 152, 3) := by decide +kernel
theorem d_Model_beginWord_32 : decode prog_11_method_19_code 32 = .ok (.iastore, 1) := by decide +kernel
theorem d_Model_beginWord_33 : decode prog_11_method_19_code 33 = .ok (.return_, 1) := by decide +kernel
theorem d_Model_endWord_0 : decode prog_11_method_20_code 0 = .ok (.aload_n 0, 1) := by decide +kernel
theorem d_Model_endWord_1 : decode prog_11_method_20_code 1 = .ok (.getfield 40, 3) := by decide +kernel
theorem d_Model_endWord_4 : decode prog_11_method_20_code 4 = .ok (.aload_n 0, 1) := by decide +kernel
theorem d_Model_endWord_5 : decode prog_11_method_20_code 5 = .ok (.getfield 149, 3) := by decide +kernel
theorem d_Model_endWord_8 : decode prog_11_method_20_code 8 = .ok (.aload_n 0, 1) := by decide +kernel
theorem d_Model_endWord_9 : decode prog_11_method_20_code 9 = .ok (.getfield 152, 3) := by decide +kernel
theorem d_Model_endWord_12 : decode prog_11_method_20_code 12 = .ok (.iastore, 1) := by decide +kernel
theorem d_Model_endWord_13 : decode prog_11_method_20_code 13 = .ok (.aload_n 0, 1) := by decide +kernel
theorem d_Model_endWord_14 : decode prog_11_method_20_code 14 = .ok (.dup, 1) := by decide +kernel
theorem d_Model_endWord_15 : decode prog_11_method_20_code 15 = .ok (.getfield 149, 3) := by decide +kernel
theorem d_Model_endWord_18 : decode prog_11_method_20_code 18 = .ok (.iconst 1, 1) := by decide +kernel
theorem d_Model_endWord_19 : decode prog_11_method_20_code 19 = .ok (.iadd, 1) := by decide +kernel
theorem d_Model_endWord_20 : decode prog_11_method_20_code 20 = .ok (.putfield 149, 3) := by decide +kernel
theorem d_Model_endWord_23 : decode prog_11_method_20_code 23 = .ok (.return_, 1) := by decide +kernel
theorem d_Model_put_0 : decode prog_11_method_21_code 0 = .ok (.aload_n 0, 1) := by decide +kernel
theorem d_Model_put_1 : decode prog_11_method_21_code 1 = .ok (.getfield 43, 3) := by decide +kernel
theorem d_Model_put_4 : decode prog_11_method_21_code 4 = .ok (.aload_n 0, 1) := by decide +kernel
theorem d_Model_put_5 : decode prog_11_method_21_code 5 = .ok (.getfield 152, 3) := by decide +kernel
theorem d_Model_put_8 : decode prog_11_method_21_code 8 = .ok (.iload_n 1, 1) := by decide +kernel
theorem d_Model_put_9 : decode prog_11_method_21_code 9 = .ok (.iastore, 1) := by decide +kernel
theorem d_Model_put_10 : decode prog_11_method_21_code 10 = .ok (.aload_n 0, 1) := by decide +kernel
theorem d_Model_put_11 : decode prog_11_method_21_code 11 = .ok (.dup, 1) := by decide +kernel
theorem d_Model_put_12 : decode prog_11_method_21_code 12 = .ok (.getfield 152, 3) := by decide +kernel
theorem d_Model_put_15 : decode prog_11_method_21_code 15 = .ok (.iconst 1, 1) := by decide +kernel
theorem d_Model_put_16 : decode prog_11_method_21_code 16 = .ok (.iadd, 1) := by decide +kernel
theorem d_Model_put_17 : decode prog_11_method_21_code 17 = .ok (.putfield 152, 3) := by decide +kernel
theorem d_Model_put_20 : decode prog_11_method_21_code 20 = .ok (.return_, 1) := by decide +kernel
theorem d_Model_takeEnclosed_0 : decode prog_11_method_22_code 0 = .ok (.aload_n 0, 1) := by decide +kernel
theorem d_Model_takeEnclosed_1 : decode prog_11_method_22_code 1 = .ok (.iload_n 1, 1) := by decide +kernel
theorem d_Model_takeEnclosed_2 : decode prog_11_method_22_code 2 = .ok (.iconst 0, 1) := by decide +kernel
theorem d_Model_takeEnclosed_3 : decode prog_11_method_22_code 3 = .ok (.invokevirtual 155, 3) := by decide +kernel
theorem d_Model_takeEnclosed_6 : decode prog_11_method_22_code 6 = .ok (.aload_n 0, 1) := by decide +kernel
theorem d_Model_takeEnclosed_7 : decode prog_11_method_22_code 7 = .ok (.dup, 1) := by decide +kernel
theorem d_Model_takeEnclosed_8 : decode prog_11_method_22_code 8 = .ok (.getfield 143, 3) := by decide +kernel
theorem d_Model_takeEnclosed_11 : decode prog_11_method_22_code 11 = .ok (.iconst 1, 1) := by decide +kernel
theorem d_Model_takeEnclosed_12 : decode prog_11_method_22_code 12 = .ok (.iadd, 1) := by decide +kernel
theorem d_Model_takeEnclosed_13 : decode prog_11_method_22_code 13 = .ok (.putfield 143, 3) := by decide +kernel
theorem d_Model_takeEnclosed_16 : decode prog_11_method_22_code 16 = .ok (.iconst 1, 1) := by decide +kernel
theorem d_Model_takeEnclosed_17 : decode prog_11_method_22_code 17 = .ok (.istore_n 3, 1) := by decide +kernel
theorem d_Model_takeEnclosed_18 : decode prog_11_method_22_code 18 = .ok (.aload_n 0, 1) := by decide +kernel
theorem d_Model_takeEnclosed_19 : decode prog_11_method_22_code 19 = .ok (.getfield 143, 3) := by decide +kernel
theorem d_Model_takeEnclosed_22 : decode prog_11_method_22_code 22 = .ok (.aload_n 0, 1) := by decide +kernel
theorem d_Model_takeEnclosed_23 : decode prog_11_method_22_code 23 = .ok (.getfield 146, 3) := by decide +kernel
theorem d_Model_takeEnclosed_26 : decode prog_11_method_22_code 26 = .ok (.if_icmp .ge 108, 3) := by decide +kernel
theorem d_Model_takeEnclosed_29 : decode prog_11_method_22_code 29 = .ok (.iload_n 3, 1) := by decide +kernel
theorem d_Model_takeEnclosed_30 : decode prog_11_method_22_code 30 = .ok (.ifCond .le 104, 3) := by decide +kernel
theorem d_Model_takeEnclosed_33 : decode prog_11_method_22_code 33 = .ok (.aload_n 0, 1) := by decide +kernel
theorem d_Model_takeEnclosed_34 : decode prog_11_method_22_code 34 = .ok (.getfield 28, 3) := by decide +kernel
theorem d_Model_takeEnclosed_37 : decode prog_11_method_22_code 37 = .ok (.aload_n 0, 1) := by decide +kernel
theorem d_Model_takeEnclosed_38 : decode prog_11_method_22_code 38 = .ok (.getfield 143, 3) := by decide +kernel
theorem d_Model_takeEnclosed_41 : decode prog_11_method_22_code 41 = .ok (.iaload, 1) := by decide +kernel
theorem d_Model_takeEnclosed_42 : decode prog_11_method_22_code 42 = .ok (.istore 4, 2) := by decide +kernel
theorem d_Model_takeEnclosed_44 : decode prog_11_method_22_code 44 = .ok (.aload_n 0, 1) := by decide +kernel
theorem d_Model_takeEnclosed_45 : decode prog_11_method_22_code 45 = .ok (.dup, 1) := by decide +kernel
theorem d_Model_takeEnclosed_46 : decode prog_11_method_22_code 46 = .ok (.getfield 143, 3) := by decide +kernel
theorem d_Model_takeEnclosed_49 : decode prog_11_method_22_code 49 = .ok (.iconst 1, 1) := by decide +kernel
theorem d_Model_takeEnclosed_50 : decode prog_11_method_22_code 50 = .ok (.iadd, 1) := by decide +kernel
theorem d_Model_takeEnclosed_51 : decode prog_11_method_22_code 51 = .ok (.putfield 143, 3) := by decide +kernel
theorem d_Model_takeEnclosed_54 : decode prog_11_method_22_code 54 = .ok (.iload 4, 2) := by decide +kernel
theorem d_Model_takeEnclosed_56 : decode prog_11_method_22_code 56 = .ok (.bipush 92, 2) := by decide +kernel
theorem d_Model_takeEnclosed_58 : decode prog_11_method_22_code 58 = .ok (.if_icmp .ne 40, 3) := by decide +kernel
theorem d_Model_takeEnclosed_61 : decode prog_11_method_22_code 61 = .ok (.aload_n 0, 1) := by decide +kernel
theorem d_Model_takeEnclosed_62 : decode prog_11_method_22_code 62 = .ok (.getfield 143, 3) := by decide +kernel
theorem d_Model_takeEnclosed_65 : decode prog_11_method_22_code 65 = .ok (.aload_n 0, 1) := by decide +kernel
theorem d_Model_takeEnclosed_66 : decode prog_11_method_22_code 66 = .ok (.getfield 146, 3) := by decide +kernel
theorem d_Model_takeEnclosed_69 : decode prog_11_method_22_code 69 = .ok (.if_icmp .ge 62, 3) := by decide +kernel
theorem d_Model_takeEnclosed_72 : decode prog_11_method_22_code 72 = .ok (.aload_n 0, 1) := by decide +kernel
theorem d_Model_takeEnclosed_73 : decode prog_11_method_22_code 73 = .ok (.aload_n 0, 1) := by decide +kernel
theorem d_Model_takeEnclosed_74 : decode prog_11_method_22_code 74 = .ok (.getfield 28, 3) := by decide +kernel
theorem d_Model_takeEnclosed_77 : decode prog_11_method_22_code 77 = .ok (.aload_n 0, 1) := by decide +kernel
theorem d_Model_takeEnclosed_78 : decode prog_11_method_22_code 78 = .ok (.getfield 143, 3) := by decide +kernel
theorem d_Model_takeEnclosed_81 : decode prog_11_method_22_code 81 = .ok (.iaload, 1) := by decide +kernel
theorem d_Model_takeEnclosed_82 : decode prog_11_method_22_code 82 = .ok (.invokevirtual 158, 3) := by decide +kernel
theorem d_Model_takeEnclosed_85 : decode prog_11_method_22_code 85 = .ok (.aload_n 0, 1) := by decide +kernel
theorem d_Model_takeEnclosed_86 : decode prog_11_method_22_code 86 = .ok (.dup, 1) := by decide +kernel
theorem d_Model_takeEnclosed_87 : decode prog_11_method_22_code 87 = .ok (.getfield 143, 3) := by decide +kernel
theorem d_Model_takeEnclosed_90 : decode prog_11_method_22_code 90 = .ok (.iconst 1, 1) := by decide +kernel
theorem d_Model_takeEnclosed_91 : decode prog_11_method_22_code 91 = .ok (.iadd, 1) := by decide +kernel
theorem d_Model_takeEnclosed_92 : decode prog_11_method_22_code 92 = .ok (.putfield 143, 3) := by decide +kernel
theorem d_Model_takeEnclosed_95 : decode prog_11_method_22_code 95 = .ok (.goto 36, 3) := by decide +kernel
theorem d_Model_takeEnclosed_98 : decode prog_11_method_22_code 98 = .ok (.iload_n 1, 1) := by decide +kernel
theorem d_Model_takeEnclosed_99 : decode prog_11_method_22_code 99 = .ok (.ifCond .ne 13, 3) := by decide +kernel
theorem d_Model_takeEnclosed_102 : decode prog_11_method_22_code 102 = .ok (.iload 4, 2) := by decide +kernel
theorem d_Model_takeEnclosed_104 : decode prog_11_method_22_code 104 = .ok (.bipush 40, 2) := by decide +kernel
theorem d_Model_takeEnclosed_106 : decode prog_11_method_22_code 106 = .ok (.if_icmp .ne 6, 3) := by decide +kernel
theorem d_Model_takeEnclosed_109 : decode prog_11_method_22_code 109 = .ok (.iinc 3 1, 3) := by decide +kernel
theorem d_Model_takeEnclosed_112 : decode prog_11_method_22_code 112 = .ok (.iload 4, 2) := by decide +kernel
theorem d_Model_takeEnclosed_114 : decode prog_11_method_22_code 114 = .ok (.iload_n 2, 1) := by decide +kernel
theorem d_Model_takeEnclosed_115 : decode prog_11_method_22_code 115 = .ok (.if_icmp .ne 6, 3) := by decide +kernel
theorem d_Model_takeEnclosed_118 : decode prog_11_method_22_code 118 = .ok (.iinc 3 (-1), 3) := by decide +kernel
theorem d_Model_takeEnclosed_121 : decode prog_11_method_22_code 121 = .ok (.iload_n 3, 1) := by decide +kernel
theorem d_Model_takeEnclosed_122 : decode prog_11_method_22_code 122 = .ok (.ifCond .le 9, 3) := by decide +kernel
theorem d_Model_takeEnclosed_125 : decode prog_11_method_22_code 125 = .ok (.aload_n 0, 1) := by decide +kernel
theorem d_Model_takeEnclosed_126 : decode prog_11_method_22_code 126 = .ok (.iload 4, 2) := by decide +kernel
theorem d_Model_takeEnclosed_128 : decode prog_11_method_22_code 128 = .ok (.invokevirtual 158, 3) := by decide +kernel
theorem d_Model_takeEnclosed_131 : decode prog_11_method_22_code 131 = .ok (.goto (-113), 3) := by decide +kernel
theorem d_Model_takeEnclosed_134 : decode prog_11_method_22_code 134 = .ok (.aload_n 0, 1) := by decide +kernel
theorem d_Model_takeEnclosed_135 : decode prog_11_method_22_code 135 = .ok (.invokevirtual 162, 3) := by decide +kernel
theorem d_Model_takeEnclosed_138 : decode prog_11_method_22_code 138 = .ok (.return_, 1) := by decide +kernel
theorem d_Model_isNothing_0 : decode prog_11_method_24_code 0 = .ok (.iload_n 0, 1) := by decide +kernel
theorem d_Model_isNothing_1 : decode prog_11_method_24_code 1 = .ok (.bipush 32, 2) := by decide +kernel
theorem d_Model_isNothing_3 : decode prog_11_method_24_code 3 = .ok (.if_icmp .le 9, 3) := by decide +kernel
theorem d_Model_isNothing_6 : decode prog_11_method_24_code 6 = .ok (.iload_n 0, 1) := by decide +kernel
theorem d_Model_isNothing_7 : decode prog_11_method_24_code 7 = .ok (.bipush 127, 2) := by decide +kernel
theorem d_Model_isNothing_9 : decode prog_11_method_24_code 9 = .ok (.if_icmp .ne 7, 3) := by decide +kernel
theorem d_Model_isNothing_12 : decode prog_11_method_24_code 12 = .ok (.iconst 1, 1) := by decide +kernel
theorem d_Model_isNothing_13 : decode prog_11_method_24_code 13 = .ok (.goto 4, 3) := by decide +kernel
theorem d_Model_isNothing_16 : decode prog_11_method_24_code 16 = .ok (.iconst 0, 1) := by decide +kernel
theorem d_Model_isNothing_17 : decode prog_11_method_24_code 17 = .ok (.ireturn, 1) := by decide +kernel
theorem d_Model_isSign_0 : decode prog_11_method_23_code 0 = .ok (.iload_n 1, 1) := by decide +kernel
theorem d_Model_isSign_1 : decode prog_11_method_23_code 1 = .ok (.bipush 60, 2) := by decide +kernel
theorem d_Model_isSign_3 : decode prog_11_method_23_code 3 = .ok (.if_icmp .eq 51, 3) := by decide +kernel
theorem d_Model_isSign_6 : decode prog_11_method_23_code 6 = .ok (.iload_n 1, 1) := by decide +kernel
theorem d_Model_isSign_7 : decode prog_11_method_23_code 7 = .ok (.bipush 62, 2) := by decide +kernel
theorem d_Model_isSign_9 : decode prog_11_method_23_code 9 = .ok (.if_icmp .eq 45, 3) := by decide +kernel
theorem d_Model_isSign_12 : decode prog_11_method_23_code 12 = .ok (.iload_n 1, 1) := by decide +kernel
theorem d_Model_isSign_13 : decode prog_11_method_23_code 13 = .ok (.bipush 58, 2) := by decide +kernel
theorem d_Model_isSign_15 : decode prog_11_method_23_code 15 = .ok (.if_icmp .eq 39, 3) := by decide +kernel
theorem d_Model_isSign_18 : decode prog_11_method_23_code 18 = .ok (.iload_n 1, 1) := by decide +kernel
theorem d_Model_isSign_19 : decode prog_11_method_23_code 19 = .ok (.bipush 59, 2) := by decide +kernel
theorem d_Model_isSign_21 : decode prog_11_method_23_code 21 = .ok (.if_icmp .eq 33, 3) := by decide +kernel
theorem d_Model_isSign_24 : decode prog_11_method_23_code 24 = .ok (.iload_n 1, 1) := by decide +kernel
theorem d_Model_isSign_25 : decode prog_11_method_23_code 25 = .ok (.bipush 64, 2) := by decide +kernel
theorem d_Model_isSign_27 : decode prog_11_method_23_code 27 = .ok (.if_icmp .eq 27, 3) := by decide +kernel
theorem d_Model_isSign_30 : decode prog_11_method_23_code 30 = .ok (.iload_n 1, 1) := by decide +kernel
theorem d_Model_isSign_31 : decode prog_11_method_23_code 31 = .ok (.bipush 44, 2) := by decide +kernel
theorem d_Model_isSign_33 : decode prog_11_method_23_code 33 = .ok (.if_icmp .eq 21, 3) := by decide +kernel
theorem d_Model_isSign_36 : decode prog_11_method_23_code 36 = .ok (.iload_n 1, 1) := by decide +kernel
theorem d_Model_isSign_37 : decode prog_11_method_23_code 37 = .ok (.bipush 41, 2) := by decide +kernel
theorem d_Model_isSign_39 : decode prog_11_method_23_code 39 = .ok (.if_icmp .eq 15, 3) := by decide +kernel
theorem d_Model_isSign_42 : decode prog_11_method_23_code 42 = .ok (.iload_n 1, 1) := by decide +kernel
theorem d_Model_isSign_43 : decode prog_11_method_23_code 43 = .ok (.bipush 93, 2) := by decide +kernel
theorem d_Model_isSign_45 : decode prog_11_method_23_code 45 = .ok (.if_icmp .eq 9, 3) := by decide +kernel
theorem d_Model_isSign_48 : decode prog_11_method_23_code 48 = .ok (.iload_n 1, 1) := by decide +kernel
theorem d_Model_isSign_49 : decode prog_11_method_23_code 49 = .ok (.bipush 92, 2) := by decide +kernel
theorem d_Model_isSign_51 : decode prog_11_method_23_code 51 = .ok (.if_icmp .ne 5, 3) := by decide +kernel
theorem d_Model_isSign_54 : decode prog_11_method_23_code 54 = .ok (.iconst 1, 1) := by decide +kernel
theorem d_Model_isSign_55 : decode prog_11_method_23_code 55 = .ok (.ireturn, 1) := by decide +kernel
theorem d_Model_isSign_56 : decode prog_11_method_23_code 56 = .ok (.aload_n 0, 1) := by decide +kernel
end
section
theorem d_Model_isSign_57 : decode prog_11_method_23_code 57 = .ok (.getfield 165, 3) := by decide +kernel
theorem d_Model_isSign_60 : decode prog_11_method_23_code 60 = .ok (.ifCond .eq 23, 3) := by decide +kernel
theorem d_Model_isSign_63 : decode prog_11_method_23_code 63 = .ok (.iload_n 1, 1) := by decide +kernel
theorem d_Model_isSign_64 : decode prog_11_method_23_code 64 = .ok (.bipush 61, 2) := by decide +kernel
theorem d_Model_isSign_66 : decode prog_11_method_23_code 66 = .ok (.if_icmp .eq 9, 3) := by decide +kernel
theorem d_Model_isSign_69 : decode prog_11_method_23_code 69 = .ok (.iload_n 1, 1) := by decide +kernel
theorem d_Model_isSign_70 : decode prog_11_method_23_code 70 = .ok (.bipush 47, 2) := by decide +kernel
theorem d_Model_isSign_72 : decode prog_11_method_23_code 72 = .ok (.if_icmp .ne 7, 3) := by decide +kernel
theorem d_Model_isSign_75 : decode prog_11_method_23_code 75 = .ok (.iconst 1, 1) := by decide +kernel
theorem d_Model_isSign_76 : decode prog_11_method_23_code 76 = .ok (.goto 18, 3) := by decide +kernel
theorem d_Model_isSign_79 : decode prog_11_method_23_code 79 = .ok (.iconst 0, 1) := by decide +kernel
theorem d_Model_isSign_80 : decode prog_11_method_23_code 80 = .ok (.goto 14, 3) := by decide +kernel
theorem d_Model_isSign_83 : decode prog_11_method_23_code 83 = .ok (.iload_n 1, 1) := by decide +kernel
theorem d_Model_isSign_84 : decode prog_11_method_23_code 84 = .ok (.bipush 46, 2) := by decide +kernel
theorem d_Model_isSign_86 : decode prog_11_method_23_code 86 = .ok (.if_icmp .ne 7, 3) := by decide +kernel
theorem d_Model_isSign_89 : decode prog_11_method_23_code 89 = .ok (.iconst 1, 1) := by decide +kernel
theorem d_Model_isSign_90 : decode prog_11_method_23_code 90 = .ok (.goto 4, 3) := by decide +kernel
theorem d_Model_isSign_93 : decode prog_11_method_23_code 93 = .ok (.iconst 0, 1) := by decide +kernel
theorem d_Model_isSign_94 : decode prog_11_method_23_code 94 = .ok (.ireturn, 1) := by decide +kernel
theorem d_Model_look_0 : decode prog_11_method_18_code 0 = .ok (.aload_n 0, 1) := by decide +kernel
theorem d_Model_look_1 : decode prog_11_method_18_code 1 = .ok (.getfield 143, 3) := by decide +kernel
theorem d_Model_look_4 : decode prog_11_method_18_code 4 = .ok (.aload_n 0, 1) := by decide +kernel
theorem d_Model_look_5 : decode prog_11_method_18_code 5 = .ok (.getfield 146, 3) := by decide +kernel
theorem d_Model_look_8 : decode prog_11_method_18_code 8 = .ok (.if_icmp .ge 15, 3) := by decide +kernel
theorem d_Model_look_11 : decode prog_11_method_18_code 11 = .ok (.aload_n 0, 1) := by decide +kernel
theorem d_Model_look_12 : decode prog_11_method_18_code 12 = .ok (.getfield 28, 3) := by decide +kernel
theorem d_Model_look_15 : decode prog_11_method_18_code 15 = .ok (.aload_n 0, 1) := by decide +kernel
theorem d_Model_look_16 : decode prog_11_method_18_code 16 = .ok (.getfield 143, 3) := by decide +kernel
theorem d_Model_look_19 : decode prog_11_method_18_code 19 = .ok (.iaload, 1) := by decide +kernel
theorem d_Model_look_20 : decode prog_11_method_18_code 20 = .ok (.goto 4, 3) := by decide +kernel
theorem d_Model_look_23 : decode prog_11_method_18_code 23 = .ok (.iconst (-1), 1) := by decide +kernel
theorem d_Model_look_24 : decode prog_11_method_18_code 24 = .ok (.ireturn, 1) := by decide +kernel
theorem d_Model_takeAtom_0 : decode prog_11_method_26_code 0 = .ok (.aload_n 0, 1) := by decide +kernel
theorem d_Model_takeAtom_1 : decode prog_11_method_26_code 1 = .ok (.iconst 4, 1) := by decide +kernel
theorem d_Model_takeAtom_2 : decode prog_11_method_26_code 2 = .ok (.iconst 0, 1) := by decide +kernel
theorem d_Model_takeAtom_3 : decode prog_11_method_26_code 3 = .ok (.invokevirtual 155, 3) := by decide +kernel
theorem d_Model_takeAtom_6 : decode prog_11_method_26_code 6 = .ok (.aload_n 0, 1) := by decide +kernel
theorem d_Model_takeAtom_7 : decode prog_11_method_26_code 7 = .ok (.invokevirtual 181, 3) := by decide +kernel
theorem d_Model_takeAtom_10 : decode prog_11_method_26_code 10 = .ok (.istore_n 1, 1) := by decide +kernel
theorem d_Model_takeAtom_11 : decode prog_11_method_26_code 11 = .ok (.iload_n 1, 1) := by decide +kernel
theorem d_Model_takeAtom_12 : decode prog_11_method_26_code 12 = .ok (.iconst (-1), 1) := by decide +kernel
theorem d_Model_takeAtom_13 : decode prog_11_method_26_code 13 = .ok (.if_icmp .eq 59, 3) := by decide +kernel
theorem d_Model_takeAtom_16 : decode prog_11_method_26_code 16 = .ok (.iload_n 1, 1) := by decide +kernel
theorem d_Model_takeAtom_17 : decode prog_11_method_26_code 17 = .ok (.invokestatic 169, 3) := by decide +kernel
theorem d_Model_takeAtom_20 : decode prog_11_method_26_code 20 = .ok (.ifCond .ne 52, 3) := by decide +kernel
theorem d_Model_takeAtom_23 : decode prog_11_method_26_code 23 = .ok (.iload_n 1, 1) := by decide +kernel
theorem d_Model_takeAtom_24 : decode prog_11_method_26_code 24 = .ok (.bipush 40, 2) := by decide +kernel
theorem d_Model_takeAtom_26 : decode prog_11_method_26_code 26 = .ok (.if_icmp .eq 46, 3) := by decide +kernel
theorem d_Model_takeAtom_29 : decode prog_11_method_26_code 29 = .ok (.iload_n 1, 1) := by decide +kernel
theorem d_Model_takeAtom_30 : decode prog_11_method_26_code 30 = .ok (.bipush 34, 2) := by decide +kernel
theorem d_Model_takeAtom_32 : decode prog_11_method_26_code 32 = .ok (.if_icmp .eq 40, 3) := by decide +kernel
theorem d_Model_takeAtom_35 : decode prog_11_method_26_code 35 = .ok (.iload_n 1, 1) := by decide +kernel
theorem d_Model_takeAtom_36 : decode prog_11_method_26_code 36 = .ok (.bipush 91, 2) := by decide +kernel
theorem d_Model_takeAtom_38 : decode prog_11_method_26_code 38 = .ok (.if_icmp .eq 34, 3) := by decide +kernel
theorem d_Model_takeAtom_41 : decode prog_11_method_26_code 41 = .ok (.aload_n 0, 1) := by decide +kernel
theorem d_Model_takeAtom_42 : decode prog_11_method_26_code 42 = .ok (.iload_n 1, 1) := by decide +kernel
theorem d_Model_takeAtom_43 : decode prog_11_method_26_code 43 = .ok (.invokevirtual 175, 3) := by decide +kernel
theorem d_Model_takeAtom_46 : decode prog_11_method_26_code 46 = .ok (.ifCond .ne 26, 3) := by decide +kernel
theorem d_Model_takeAtom_49 : decode prog_11_method_26_code 49 = .ok (.aload_n 0, 1) := by decide +kernel
theorem d_Model_takeAtom_50 : decode prog_11_method_26_code 50 = .ok (.iload_n 1, 1) := by decide +kernel
theorem d_Model_takeAtom_51 : decode prog_11_method_26_code 51 = .ok (.invokevirtual 158, 3) := by decide +kernel
theorem d_Model_takeAtom_54 : decode prog_11_method_26_code 54 = .ok (.aload_n 0, 1) := by decide +kernel
theorem d_Model_takeAtom_55 : decode prog_11_method_26_code 55 = .ok (.dup, 1) := by decide +kernel
theorem d_Model_takeAtom_56 : decode prog_11_method_26_code 56 = .ok (.getfield 143, 3) := by decide +kernel
theorem d_Model_takeAtom_59 : decode prog_11_method_26_code 59 = .ok (.iconst 1, 1) := by decide +kernel
theorem d_Model_takeAtom_60 : decode prog_11_method_26_code 60 = .ok (.iadd, 1) := by decide +kernel
theorem d_Model_takeAtom_61 : decode prog_11_method_26_code 61 = .ok (.putfield 143, 3) := by decide +kernel
theorem d_Model_takeAtom_64 : decode prog_11_method_26_code 64 = .ok (.aload_n 0, 1) := by decide +kernel
theorem d_Model_takeAtom_65 : decode prog_11_method_26_code 65 = .ok (.invokevirtual 181, 3) := by decide +kernel
theorem d_Model_takeAtom_68 : decode prog_11_method_26_code 68 = .ok (.istore_n 1, 1) := by decide +kernel
theorem d_Model_takeAtom_69 : decode prog_11_method_26_code 69 = .ok (.goto (-58), 3) := by decide +kernel
theorem d_Model_takeAtom_72 : decode prog_11_method_26_code 72 = .ok (.aload_n 0, 1) := by decide +kernel
theorem d_Model_takeAtom_73 : decode prog_11_method_26_code 73 = .ok (.invokevirtual 162, 3) := by decide +kernel
theorem d_Model_takeAtom_76 : decode prog_11_method_26_code 76 = .ok (.return_, 1) := by decide +kernel
theorem d_Model_cut_0 : decode prog_11_method_25_code 0 = .ok (.aload_n 0, 1) := by decide +kernel
theorem d_Model_cut_1 : decode prog_11_method_25_code 1 = .ok (.iconst 0, 1) := by decide +kernel
theorem d_Model_cut_2 : decode prog_11_method_25_code 2 = .ok (.putfield 149, 3) := by decide +kernel
theorem d_Model_cut_5 : decode prog_11_method_25_code 5 = .ok (.aload_n 0, 1) := by decide +kernel
theorem d_Model_cut_6 : decode prog_11_method_25_code 6 = .ok (.iconst 0, 1) := by decide +kernel
theorem d_Model_cut_7 : decode prog_11_method_25_code 7 = .ok (.putfield 152, 3) := by decide +kernel
theorem d_Model_cut_10 : decode prog_11_method_25_code 10 = .ok (.aload_n 0, 1) := by decide +kernel
theorem d_Model_cut_11 : decode prog_11_method_25_code 11 = .ok (.iload_n 2, 1) := by decide +kernel
theorem d_Model_cut_12 : decode prog_11_method_25_code 12 = .ok (.putfield 165, 3) := by decide +kernel
theorem d_Model_cut_15 : decode prog_11_method_25_code 15 = .ok (.aload_n 0, 1) := by decide +kernel
theorem d_Model_cut_16 : decode prog_11_method_25_code 16 = .ok (.aload_n 0, 1) := by decide +kernel
theorem d_Model_cut_17 : decode prog_11_method_25_code 17 = .ok (.getfield 22, 3) := by decide +kernel
theorem d_Model_cut_20 : decode prog_11_method_25_code 20 = .ok (.iload_n 1, 1) := by decide +kernel
theorem d_Model_cut_21 : decode prog_11_method_25_code 21 = .ok (.iaload, 1) := by decide +kernel
theorem d_Model_cut_22 : decode prog_11_method_25_code 22 = .ok (.putfield 143, 3) := by decide +kernel
theorem d_Model_cut_25 : decode prog_11_method_25_code 25 = .ok (.aload_n 0, 1) := by decide +kernel
theorem d_Model_cut_26 : decode prog_11_method_25_code 26 = .ok (.aload_n 0, 1) := by decide +kernel
theorem d_Model_cut_27 : decode prog_11_method_25_code 27 = .ok (.getfield 143, 3) := by decide +kernel
theorem d_Model_cut_30 : decode prog_11_method_25_code 30 = .ok (.aload_n 0, 1) := by decide +kernel
theorem d_Model_cut_31 : decode prog_11_method_25_code 31 = .ok (.getfield 25, 3) := by decide +kernel
theorem d_Model_cut_34 : decode prog_11_method_25_code 34 = .ok (.iload_n 1, 1) := by decide +kernel
theorem d_Model_cut_35 : decode prog_11_method_25_code 35 = .ok (.iaload, 1) := by decide +kernel
theorem d_Model_cut_36 : decode prog_11_method_25_code 36 = .ok (.iadd, 1) := by decide +kernel
theorem d_Model_cut_37 : decode prog_11_method_25_code 37 = .ok (.putfield 146, 3) := by decide +kernel
theorem d_Model_cut_40 : decode prog_11_method_25_code 40 = .ok (.aload_n 0, 1) := by decide +kernel
theorem d_Model_cut_41 : decode prog_11_method_25_code 41 = .ok (.getfield 143, 3) := by decide +kernel
theorem d_Model_cut_44 : decode prog_11_method_25_code 44 = .ok (.aload_n 0, 1) := by decide +kernel
theorem d_Model_cut_45 : decode prog_11_method_25_code 45 = .ok (.getfield 146, 3) := by decide +kernel
theorem d_Model_cut_48 : decode prog_11_method_25_code 48 = .ok (.if_icmp .ge 124, 3) := by decide +kernel
theorem d_Model_cut_51 : decode prog_11_method_25_code 51 = .ok (.aload_n 0, 1) := by decide +kernel
theorem d_Model_cut_52 : decode prog_11_method_25_code 52 = .ok (.getfield 28, 3) := by decide +kernel
theorem d_Model_cut_55 : decode prog_11_method_25_code 55 = .ok (.aload_n 0, 1) := by decide +kernel
theorem d_Model_cut_56 : decode prog_11_method_25_code 56 = .ok (.getfield 143, 3) := by decide +kernel
theorem d_Model_cut_59 : decode prog_11_method_25_code 59 = .ok (.iaload, 1) := by decide +kernel
theorem d_Model_cut_60 : decode prog_11_method_25_code 60 = .ok (.istore_n 3, 1) := by decide +kernel
theorem d_Model_cut_61 : decode prog_11_method_25_code 61 = .ok (.iload_n 3, 1) := by decide +kernel
theorem d_Model_cut_62 : decode prog_11_method_25_code 62 = .ok (.invokestatic 169, 3) := by decide +kernel
theorem d_Model_cut_65 : decode prog_11_method_25_code 65 = .ok (.ifCond .eq 16, 3) := by decide +kernel
theorem d_Model_cut_68 : decode prog_11_method_25_code 68 = .ok (.aload_n 0, 1) := by decide +kernel
theorem d_Model_cut_69 : decode prog_11_method_25_code 69 = .ok (.dup, 1) := by decide +kernel
theorem d_Model_cut_70 : decode prog_11_method_25_code 70 = .ok (.getfield 143, 3) := by decide +kernel
theorem d_Model_cut_73 : decode prog_11_method_25_code 73 = .ok (.iconst 1, 1) := by decide +kernel
theorem d_Model_cut_74 : decode prog_11_method_25_code 74 = .ok (.iadd, 1) := by decide +kernel
theorem d_Model_cut_75 : decode prog_11_method_25_code 75 = .ok (.putfield 143, 3) := by decide +kernel
theorem d_Model_cut_78 : decode prog_11_method_25_code 78 = .ok (.goto 91, 3) := by decide +kernel
theorem d_Model_cut_81 : decode prog_11_method_25_code 81 = .ok (.iload_n 3, 1) := by decide +kernel
theorem d_Model_cut_82 : decode prog_11_method_25_code 82 = .ok (.bipush 40, 2) := by decide +kernel
theorem d_Model_cut_84 : decode prog_11_method_25_code 84 = .ok (.if_icmp .ne 13, 3) := by decide +kernel
theorem d_Model_cut_87 : decode prog_11_method_25_code 87 = .ok (.aload_n 0, 1) := by decide +kernel
theorem d_Model_cut_88 : decode prog_11_method_25_code 88 = .ok (.iconst 0, 1) := by decide +kernel
theorem d_Model_cut_89 : decode prog_11_method_25_code 89 = .ok (.bipush 41, 2) := by decide +kernel
theorem d_Model_cut_91 : decode prog_11_method_25_code 91 = .ok (.invokevirtual 172, 3) := by decide +kernel
theorem d_Model_cut_94 : decode prog_11_method_25_code 94 = .ok (.goto 75, 3) := by decide +kernel
theorem d_Model_cut_97 : decode prog_11_method_25_code 97 = .ok (.iload_n 3, 1) := by decide +kernel
theorem d_Model_cut_98 : decode prog_11_method_25_code 98 = .ok (.bipush 34, 2) := by decide +kernel
theorem d_Model_cut_100 : decode prog_11_method_25_code 100 = .ok (.if_icmp .ne 13, 3) := by decide +kernel
theorem d_Model_cut_103 : decode prog_11_method_25_code 103 = .ok (.aload_n 0, 1) := by decide +kernel
theorem d_Model_cut_104 : decode prog_11_method_25_code 104 = .ok (.iconst 1, 1) := by decide +kernel
theorem d_Model_cut_105 : decode prog_11_method_25_code 105 = .ok (.bipush 34, 2) := by decide +kernel
theorem d_Model_cut_107 : decode prog_11_method_25_code 107 = .ok (.invokevirtual 172, 3) := by decide +kernel
theorem d_Model_cut_110 : decode prog_11_method_25_code 110 = .ok (.goto 59, 3) := by decide +kernel
theorem d_Model_cut_113 : decode prog_11_method_25_code 113 = .ok (.iload_n 3, 1) := by decide +kernel
theorem d_Model_cut_114 : decode prog_11_method_25_code 114 = .ok (.bipush 91, 2) := by decide +kernel
theorem d_Model_cut_116 : decode prog_11_method_25_code 116 = .ok (.if_icmp .ne 13, 3) := by decide +kernel
theorem d_Model_cut_119 : decode prog_11_method_25_code 119 = .ok (.aload_n 0, 1) := by decide +kernel
theorem d_Model_cut_120 : decode prog_11_method_25_code 120 = .ok (.iconst 2, 1) := by decide +kernel
theorem d_Model_cut_121 : decode prog_11_method_25_code 121 = .ok (.bipush 93, 2) := by decide +kernel
theorem d_Model_cut_123 : decode prog_11_method_25_code 123 = .ok (.invokevirtual 172, 3) := by decide +kernel
theorem d_Model_cut_126 : decode prog_11_method_25_code 126 = .ok (.goto 43, 3) := by decide +kernel
theorem d_Model_cut_129 : decode prog_11_method_25_code 129 = .ok (.aload_n 0, 1) := by decide +kernel
theorem d_Model_cut_130 : decode prog_11_method_25_code 130 = .ok (.iload_n 3, 1) := by decide +kernel
theorem d_Model_cut_131 : decode prog_11_method_25_code 131 = .ok (.invokevirtual 175, 3) := by decide +kernel
theorem d_Model_cut_134 : decode prog_11_method_25_code 134 = .ok (.ifCond .eq 31, 3) := by decide +kernel
theorem d_Model_cut_137 : decode prog_11_method_25_code 137 = .ok (.aload_n 0, 1) := by decide +kernel
theorem d_Model_cut_138 : decode prog_11_method_25_code 138 = .ok (.iconst 3, 1) := by decide +kernel
theorem d_Model_cut_139 : decode prog_11_method_25_code 139 = .ok (.iload_n 3, 1) := by decide +kernel
theorem d_Model_cut_140 : decode prog_11_method_25_code 140 = .ok (.invokevirtual 155, 3) := by decide +kernel
theorem d_Model_cut_143 : decode prog_11_method_25_code 143 = .ok (.aload_n 0, 1) := by decide +kernel
theorem d_Model_cut_144 : decode prog_11_method_25_code 144 = .ok (.iload_n 3, 1) := by decide +kernel
theorem d_Model_cut_145 : decode prog_11_method_25_code 145 = .ok (.invokevirtual 158, 3) := by decide +kernel
theorem d_Model_cut_148 : decode prog_11_method_25_code 148 = .ok (.aload_n 0, 1) := by decide +kernel
theorem d_Model_cut_149 : decode prog_11_method_25_code 149 = .ok (.dup, 1) := by decide +kernel
theorem d_Model_cut_150 : decode prog_11_method_25_code 150 = .ok (.getfield 143, 3) := by decide +kernel
theorem d_Model_cut_153 : decode prog_11_method_25_code 153 = .ok (.iconst 1, 1) := by decide +kernel
theorem d_Model_cut_154 : decode prog_11_method_25_code 154 = .ok (.iadd, 1) := by decide +kernel
theorem d_Model_cut_155 : decode prog_11_method_25_code 155 = .ok (.putfield 143, 3) := by decide +kernel
theorem d_Model_cut_158 : decode prog_11_method_25_code 158 = .ok (.aload_n 0, 1) := by decide +kernel
theorem d_Model_cut_159 : decode prog_11_method_25_code 159 = .ok (.invokevirtual 162, 3) := by decide +kernel
theorem d_Model_cut_162 : decode prog_11_method_25_code 162 = .ok (.goto 7, 3) := by decide +kernel
theorem d_Model_cut_165 : decode prog_11_method_25_code 165 = .ok (.aload_n 0, 1) := by decide +kernel
theorem d_Model_cut_166 : decode prog_11_method_25_code 166 = .ok (.invokevirtual 178, 3) := by decide +kernel
theorem d_Model_cut_169 : decode prog_11_method_25_code 169 = .ok (.goto (-129), 3) := by decide +kernel
theorem d_Model_cut_172 : decode prog_11_method_25_code 172 = .ok (.return_, 1) := by decide +kernel
theorem d_Model_step_0 : decode prog_11_method_51_code 0 = .ok (.aload_n 0, 1) := by decide +kernel
theorem d_Model_step_1 : decode prog_11_method_51_code 1 = .ok (.aload_n 0, 1) := by decide +kernel
theorem d_Model_step_2 : decode prog_11_method_51_code 2 = .ok (.aload_n 0, 1) := by decide +kernel
theorem d_Model_step_3 : decode prog_11_method_51_code 3 = .ok (.getfield 265, 3) := by decide +kernel
theorem d_Model_step_6 : decode prog_11_method_51_code 6 = .ok (.iconst 1, 1) := by decide +kernel
theorem d_Model_step_7 : decode prog_11_method_51_code 7 = .ok (.iadd, 1) := by decide +kernel
theorem d_Model_step_8 : decode prog_11_method_51_code 8 = .ok (.aload_n 0, 1) := by decide +kernel
theorem d_Model_step_9 : decode prog_11_method_51_code 9 = .ok (.getfield 149, 3) := by decide +kernel
theorem d_Model_step_12 : decode prog_11_method_51_code 12 = .ok (.invokevirtual 197, 3) := by decide +kernel
theorem d_Model_step_15 : decode prog_11_method_51_code 15 = .ok (.putfield 265, 3) := by decide +kernel
theorem d_Model_step_18 : decode prog_11_method_51_code 18 = .ok (.return_, 1) := by decide +kernel
theorem d_Model_isLeap_0 : decode prog_11_method_59_code 0 = .ok (.iload_n 0, 1) := by decide +kernel
theorem d_Model_isLeap_1 : decode prog_11_method_59_code 1 = .ok (.iconst 4, 1) := by decide +kernel
theorem d_Model_isLeap_2 : decode prog_11_method_59_code 2 = .ok (.irem, 1) := by decide +kernel
theorem d_Model_isLeap_3 : decode prog_11_method_59_code 3 = .ok (.ifCond .ne 22, 3) := by decide +kernel
theorem d_Model_isLeap_6 : decode prog_11_method_59_code 6 = .ok (.iload_n 0, 1) := by decide +kernel
theorem d_Model_isLeap_7 : decode prog_11_method_59_code 7 = .ok (.bipush 100, 2) := by decide +kernel
theorem d_Model_isLeap_9 : decode prog_11_method_59_code 9 = .ok (.irem, 1) := by decide +kernel
theorem d_Model_isLeap_10 : decode prog_11_method_59_code 10 = .ok (.ifCond .ne 11, 3) := by decide +kernel
theorem d_Model_isLeap_13 : decode prog_11_method_59_code 13 = .ok (.iload_n 0, 1) := by decide +kernel
theorem d_Model_isLeap_14 : decode prog_11_method_59_code 14 = .ok (.sipush 400, 3) := by decide +kernel
theorem d_Model_isLeap_17 : decode prog_11_method_59_code 17 = .ok (.irem, 1) := by decide +kernel
theorem d_Model_isLeap_18 : decode prog_11_method_59_code 18 = .ok (.ifCond .ne 7, 3) := by decide +kernel
theorem d_Model_isLeap_21 : decode prog_11_method_59_code 21 = .ok (.iconst 1, 1) := by decide +kernel
theorem d_Model_isLeap_22 : decode prog_11_method_59_code 22 = .ok (.goto 4, 3) := by decide +kernel
theorem d_Model_isLeap_25 : decode prog_11_method_59_code 25 = .ok (.iconst 0, 1) := by decide +kernel
theorem d_Model_isLeap_26 : decode prog_11_method_59_code 26 = .ok (.ireturn, 1) := by decide +kernel
theorem d_Model_daysOf_0 : decode prog_11_method_60_code 0 = .ok (.iload_n 0, 1) := by decide +kernel
theorem d_Model_daysOf_1 : decode prog_11_method_60_code 1 = .ok (.iconst 2, 1) := by decide +kernel
theorem d_Model_daysOf_2 : decode prog_11_method_60_code 2 = .ok (.if_icmp .ne 18, 3) := by decide +kernel
theorem d_Model_daysOf_5 : decode prog_11_method_60_code 5 = .ok (.iload_n 1, 1) := by decide +kernel
theorem d_Model_daysOf_6 : decode prog_11_method_60_code 6 = .ok (.invokestatic 300, 3) := by decide +kernel
theorem d_Model_daysOf_9 : decode prog_11_method_60_code 9 = .ok (.ifCond .eq 8, 3) := by decide +kernel
theorem d_Model_daysOf_12 : decode prog_11_method_60_code 12 = .ok (.bipush 29, 2) := by decide +kernel
theorem d_Model_daysOf_14 : decode prog_11_method_60_code 14 = .ok (.goto 5, 3) := by decide +kernel
theorem d_Model_daysOf_17 : decode prog_11_method_60_code 17 = .ok (.bipush 28, 2) := by decide +kernel
theorem d_Model_daysOf_19 : decode prog_11_method_60_code 19 = .ok (.ireturn, 1) := by decide +kernel
theorem d_Model_daysOf_20 : decode prog_11_method_60_code 20 = .ok (.iload_n 0, 1) := by decide +kernel
theorem d_Model_daysOf_21 : decode prog_11_method_60_code 21 = .ok (.iconst 4, 1) := by decide +kernel
theorem d_Model_daysOf_22 : decode prog_11_method_60_code 22 = .ok (.if_icmp .eq 21, 3) := by decide +kernel
theorem d_Model_daysOf_25 : decode prog_11_method_60_code 25 = .ok (.iload_n 0, 1) := by decide +kernel
theorem d_Model_daysOf_26 : decode prog_11_method_60_code 26 = .ok (.bipush 6, 2) := by decide +kernel
theorem d_Model_daysOf_28 : decode prog_11_method_60_code 28 = .ok (.if_icmp .eq 15, 3) := by decide +kernel
theorem d_Model_daysOf_31 : decode prog_11_method_60_code 31 = .ok (.iload_n 0, 1) := by decide +kernel
theorem d_Model_daysOf_32 : decode prog_11_method_60_code 32 = .ok (.bipush 9, 2) := by decide +kernel
theorem d_Model_daysOf_34 : decode prog_11_method_60_code 34 = .ok (.if_icmp .eq 9, 3) := by decide +kernel
theorem d_Model_daysOf_37 : decode prog_11_method_60_code 37 = .ok (.iload_n 0, 1) := by decide +kernel
theorem d_Model_daysOf_38 : decode prog_11_method_60_code 38 = .ok (.bipush 11, 2) := by decide +kernel
theorem d_Model_daysOf_40 : decode prog_11_method_60_code 40 = .ok (.if_icmp .ne 8, 3) := by decide +kernel
theorem d_Model_daysOf_43 : decode prog_11_method_60_code 43 = .ok (.bipush 30, 2) := by decide +kernel
theorem d_Model_daysOf_45 : decode prog_11_method_60_code 45 = .ok (.goto 5, 3) := by decide +kernel
theorem d_Model_daysOf_48 : decode prog_11_method_60_code 48 = .ok (.bipush 31, 2) := by decide +kernel
theorem d_Model_daysOf_50 : decode prog_11_method_60_code 50 = .ok (.ireturn, 1) := by decide +kernel
theorem d_Model_dayNumber_0 : decode prog_11_method_63_code 0 = .ok (.lconst 0, 1) := by decide +kernel
theorem d_Model_dayNumber_1 : decode prog_11_method_63_code 1 = .ok (.lstore 4, 2) := by decide +kernel
theorem d_Model_dayNumber_3 : decode prog_11_method_63_code 3 = .ok (.sipush 1900, 3) := by decide +kernel
theorem d_Model_dayNumber_6 : decode prog_11_method_63_code 6 = .ok (.istore 6, 2) := by decide +kernel
theorem d_Model_dayNumber_8 : decode prog_11_method_63_code 8 = .ok (.iload 6, 2) := by decide +kernel
theorem d_Model_dayNumber_10 : decode prog_11_method_63_code 10 = .ok (.iload_n 3, 1) := by decide +kernel
theorem d_Model_dayNumber_11 : decode prog_11_method_63_code 11 = .ok (.if_icmp .ge 31, 3) := by decide +kernel
theorem d_Model_dayNumber_14 : decode prog_11_method_63_code 14 = .ok (.lload 4, 2) := by decide +kernel
theorem d_Model_dayNumber_16 : decode prog_11_method_63_code 16 = .ok (.iload 6, 2) := by decide +kernel
theorem d_Model_dayNumber_18 : decode prog_11_method_63_code 18 = .ok (.invokestatic 300, 3) := by decide +kernel
theorem d_Model_dayNumber_21 : decode prog_11_method_63_code 21 = .ok (.ifCond .eq 9, 3) := by decide +kernel
theorem d_Model_dayNumber_24 : decode prog_11_method_63_code 24 = .ok (.ldc2_w 311, 3) := by decide +kernel
theorem d_Model_dayNumber_27 : decode prog_11_method_63_code 27 = .ok (.goto 6, 3) := by decide +kernel
theorem d_Model_dayNumber_30 : decode prog_11_method_63_code 30 = .ok (.ldc2_w 313, 3) := by decide +kernel
theorem d_Model_dayNumber_33 : decode prog_11_method_63_code 33 = .ok (.ladd, 1) := by decide +kernel
theorem d_Model_dayNumber_34 : decode prog_11_method_63_code 34 = .ok (.lstore 4, 2) := by decide +kernel
theorem d_Model_dayNumber_36 : decode prog_11_method_63_code 36 = .ok (.iinc 6 1, 3) := by decide +kernel
theorem d_Model_dayNumber_39 : decode prog_11_method_63_code 39 = .ok (.goto (-31), 3) := by decide +kernel
theorem d_Model_dayNumber_42 : decode prog_11_method_63_code 42 = .ok (.iconst 1, 1) := by decide +kernel
theorem d_Model_dayNumber_43 : decode prog_11_method_63_code 43 = .ok (.istore 6, 2) := by decide +kernel
theorem d_Model_dayNumber_45 : decode prog_11_method_63_code 45 = .ok (.iload 6, 2) := by decide +kernel
theorem d_Model_dayNumber_47 : decode prog_11_method_63_code 47 = .ok (.iload_n 2, 1) := by decide +kernel
theorem d_Model_dayNumber_48 : decode prog_11_method_63_code 48 = .ok (.if_icmp .ge 21, 3) := by decide +kernel
theorem d_Model_dayNumber_51 : decode prog_11_method_63_code 51 = .ok (.lload 4, 2) := by decide +kernel
theorem d_Model_dayNumber_53 : decode prog_11_method_63_code 53 = .ok (.iload 6, 2) := by decide +kernel
theorem d_Model_dayNumber_55 : decode prog_11_method_63_code 55 = .ok (.iload_n 3, 1) := by decide +kernel
theorem d_Model_dayNumber_56 : decode prog_11_method_63_code 56 = .ok (.invokestatic 315, 3) := by decide +kernel
theorem d_Model_dayNumber_59 : decode prog_11_method_63_code 59 = .ok (.i2l, 1) := by decide +kernel
theorem d_Model_dayNumber_60 : decode prog_11_method_63_code 60 = .ok (.ladd, 1) := by decide +kernel
theorem d_Model_dayNumber_61 : decode prog_11_method_63_code 61 = .ok (.lstore 4, 2) := by decide +kernel
theorem d_Model_dayNumber_63 : decode prog_11_method_63_code 63 = .ok (.iinc 6 1, 3) := by decide +kernel
theorem d_Model_dayNumber_66 : decode prog_11_method_63_code 66 = .ok (.goto (-21), 3) := by decide +kernel
theorem d_Model_dayNumber_69 : decode prog_11_method_63_code 69 = .ok (.lload 4, 2) := by decide +kernel
theorem d_Model_dayNumber_71 : decode prog_11_method_63_code 71 = .ok (.iload_n 1, 1) := by decide +kernel
theorem d_Model_dayNumber_72 : decode prog_11_method_63_code 72 = .ok (.i2l, 1) := by decide +kernel
theorem d_Model_dayNumber_73 : decode prog_11_method_63_code 73 = .ok (.ladd, 1) := by decide +kernel
theorem d_Model_dayNumber_74 : decode prog_11_method_63_code 74 = .ok (.lconst 1, 1) := by decide +kernel
theorem d_Model_dayNumber_75 : decode prog_11_method_63_code 75 = .ok (.lsub, 1) := by decide +kernel
theorem d_Model_dayNumber_76 : decode prog_11_method_63_code 76 = .ok (.ldc2_w 318, 3) := by decide +kernel
theorem d_Model_dayNumber_79 : decode prog_11_method_63_code 79 = .ok (.lsub, 1) := by decide +kernel
theorem d_Model_dayNumber_80 : decode prog_11_method_63_code 80 = .ok (.lreturn, 1) := by decide +kernel
theorem d_Model_small_0 : decode prog_11_method_7_code 0 = .ok (.iload_n 0, 1) := by decide +kernel
theorem d_Model_small_1 : decode prog_11_method_7_code 1 = .ok (.bipush 65, 2) := by decide +kernel
theorem d_Model_small_3 : decode prog_11_method_7_code 3 = .ok (.if_icmp .lt 16, 3) := by decide +kernel
theorem d_Model_small_6 : decode prog_11_method_7_code 6 = .ok (.iload_n 0, 1) := by decide +kernel
theorem d_Model_small_7 : decode prog_11_method_7_code 7 = .ok (.bipush 90, 2) := by decide +kernel
theorem d_Model_small_9 : decode prog_11_method_7_code 9 = .ok (.if_icmp .gt 10, 3) := by decide +kernel
theorem d_Model_small_12 : decode prog_11_method_7_code 12 = .ok (.iload_n 0, 1) := by decide +kernel
theorem d_Model_small_13 : decode prog_11_method_7_code 13 = .ok (.bipush 32, 2) := by decide +kernel
theorem d_Model_small_15 : decode prog_11_method_7_code 15 = .ok (.iadd, 1) := by decide +kernel
theorem d_Model_small_16 : decode prog_11_method_7_code 16 = .ok (.goto 4, 3) := by decide +kernel
theorem d_Model_small_19 : decode prog_11_method_7_code 19 = .ok (.iload_n 0, 1) := by decide +kernel
theorem d_Model_small_20 : decode prog_11_method_7_code 20 = .ok (.ireturn, 1) := by decide +kernel
theorem d_Model_isThree_0 : decode prog_11_method_56_code 0 = .ok (.iconst 0, 1) := by decide +kernel
theorem d_Model_isThree_1 : decode prog_11_method_56_code 1 = .ok (.istore 4, 2) := by decide +kernel
theorem d_Model_isThree_3 : decode prog_11_method_56_code 3 = .ok (.iload 4, 2) := by decide +kernel
theorem d_Model_isThree_5 : decode prog_11_method_56_code 5 = .ok (.iconst 3, 1) := by decide +kernel
theorem d_Model_isThree_6 : decode prog_11_method_56_code 6 = .ok (.if_icmp .ge 47, 3) := by decide +kernel
theorem d_Model_isThree_9 : decode prog_11_method_56_code 9 = .ok (.aload_n 0, 1) := by decide +kernel
theorem d_Model_isThree_10 : decode prog_11_method_56_code 10 = .ok (.getfield 43, 3) := by decide +kernel
theorem d_Model_isThree_13 : decode prog_11_method_56_code 13 = .ok (.aload_n 0, 1) := by decide +kernel
theorem d_Model_isThree_14 : decode prog_11_method_56_code 14 = .ok (.getfield 37, 3) := by decide +kernel
theorem d_Model_isThree_17 : decode prog_11_method_56_code 17 = .ok (.iload_n 1, 1) := by decide +kernel
theorem d_Model_isThree_18 : decode prog_11_method_56_code 18 = .ok (.iaload, 1) := by decide +kernel
theorem d_Model_isThree_19 : decode prog_11_method_56_code 19 = .ok (.iload_n 2, 1) := by decide +kernel
theorem d_Model_isThree_20 : decode prog_11_method_56_code 20 = .ok (.iadd, 1) := by decide +kernel
theorem d_Model_isThree_21 : decode prog_11_method_56_code 21 = .ok (.iload 4, 2) := by decide +kernel
theorem d_Model_isThree_23 : decode prog_11_method_56_code 23 = .ok (.iadd, 1) := by decide +kernel
theorem d_Model_isThree_24 : decode prog_11_method_56_code 24 = .ok (.iaload, 1) := by decide +kernel
theorem d_Model_isThree_25 : decode prog_11_method_56_code 25 = .ok (.invokestatic 133, 3) := by decide +kernel
theorem d_Model_isThree_28 : decode prog_11_method_56_code 28 = .ok (.iload_n 3, 1) := by decide +kernel
theorem d_Model_isThree_29 : decode prog_11_method_56_code 29 = .ok (.bipush 16, 2) := by decide +kernel
theorem d_Model_isThree_31 : decode prog_11_method_56_code 31 = .ok (.bipush 8, 2) := by decide +kernel
theorem d_Model_isThree_33 : decode prog_11_method_56_code 33 = .ok (.iload 4, 2) := by decide +kernel
theorem d_Model_isThree_35 : decode prog_11_method_56_code 35 = .ok (.imul, 1) := by decide +kernel
theorem d_Model_isThree_36 : decode prog_11_method_56_code 36 = .ok (.isub, 1) := by decide +kernel
theorem d_Model_isThree_37 : decode prog_11_method_56_code 37 = .ok (.ishr, 1) := by decide +kernel
theorem d_Model_isThree_38 : decode prog_11_method_56_code 38 = .ok (.sipush 255, 3) := by decide +kernel
theorem d_Model_isThree_41 : decode prog_11_method_56_code 41 = .ok (.iand, 1) := by decide +kernel
theorem d_Model_isThree_42 : decode prog_11_method_56_code 42 = .ok (.if_icmp .eq 5, 3) := by decide +kernel
theorem d_Model_isThree_45 : decode prog_11_method_56_code 45 = .ok (.iconst 0, 1) := by decide +kernel
theorem d_Model_isThree_46 : decode prog_11_method_56_code 46 = .ok (.ireturn, 1) := by decide +kernel
theorem d_Model_isThree_47 : decode prog_11_method_56_code 47 = .ok (.iinc 4 1, 3) := by decide +kernel
theorem d_Model_isThree_50 : decode prog_11_method_56_code 50 = .ok (.goto (-47), 3) := by decide +kernel
theorem d_Model_isThree_53 : decode prog_11_method_56_code 53 = .ok (.iconst 1, 1) := by decide +kernel
theorem d_Model_isThree_54 : decode prog_11_method_56_code 54 = .ok (.ireturn, 1) := by decide +kernel
theorem d_Model_zoneOf_0 : decode prog_11_method_61_code 0 = .ok (.iload_n 1, 1) := by decide +kernel
theorem d_Model_zoneOf_1 : decode prog_11_method_61_code 1 = .ok (.aload_n 0, 1) := by decide +kernel
theorem d_Model_zoneOf_2 : decode prog_11_method_61_code 2 = .ok (.getfield 149, 3) := by decide +kernel
theorem d_Model_zoneOf_5 : decode prog_11_method_61_code 5 = .ok (.if_icmp .ge 13, 3) := by decide +kernel
theorem d_Model_zoneOf_8 : decode prog_11_method_61_code 8 = .ok (.aload_n 0, 1) := by decide +kernel
theorem d_Model_zoneOf_9 : decode prog_11_method_61_code 9 = .ok (.getfield 31, 3) := by decide +kernel
theorem d_Model_zoneOf_12 : decode prog_11_method_61_code 12 = .ok (.iload_n 1, 1) := by decide +kernel
theorem d_Model_zoneOf_13 : decode prog_11_method_61_code 13 = .ok (.iaload, 1) := by decide +kernel
theorem d_Model_zoneOf_14 : decode prog_11_method_61_code 14 = .ok (.iconst 4, 1) := by decide +kernel
theorem d_Model_zoneOf_15 : decode prog_11_method_61_code 15 = .ok (.if_icmp .eq 5, 3) := by decide +kernel
theorem d_Model_zoneOf_18 : decode prog_11_method_61_code 18 = .ok (.iconst 0, 1) := by decide +kernel
theorem d_Model_zoneOf_19 : decode prog_11_method_61_code 19 = .ok (.ireturn, 1) := by decide +kernel
theorem d_Model_zoneOf_20 : decode prog_11_method_61_code 20 = .ok (.aload_n 0, 1) := by decide +kernel
theorem d_Model_zoneOf_21 : decode prog_11_method_61_code 21 = .ok (.getfield 37, 3) := by decide +kernel
theorem d_Model_zoneOf_24 : decode prog_11_method_61_code 24 = .ok (.iload_n 1, 1) := by decide +kernel
theorem d_Model_zoneOf_25 : decode prog_11_method_61_code 25 = .ok (.iaload, 1) := by decide +kernel
theorem d_Model_zoneOf_26 : decode prog_11_method_61_code 26 = .ok (.istore_n 2, 1) := by decide +kernel
theorem d_Model_zoneOf_27 : decode prog_11_method_61_code 27 = .ok (.aload_n 0, 1) := by decide +kernel
theorem d_Model_zoneOf_28 : decode prog_11_method_61_code 28 = .ok (.iload_n 1, 1) := by decide +kernel
theorem d_Model_zoneOf_29 : decode prog_11_method_61_code 29 = .ok (.invokevirtual 268, 3) := by decide +kernel
theorem d_Model_zoneOf_32 : decode prog_11_method_61_code 32 = .ok (.istore_n 3, 1) := by decide +kernel
theorem d_Model_zoneOf_33 : decode prog_11_method_61_code 33 = .ok (.aload_n 0, 1) := by decide +kernel
theorem d_Model_zoneOf_34 : decode prog_11_method_61_code 34 = .ok (.getfield 43, 3) := by decide +kernel
theorem d_Model_zoneOf_37 : decode prog_11_method_61_code 37 = .ok (.iload_n 2, 1) := by decide +kernel
theorem d_Model_zoneOf_38 : decode prog_11_method_61_code 38 = .ok (.iaload, 1) := by decide +kernel
theorem d_Model_zoneOf_39 : decode prog_11_method_61_code 39 = .ok (.bipush 43, 2) := by decide +kernel
theorem d_Model_zoneOf_41 : decode prog_11_method_61_code 41 = .ok (.if_icmp .ne 7, 3) := by decide +kernel
theorem d_Model_zoneOf_44 : decode prog_11_method_61_code 44 = .ok (.iconst 1, 1) := by decide +kernel
theorem d_Model_zoneOf_45 : decode prog_11_method_61_code 45 = .ok (.goto 4, 3) := by decide +kernel
theorem d_Model_zoneOf_48 : decode prog_11_method_61_code 48 = .ok (.iconst 0, 1) := by decide +kernel
theorem d_Model_zoneOf_49 : decode prog_11_method_61_code 49 = .ok (.istore 4, 2) := by decide +kernel
theorem d_Model_zoneOf_51 : decode prog_11_method_61_code 51 = .ok (.iload_n 3, 1) := by decide +kernel
theorem d_Model_zoneOf_52 : decode prog_11_method_61_code 52 = .ok (.iconst 5, 1) := by decide +kernel
theorem d_Model_zoneOf_53 : decode prog_11_method_61_code 53 = .ok (.if_icmp .ne 113, 3) := by decide +kernel
theorem d_Model_zoneOf_56 : decode prog_11_method_61_code 56 = .ok (.iload 4, 2) := by decide +kernel
theorem d_Model_zoneOf_58 : decode prog_11_method_61_code 58 = .ok (.ifCond .ne 14, 3) := by decide +kernel
theorem d_Model_zoneOf_61 : decode prog_11_method_61_code 61 = .ok (.aload_n 0, 1) := by decide +kernel
theorem d_Model_zoneOf_62 : decode prog_11_method_61_code 62 = .ok (.getfield 43, 3) := by decide +kernel
theorem d_Model_zoneOf_65 : decode prog_11_method_61_code 65 = .ok (.iload_n 2, 1) := by decide +kernel
theorem d_Model_zoneOf_66 : decode prog_11_method_61_code 66 = .ok (.iaload, 1) := by decide +kernel
theorem d_Model_zoneOf_67 : decode prog_11_method_61_code 67 = .ok (.bipush 45, 2) := by decide +kernel
theorem d_Model_zoneOf_69 : decode prog_11_method_61_code 69 = .ok (.if_icmp .ne 97, 3) := by decide +kernel
theorem d_Model_zoneOf_72 : decode prog_11_method_61_code 72 = .ok (.iconst 1, 1) := by decide +kernel
theorem d_Model_zoneOf_73 : decode prog_11_method_61_code 73 = .ok (.istore 5, 2) := by decide +kernel
theorem d_Model_zoneOf_75 : decode prog_11_method_61_code 75 = .ok (.iload 5, 2) := by decide +kernel
theorem d_Model_zoneOf_77 : decode prog_11_method_61_code 77 = .ok (.iconst 5, 1) := by decide +kernel
theorem d_Model_zoneOf_78 : decode prog_11_method_61_code 78 = .ok (.if_icmp .ge 26, 3) := by decide +kernel
theorem d_Model_zoneOf_81 : decode prog_11_method_61_code 81 = .ok (.aload_n 0, 1) := by decide +kernel
theorem d_Model_zoneOf_82 : decode prog_11_method_61_code 82 = .ok (.getfield 43, 3) := by decide +kernel
theorem d_Model_zoneOf_85 : decode prog_11_method_61_code 85 = .ok (.iload_n 2, 1) := by decide +kernel
theorem d_Model_zoneOf_86 : decode prog_11_method_61_code 86 = .ok (.iload 5, 2) := by decide +kernel
theorem d_Model_zoneOf_88 : decode prog_11_method_61_code 88 = .ok (.iadd, 1) := by decide +kernel
theorem d_Model_zoneOf_89 : decode prog_11_method_61_code 89 = .ok (.iaload, 1) := by decide +kernel
theorem d_Model_zoneOf_90 : decode prog_11_method_61_code 90 = .ok (.invokestatic 271, 3) := by decide +kernel
theorem d_Model_zoneOf_93 : decode prog_11_method_61_code 93 = .ok (.ifCond .ne 5, 3) := by decide +kernel
theorem d_Model_zoneOf_96 : decode prog_11_method_61_code 96 = .ok (.iconst 0, 1) := by decide +kernel
theorem d_Model_zoneOf_97 : decode prog_11_method_61_code 97 = .ok (.ireturn, 1) := by decide +kernel
theorem d_Model_zoneOf_98 : decode prog_11_method_61_code 98 = .ok (.iinc 5 1, 3) := by decide +kernel
theorem d_Model_zoneOf_101 : decode prog_11_method_61_code 101 = .ok (.goto (-26), 3) := by decide +kernel
theorem d_Model_zoneOf_104 : decode prog_11_method_61_code 104 = .ok (.aload_n 0, 1) := by decide +kernel
theorem d_Model_zoneOf_105 : decode prog_11_method_61_code 105 = .ok (.iload_n 2, 1) := by decide +kernel
theorem d_Model_zoneOf_106 : decode prog_11_method_61_code 106 = .ok (.iconst 1, 1) := by decide +kernel
theorem d_Model_zoneOf_107 : decode prog_11_method_61_code 107 = .ok (.iadd, 1) := by decide +kernel
theorem d_Model_zoneOf_108 : decode prog_11_method_61_code 108 = .ok (.iload_n 2, 1) := by decide +kernel
theorem d_Model_zoneOf_109 : decode prog_11_method_61_code 109 = .ok (.iconst 3, 1) := by decide +kernel
theorem d_Model_zoneOf_110 : decode prog_11_method_61_code 110 = .ok (.iadd, 1) := by decide +kernel
theorem d_Model_zoneOf_111 : decode prog_11_method_61_code 111 = .ok (.invokevirtual 275, 3) := by decide +kernel
theorem d_Model_zoneOf_114 : decode prog_11_method_61_code 114 = .ok (.istore 5, 2) := by decide +kernel
theorem d_Model_zoneOf_116 : decode prog_11_method_61_code 116 = .ok (.aload_n 0, 1) := by decide +kernel
theorem d_Model_zoneOf_117 : decode prog_11_method_61_code 117 = .ok (.iload_n 2, 1) := by decide +kernel
theorem d_Model_zoneOf_118 : decode prog_11_method_61_code 118 = .ok (.iconst 3, 1) := by decide +kernel
theorem d_Model_zoneOf_119 : decode prog_11_method_61_code 119 = .ok (.iadd, 1) := by decide +kernel
theorem d_Model_zoneOf_120 : decode prog_11_method_61_code 120 = .ok (.iload_n 2, 1) := by decide +kernel
theorem d_Model_zoneOf_121 : decode prog_11_method_61_code 121 = .ok (.iconst 5, 1) := by decide +kernel
theorem d_Model_zoneOf_122 : decode prog_11_method_61_code 122 = .ok (.iadd, 1) := by decide +kernel
theorem d_Model_zoneOf_123 : decode prog_11_method_61_code 123 = .ok (.invokevirtual 275, 3) := by decide +kernel
theorem d_Model_zoneOf_126 : decode prog_11_method_61_code 126 = .ok (.istore 6, 2) := by decide +kernel
theorem d_Model_zoneOf_128 : decode prog_11_method_61_code 128 = .ok (.iload 5, 2) := by decide +kernel
theorem d_Model_zoneOf_130 : decode prog_11_method_61_code 130 = .ok (.bipush 23, 2) := by decide +kernel
theorem d_Model_zoneOf_132 : decode prog_11_method_61_code 132 = .ok (.if_icmp .gt 10, 3) := by decide +kernel
theorem d_Model_zoneOf_135 : decode prog_11_method_61_code 135 = .ok (.iload 6, 2) := by decide +kernel
theorem d_Model_zoneOf_137 : decode prog_11_method_61_code 137 = .ok (.bipush 59, 2) := by decide +kernel
theorem d_Model_zoneOf_139 : decode prog_11_method_61_code 139 = .ok (.if_icmp .le 5, 3) := by decide +kernel
theorem d_Model_zoneOf_142 : decode prog_11_method_61_code 142 = .ok (.iconst 0, 1) := by decide +kernel
theorem d_Model_zoneOf_143 : decode prog_11_method_61_code 143 = .ok (.ireturn, 1) := by decide +kernel
theorem d_Model_zoneOf_144 : decode prog_11_method_61_code 144 = .ok (.iload 4, 2) := by decide +kernel
theorem d_Model_zoneOf_146 : decode prog_11_method_61_code 146 = .ok (.ifCond .eq 8, 3) := by decide +kernel
theorem d_Model_zoneOf_149 : decode prog_11_method_61_code 149 = .ok (.bipush 60, 2) := by decide +kernel
theorem d_Model_zoneOf_151 : decode prog_11_method_61_code 151 = .ok (.goto 5, 3) := by decide +kernel
theorem d_Model_zoneOf_154 : decode prog_11_method_61_code 154 = .ok (.bipush (-60), 2) := by decide +kernel
theorem d_Model_zoneOf_156 : decode prog_11_method_61_code 156 = .ok (.bipush 60, 2) := by decide +kernel
theorem d_Model_zoneOf_158 : decode prog_11_method_61_code 158 = .ok (.iload 5, 2) := by decide +kernel
theorem d_Model_zoneOf_160 : decode prog_11_method_61_code 160 = .ok (.imul, 1) := by decide +kernel
theorem d_Model_zoneOf_161 : decode prog_11_method_61_code 161 = .ok (.iload 6, 2) := by decide +kernel
theorem d_Model_zoneOf_163 : decode prog_11_method_61_code 163 = .ok (.iadd, 1) := by decide +kernel
theorem d_Model_zoneOf_164 : decode prog_11_method_61_code 164 = .ok (.imul, 1) := by decide +kernel
theorem d_Model_zoneOf_165 : decode prog_11_method_61_code 165 = .ok (.ireturn, 1) := by decide +kernel
theorem d_Model_zoneOf_166 : decode prog_11_method_61_code 166 = .ok (.iload_n 3, 1) := by decide +kernel
theorem d_Model_zoneOf_167 : decode prog_11_method_61_code 167 = .ok (.iconst 3, 1) := by decide +kernel
theorem d_Model_zoneOf_168 : decode prog_11_method_61_code 168 = .ok (.if_icmp .eq 5, 3) := by decide +kernel
theorem d_Model_zoneOf_171 : decode prog_11_method_61_code 171 = .ok (.iconst 0, 1) := by decide +kernel
theorem d_Model_zoneOf_172 : decode prog_11_method_61_code 172 = .ok (.ireturn, 1) := by decide +kernel
theorem d_Model_zoneOf_173 : decode prog_11_method_61_code 173 = .ok (.aload_n 0, 1) := by decide +kernel
theorem d_Model_zoneOf_174 : decode prog_11_method_61_code 174 = .ok (.iload_n 1, 1) := by decide +kernel
theorem d_Model_zoneOf_175 : decode prog_11_method_61_code 175 = .ok (.iconst 0, 1) := by decide +kernel
theorem d_Model_zoneOf_176 : decode prog_11_method_61_code 176 = .ok (.ldc_w 303, 3) := by decide +kernel
theorem d_Model_zoneOf_179 : decode prog_11_method_61_code 179 = .ok (.invokevirtual 279, 3) := by decide +kernel
theorem d_Model_zoneOf_182 : decode prog_11_method_61_code 182 = .ok (.ifCond .eq 8, 3) := by decide +kernel
theorem d_Model_zoneOf_185 : decode prog_11_method_61_code 185 = .ok (.bipush (-4), 2) := by decide +kernel
theorem d_Model_zoneOf_187 : decode prog_11_method_61_code 187 = .ok (.goto 108, 3) := by decide +kernel
theorem d_Model_zoneOf_190 : decode prog_11_method_61_code 190 = .ok (.aload_n 0, 1) := by decide +kernel
theorem d_Model_zoneOf_191 : decode prog_11_method_61_code 191 = .ok (.iload_n 1, 1) := by decide +kernel
theorem d_Model_zoneOf_192 : decode prog_11_method_61_code 192 = .ok (.iconst 0, 1) := by decide +kernel
theorem d_Model_zoneOf_193 : decode prog_11_method_61_code 193 = .ok (.ldc_w 304, 3) := by decide +kernel
theorem d_Model_zoneOf_196 : decode prog_11_method_61_code 196 = .ok (.invokevirtual 279, 3) := by decide +kernel
theorem d_Model_zoneOf_199 : decode prog_11_method_61_code 199 = .ok (.ifCond .ne 15, 3) := by decide +kernel
theorem d_Model_zoneOf_202 : decode prog_11_method_61_code 202 = .ok (.aload_n 0, 1) := by decide +kernel
theorem d_Model_zoneOf_203 : decode prog_11_method_61_code 203 = .ok (.iload_n 1, 1) := by decide +kernel
theorem d_Model_zoneOf_204 : decode prog_11_method_61_code 204 = .ok (.iconst 0, 1) := by decide +kernel
theorem d_Model_zoneOf_205 : decode prog_11_method_61_code 205 = .ok (.ldc_w 305, 3) := by decide +kernel
theorem d_Model_zoneOf_208 : decode prog_11_method_61_code 208 = .ok (.invokevirtual 279, 3) := by decide +kernel
theorem d_Model_zoneOf_211 : decode prog_11_method_61_code 211 = .ok (.ifCond .eq 8, 3) := by decide +kernel
theorem d_Model_zoneOf_214 : decode prog_11_method_61_code 214 = .ok (.bipush (-5), 2) := by decide +kernel
theorem d_Model_zoneOf_216 : decode prog_11_method_61_code 216 = .ok (.goto 79, 3) := by decide +kernel
theorem d_Model_zoneOf_219 : decode prog_11_method_61_code 219 = .ok (.aload_n 0, 1) := by decide +kernel
theorem d_Model_zoneOf_220 : decode prog_11_method_61_code 220 = .ok (.iload_n 1, 1) := by decide +kernel
theorem d_Model_zoneOf_221 : decode prog_11_method_61_code 221 = .ok (.iconst 0, 1) := by decide +kernel
theorem d_Model_zoneOf_222 : decode prog_11_method_61_code 222 = .ok (.ldc_w 306, 3) := by decide +kernel
theorem d_Model_zoneOf_225 : decode prog_11_method_61_code 225 = .ok (.invokevirtual 279, 3) := by decide +kernel
theorem d_Model_zoneOf_228 : decode prog_11_method_61_code 228 = .ok (.ifCond .ne 15, 3) := by decide +kernel
theorem d_Model_zoneOf_231 : decode prog_11_method_61_code 231 = .ok (.aload_n 0, 1) := by decide +kernel
theorem d_Model_zoneOf_232 : decode prog_11_method_61_code 232 = .ok (.iload_n 1, 1) := by decide +kernel
theorem d_Model_zoneOf_233 : decode prog_11_method_61_code 233 = .ok (.iconst 0, 1) := by decide +kernel
theorem d_Model_zoneOf_234 : decode prog_11_method_61_code 234 = .ok (.ldc_w 307, 3) := by decide +kernel
theorem d_Model_zoneOf_237 : decode prog_11_method_61_code 237 = .ok (.invokevirtual 279, 3) := by decide +kernel
theorem d_Model_zoneOf_240 : decode prog_11_method_61_code 240 = .ok (.ifCond .eq 8, 3) := by decide +kernel
theorem d_Model_zoneOf_243 : decode prog_11_method_61_code 243 = .ok (.bipush (-6), 2) := by decide +kernel
theorem d_Model_zoneOf_245 : decode prog_11_method_61_code 245 = .ok (.goto 50, 3) := by decide +kernel
theorem d_Model_zoneOf_248 : decode prog_11_method_61_code 248 = .ok (.aload_n 0, 1) := by decide +kernel
theorem d_Model_zoneOf_249 : decode prog_11_method_61_code 249 = .ok (.iload_n 1, 1) := by decide +kernel
theorem d_Model_zoneOf_250 : decode prog_11_method_61_code 250 = .ok (.iconst 0, 1) := by decide +kernel
theorem d_Model_zoneOf_251 : decode prog_11_method_61_code 251 = .ok (.ldc_w 308, 3) := by decide +kernel
theorem d_Model_zoneOf_254 : decode prog_11_method_61_code 254 = .ok (.invokevirtual 279, 3) := by decide +kernel
theorem d_Model_zoneOf_257 : decode prog_11_method_61_code 257 = .ok (.ifCond .ne 15, 3) := by decide +kernel
theorem d_Model_zoneOf_260 : decode prog_11_method_61_code 260 = .ok (.aload_n 0, 1) := by decide +kernel
theorem d_Model_zoneOf_261 : decode prog_11_method_61_code 261 = .ok (.iload_n 1, 1) := by decide +kernel
theorem d_Model_zoneOf_262 : decode prog_11_method_61_code 262 = .ok (.iconst 0, 1) := by decide +kernel
theorem d_Model_zoneOf_263 : decode prog_11_method_61_code 263 = .ok (.ldc_w 309, 3) := by decide +kernel
theorem d_Model_zoneOf_266 : decode prog_11_method_61_code 266 = .ok (.invokevirtual 279, 3) := by decide +kernel
theorem d_Model_zoneOf_269 : decode prog_11_method_61_code 269 = .ok (.ifCond .eq 8, 3) := by decide +kernel
theorem d_Model_zoneOf_272 : decode prog_11_method_61_code 272 = .ok (.bipush (-7), 2) := by decide +kernel
theorem d_Model_zoneOf_274 : decode prog_11_method_61_code 274 = .ok (.goto 21, 3) := by decide +kernel
theorem d_Model_zoneOf_277 : decode prog_11_method_61_code 277 = .ok (.aload_n 0, 1) := by decide +kernel
theorem d_Model_zoneOf_278 : decode prog_11_method_61_code 278 = .ok (.iload_n 1, 1) := by decide +kernel
theorem d_Model_zoneOf_279 : decode prog_11_method_61_code 279 = .ok (.iconst 0, 1) := by decide +kernel
theorem d_Model_zoneOf_280 : decode prog_11_method_61_code 280 = .ok (.ldc_w 310, 3) := by decide +kernel
theorem d_Model_zoneOf_283 : decode prog_11_method_61_code 283 = .ok (.invokevirtual 279, 3) := by decide +kernel
theorem d_Model_zoneOf_286 : decode prog_11_method_61_code 286 = .ok (.ifCond .eq 8, 3) := by decide +kernel
theorem d_Model_zoneOf_289 : decode prog_11_method_61_code 289 = .ok (.bipush (-8), 2) := by decide +kernel
theorem d_Model_zoneOf_291 : decode prog_11_method_61_code 291 = .ok (.goto 4, 3) := by decide +kernel
theorem d_Model_zoneOf_294 : decode prog_11_method_61_code 294 = .ok (.iconst 0, 1) := by decide +kernel
theorem d_Model_zoneOf_295 : decode prog_11_method_61_code 295 = .ok (.istore 5, 2) := by decide +kernel
theorem d_Model_zoneOf_297 : decode prog_11_method_61_code 297 = .ok (.sipush 3600, 3) := by decide +kernel
theorem d_Model_zoneOf_300 : decode prog_11_method_61_code 300 = .ok (.iload 5, 2) := by decide +kernel
theorem d_Model_zoneOf_302 : decode prog_11_method_61_code 302 = .ok (.imul, 1) := by decide +kernel
theorem d_Model_zoneOf_303 : decode prog_11_method_61_code 303 = .ok (.ireturn, 1) := by decide +kernel
theorem d_Model_monthOf_0 : decode prog_11_method_57_code 0 = .ok (.iload_n 1, 1) := by decide +kernel
theorem d_Model_monthOf_1 : decode prog_11_method_57_code 1 = .ok (.aload_n 0, 1) := by decide +kernel
theorem d_Model_monthOf_2 : decode prog_11_method_57_code 2 = .ok (.getfield 149, 3) := by decide +kernel
theorem d_Model_monthOf_5 : decode prog_11_method_57_code 5 = .ok (.if_icmp .ge 22, 3) := by decide +kernel
theorem d_Model_monthOf_8 : decode prog_11_method_57_code 8 = .ok (.aload_n 0, 1) := by decide +kernel
theorem d_Model_monthOf_9 : decode prog_11_method_57_code 9 = .ok (.getfield 31, 3) := by decide +kernel
theorem d_Model_monthOf_12 : decode prog_11_method_57_code 12 = .ok (.iload_n 1, 1) := by decide +kernel
theorem d_Model_monthOf_13 : decode prog_11_method_57_code 13 = .ok (.iaload, 1) := by decide +kernel
theorem d_Model_monthOf_14 : decode prog_11_method_57_code 14 = .ok (.iconst 4, 1) := by decide +kernel
theorem d_Model_monthOf_15 : decode prog_11_method_57_code 15 = .ok (.if_icmp .ne 12, 3) := by decide +kernel
theorem d_Model_monthOf_18 : decode prog_11_method_57_code 18 = .ok (.aload_n 0, 1) := by decide +kernel
theorem d_Model_monthOf_19 : decode prog_11_method_57_code 19 = .ok (.iload_n 1, 1) := by decide +kernel
theorem d_Model_monthOf_20 : decode prog_11_method_57_code 20 = .ok (.invokevirtual 268, 3) := by decide +kernel
theorem d_Model_monthOf_23 : decode prog_11_method_57_code 23 = .ok (.iconst 3, 1) := by decide +kernel
theorem d_Model_monthOf_24 : decode prog_11_method_57_code 24 = .ok (.if_icmp .ge 5, 3) := by decide +kernel
theorem d_Model_monthOf_27 : decode prog_11_method_57_code 27 = .ok (.iconst 0, 1) := by decide +kernel
theorem d_Model_monthOf_28 : decode prog_11_method_57_code 28 = .ok (.ireturn, 1) := by decide +kernel
theorem d_Model_monthOf_29 : decode prog_11_method_57_code 29 = .ok (.aload_n 0, 1) := by decide +kernel
theorem d_Model_monthOf_30 : decode prog_11_method_57_code 30 = .ok (.iload_n 1, 1) := by decide +kernel
theorem d_Model_monthOf_31 : decode prog_11_method_57_code 31 = .ok (.iconst 0, 1) := by decide +kernel
theorem d_Model_monthOf_32 : decode prog_11_method_57_code 32 = .ok (.ldc_w 278, 3) := by decide +kernel
theorem d_Model_monthOf_35 : decode prog_11_method_57_code 35 = .ok (.invokevirtual 279, 3) := by decide +kernel
theorem d_Model_monthOf_38 : decode prog_11_method_57_code 38 = .ok (.ifCond .eq 5, 3) := by decide +kernel
theorem d_Model_monthOf_41 : decode prog_11_method_57_code 41 = .ok (.iconst 1, 1) := by decide +kernel
theorem d_Model_monthOf_42 : decode prog_11_method_57_code 42 = .ok (.ireturn, 1) := by decide +kernel
theorem d_Model_monthOf_43 : decode prog_11_method_57_code 43 = .ok (.aload_n 0, 1) := by decide +kernel
theorem d_Model_monthOf_44 : decode prog_11_method_57_code 44 = .ok (.iload_n 1, 1) := by decide +kernel
theorem d_Model_monthOf_45 : decode prog_11_method_57_code 45 = .ok (.iconst 0, 1) := by decide +kernel
theorem d_Model_monthOf_46 : decode prog_11_method_57_code 46 = .ok (.ldc_w 283, 3) := by decide +kernel
theorem d_Model_monthOf_49 : decode prog_11_method_57_code 49 = .ok (.invokevirtual 279, 3) := by decide +kernel
theorem d_Model_monthOf_52 : decode prog_11_method_57_code 52 = .ok (.ifCond .eq 5, 3) := by decide +kernel
theorem d_Model_monthOf_55 : decode prog_11_method_57_code 55 = .ok (.iconst 2, 1) := by decide +kernel
theorem d_Model_monthOf_56 : decode prog_11_method_57_code 56 = .ok (.ireturn, 1) := by decide +kernel
theorem d_Model_monthOf_57 : decode prog_11_method_57_code 57 = .ok (.aload_n 0, 1) := by decide +kernel
theorem d_Model_monthOf_58 : decode prog_11_method_57_code 58 = .ok (.iload_n 1, 1) := by decide +kernel
theorem d_Model_monthOf_59 : decode prog_11_method_57_code 59 = .ok (.iconst 0, 1) := by decide +kernel
theorem d_Model_monthOf_60 : decode prog_11_method_57_code 60 = .ok (.ldc_w 284, 3) := by decide +kernel
theorem d_Model_monthOf_63 : decode prog_11_method_57_code 63 = .ok (.invokevirtual 279, 3) := by decide +kernel
theorem d_Model_monthOf_66 : decode prog_11_method_57_code 66 = .ok (.ifCond .eq 5, 3) := by decide +kernel
theorem d_Model_monthOf_69 : decode prog_11_method_57_code 69 = .ok (.iconst 3, 1) := by decide +kernel
theorem d_Model_monthOf_70 : decode prog_11_method_57_code 70 = .ok (.ireturn, 1) := by decide +kernel
theorem d_Model_monthOf_71 : decode prog_11_method_57_code 71 = .ok (.aload_n 0, 1) := by decide +kernel
theorem d_Model_monthOf_72 : decode prog_11_method_57_code 72 = .ok (.iload_n 1, 1) := by decide +kernel
theorem d_Model_monthOf_73 : decode prog_11_method_57_code 73 = .ok (.iconst 0, 1) := by decide +kernel
theorem d_Model_monthOf_74 : decode prog_11_method_57_code 74 = .ok (.ldc_w 285, 3) := by decide +kernel
theorem d_Model_monthOf_77 : decode prog_11_method_57_code 77 = .ok (.invokevirtual 279, 3) := by decide +kernel
theorem d_Model_monthOf_80 : decode prog_11_method_57_code 80 = .ok (.ifCond .eq 5, 3) := by decide +kernel
theorem d_Model_monthOf_83 : decode prog_11_method_57_code 83 = .ok (.iconst 4, 1) := by decide +kernel
theorem d_Model_monthOf_84 : decode prog_11_method_57_code 84 = .ok (.ireturn, 1) := by decide +kernel
theorem d_Model_monthOf_85 : decode prog_11_method_57_code 85 = .ok (.aload_n 0, 1) := by decide +kernel
theorem d_Model_monthOf_86 : decode prog_11_method_57_code 86 = .ok (.iload_n 1, 1) := by decide +kernel
theorem d_Model_monthOf_87 : decode prog_11_method_57_code 87 = .ok (.iconst 0, 1) := by decide +kernel
theorem d_Model_monthOf_88 : decode prog_11_method_57_code 88 = .ok (.ldc_w 286, 3) := by decide +kernel
theorem d_Model_monthOf_91 : decode prog_11_method_57_code 91 = .ok (.invokevirtual 279, 3) := by decide +kernel
theorem d_Model_monthOf_94 : decode prog_11_method_57_code 94 = .ok (.ifCond .eq 5, 3) := by decide +kernel
theorem d_Model_monthOf_97 : decode prog_11_method_57_code 97 = .ok (.iconst 5, 1) := by decide +kernel
theorem d_Model_monthOf_98 : decode prog_11_method_57_code 98 = .ok (.ireturn, 1) := by decide +kernel
theorem d_Model_monthOf_99 : decode prog_11_method_57_code 99 = .ok (.aload_n 0, 1) := by decide +kernel
theorem d_Model_monthOf_100 : decode prog_11_method_57_code 100 = .ok (.iload_n 1, 1) := by decide +kernel
theorem d_Model_monthOf_101 : decode prog_11_method_57_code 101 = .ok (.iconst 0, 1) := by decide +kernel
theorem d_Model_monthOf_102 : decode prog_11_method_57_code 102 = .ok (.ldc_w 287, 3) := by decide +kernel
theorem d_Model_monthOf_105 : decode prog_11_method_57_code 105 = .ok (.invokevirtual 279, 3) := by decide +kernel
theorem d_Model_monthOf_108 : decode prog_11_method_57_code 108 = .ok (.ifCond .eq 6, 3) := by decide +kernel
theorem d_Model_monthOf_111 : decode prog_11_method_57_code 111 = .ok (.bipush 6, 2) := by decide +kernel
theorem d_Model_monthOf_113 : decode prog_11_method_57_code 113 = .ok (.ireturn, 1) := by decide +kernel
theorem d_Model_monthOf_114 : decode prog_11_method_57_code 114 = .ok (.aload_n 0, 1) := by decide +kernel
theorem d_Model_monthOf_115 : decode prog_11_method_57_code 115 = .ok (.iload_n 1, 1) := by decide +kernel
theorem d_Model_monthOf_116 : decode prog_11_method_57_code 116 = .ok (.iconst 0, 1) := by decide +kernel
theorem d_Model_monthOf_117 : decode prog_11_method_57_code 117 = .ok (.ldc_w 288, 3) := by decide +kernel
theorem d_Model_monthOf_120 : decode prog_11_method_57_code 120 = .ok (.invokevirtual 279, 3) := by decide +kernel
theorem d_Model_monthOf_123 : decode prog_11_method_57_code 123 = .ok (.ifCond .eq 6, 3) := by decide +kernel
theorem d_Model_monthOf_126 : decode prog_11_method_57_code 126 = .ok (.bipush 7, 2) := by decide +kernel
theorem d_Model_monthOf_128 : decode prog_11_method_57_code 128 = .ok (.ireturn, 1) := by decide +kernel
theorem d_Model_monthOf_129 : decode prog_11_method_57_code 129 = .ok (.aload_n 0, 1) := by decide +kernel
theorem d_Model_monthOf_130 : decode prog_11_method_57_code 130 = .ok (.iload_n 1, 1) := by decide +kernel
theorem d_Model_monthOf_131 : decode prog_11_method_57_code 131 = .ok (.iconst 0, 1) := by decide +kernel
theorem d_Model_monthOf_132 : decode prog_11_method_57_code 132 = .ok (.ldc_w 289, 3) := by decide +kernel
theorem d_Model_monthOf_135 : decode prog_11_method_57_code 135 = .ok (.invokevirtual 279, 3) := by decide +kernel
theorem d_Model_monthOf_138 : decode prog_11_method_57_code 138 = .ok (.ifCond .eq 6, 3) := by decide +kernel
theorem d_Model_monthOf_141 : decode prog_11_method_57_code 141 = .ok (.bipush 8, 2) := by decide +kernel
theorem d_Model_monthOf_143 : decode prog_11_method_57_code 143 = .ok (.ireturn, 1) := by decide +kernel
theorem d_Model_monthOf_144 : decode prog_11_method_57_code 144 = .ok (.aload_n 0, 1) := by decide +kernel
theorem d_Model_monthOf_145 : decode prog_11_method_57_code 145 = .ok (.iload_n 1, 1) := by decide +kernel
theorem d_Model_monthOf_146 : decode prog_11_method_57_code 146 = .ok (.iconst 0, 1) := by decide +kernel
theorem d_Model_monthOf_147 : decode prog_11_method_57_code 147 = .ok (.ldc_w 290, 3) := by decide +kernel
theorem d_Model_monthOf_150 : decode prog_11_method_57_code 150 = .ok (.invokevirtual 279, 3) := by decide +kernel
theorem d_Model_monthOf_153 : decode prog_11_method_57_code 153 = .ok (.ifCond .eq 6, 3) := by decide +kernel
theorem d_Model_monthOf_156 : decode prog_11_method_57_code 156 = .ok (.bipush 9, 2) := by decide +kernel
theorem d_Model_monthOf_158 : decode prog_11_method_57_code 158 = .ok (.ireturn, 1) := by decide +kernel
theorem d_Model_monthOf_159 : decode prog_11_method_57_code 159 = .ok (.aload_n 0, 1) := by decide +kernel
theorem d_Model_monthOf_160 : decode prog_11_method_57_code 160 = .ok (.iload_n 1, 1) := by decide +kernel
theorem d_Model_monthOf_161 : decode prog_11_method_57_code 161 = .ok (.iconst 0, 1) := by decide +kernel
theorem d_Model_monthOf_162 : decode prog_11_method_57_code 162 = .ok (.ldc_w 291, 3) := by decide +kernel
theorem d_Model_monthOf_165 : decode prog_11_method_57_code 165 = .ok (.invokevirtual 279, 3) := by decide +kernel
theorem d_Model_monthOf_168 : decode prog_11_method_57_code 168 = .ok (.ifCond .eq 6, 3) := by decide +kernel
theorem d_Model_monthOf_171 : decode prog_11_method_57_code 171 = .ok (.bipush 10, 2) := by decide +kernel
theorem d_Model_monthOf_173 : decode prog_11_method_57_code 173 = .ok (.ireturn, 1) := by decide +kernel
theorem d_Model_monthOf_174 : decode prog_11_method_57_code 174 = .ok (.aload_n 0, 1) := by decide +kernel
theorem d_Model_monthOf_175 : decode prog_11_method_57_code 175 = .ok (.iload_n 1, 1) := by decide +kernel
theorem d_Model_monthOf_176 : decode prog_11_method_57_code 176 = .ok (.iconst 0, 1) := by decide +kernel
theorem d_Model_monthOf_177 : decode prog_11_method_57_code 177 = .ok (.ldc_w 292, 3) := by decide +kernel
theorem d_Model_monthOf_180 : decode prog_11_method_57_code 180 = .ok (.invokevirtual 279, 3) := by decide +kernel
theorem d_Model_monthOf_183 : decode prog_11_method_57_code 183 = .ok (.ifCond .eq 6, 3) := by decide +kernel
theorem d_Model_monthOf_186 : decode prog_11_method_57_code 186 = .ok (.bipush 11, 2) := by decide +kernel
theorem d_Model_monthOf_188 : decode prog_11_method_57_code 188 = .ok (.ireturn, 1) := by decide +kernel
theorem d_Model_monthOf_189 : decode prog_11_method_57_code 189 = .ok (.aload_n 0, 1) := by decide +kernel
theorem d_Model_monthOf_190 : decode prog_11_method_57_code 190 = .ok (.iload_n 1, 1) := by decide +kernel
theorem d_Model_monthOf_191 : decode prog_11_method_57_code 191 = .ok (.iconst 0, 1) := by decide +kernel
theorem d_Model_monthOf_192 : decode prog_11_method_57_code 192 = .ok (.ldc_w 293, 3) := by decide +kernel
theorem d_Model_monthOf_195 : decode prog_11_method_57_code 195 = .ok (.invokevirtual 279, 3) := by decide +kernel
theorem d_Model_monthOf_198 : decode prog_11_method_57_code 198 = .ok (.ifCond .eq 8, 3) := by decide +kernel
theorem d_Model_monthOf_201 : decode prog_11_method_57_code 201 = .ok (.bipush 12, 2) := by decide +kernel
theorem d_Model_monthOf_203 : decode prog_11_method_57_code 203 = .ok (.goto 4, 3) := by decide +kernel
theorem d_Model_monthOf_206 : decode prog_11_method_57_code 206 = .ok (.iconst 0, 1) := by decide +kernel
theorem d_Model_monthOf_207 : decode prog_11_method_57_code 207 = .ok (.ireturn, 1) := by decide +kernel
theorem d_Model_is_0 : decode prog_11_method_27_code 0 = .ok (.aload_n 0, 1) := by decide +kernel
theorem d_Model_is_1 : decode prog_11_method_27_code 1 = .ok (.getfield 31, 3) := by decide +kernel
theorem d_Model_is_4 : decode prog_11_method_27_code 4 = .ok (.iload_n 1, 1) := by decide +kernel
theorem d_Model_is_5 : decode prog_11_method_27_code 5 = .ok (.iaload, 1) := by decide +kernel
theorem d_Model_is_6 : decode prog_11_method_27_code 6 = .ok (.iconst 3, 1) := by decide +kernel
theorem d_Model_is_7 : decode prog_11_method_27_code 7 = .ok (.if_icmp .ne 17, 3) := by decide +kernel
theorem d_Model_is_10 : decode prog_11_method_27_code 10 = .ok (.aload_n 0, 1) := by decide +kernel
theorem d_Model_is_11 : decode prog_11_method_27_code 11 = .ok (.getfield 34, 3) := by decide +kernel
theorem d_Model_is_14 : decode prog_11_method_27_code 14 = .ok (.iload_n 1, 1) := by decide +kernel
theorem d_Model_is_15 : decode prog_11_method_27_code 15 = .ok (.iaload, 1) := by decide +kernel
theorem d_Model_is_16 : decode prog_11_method_27_code 16 = .ok (.iload_n 2, 1) := by decide +kernel
theorem d_Model_is_17 : decode prog_11_method_27_code 17 = .ok (.if_icmp .ne 7, 3) := by decide +kernel
theorem d_Model_is_20 : decode prog_11_method_27_code 20 = .ok (.iconst 1, 1) := by decide +kernel
theorem d_Model_is_21 : decode prog_11_method_27_code 21 = .ok (.goto 4, 3) := by decide +kernel
theorem d_Model_is_24 : decode prog_11_method_27_code 24 = .ok (.iconst 0, 1) := by decide +kernel
theorem d_Model_is_25 : decode prog_11_method_27_code 25 = .ok (.ireturn, 1) := by decide +kernel
theorem d_Model_yearOf_0 : decode prog_11_method_58_code 0 = .ok (.aload_n 0, 1) := by decide +kernel
theorem d_Model_yearOf_1 : decode prog_11_method_58_code 1 = .ok (.iload_n 1, 1) := by decide +kernel
theorem d_Model_yearOf_2 : decode prog_11_method_58_code 2 = .ok (.iconst 2, 1) := by decide +kernel
theorem d_Model_yearOf_3 : decode prog_11_method_58_code 3 = .ok (.bipush 9, 2) := by decide +kernel
theorem d_Model_yearOf_5 : decode prog_11_method_58_code 5 = .ok (.invokevirtual 294, 3) := by decide +kernel
theorem d_Model_yearOf_8 : decode prog_11_method_58_code 8 = .ok (.ifCond .ne 5, 3) := by decide +kernel
theorem d_Model_yearOf_11 : decode prog_11_method_58_code 11 = .ok (.iconst (-1), 1) := by decide +kernel
theorem d_Model_yearOf_12 : decode prog_11_method_58_code 12 = .ok (.ireturn, 1) := by decide +kernel
theorem d_Model_yearOf_13 : decode prog_11_method_58_code 13 = .ok (.aload_n 0, 1) := by decide +kernel
theorem d_Model_yearOf_14 : decode prog_11_method_58_code 14 = .ok (.iload_n 1, 1) := by decide +kernel
theorem d_Model_yearOf_15 : decode prog_11_method_58_code 15 = .ok (.invokevirtual 297, 3) := by decide +kernel
theorem d_Model_yearOf_18 : decode prog_11_method_58_code 18 = .ok (.istore_n 2, 1) := by decide +kernel
theorem d_Model_yearOf_19 : decode prog_11_method_58_code 19 = .ok (.aload_n 0, 1) := by decide +kernel
theorem d_Model_yearOf_20 : decode prog_11_method_58_code 20 = .ok (.iload_n 1, 1) := by decide +kernel
theorem d_Model_yearOf_21 : decode prog_11_method_58_code 21 = .ok (.invokevirtual 268, 3) := by decide +kernel
theorem d_Model_yearOf_24 : decode prog_11_method_58_code 24 = .ok (.istore_n 3, 1) := by decide +kernel
theorem d_Model_yearOf_25 : decode prog_11_method_58_code 25 = .ok (.iload_n 3, 1) := by decide +kernel
theorem d_Model_yearOf_26 : decode prog_11_method_58_code 26 = .ok (.iconst 2, 1) := by decide +kernel
theorem d_Model_yearOf_27 : decode prog_11_method_58_code 27 = .ok (.if_icmp .ne 25, 3) := by decide +kernel
theorem d_Model_yearOf_30 : decode prog_11_method_58_code 30 = .ok (.iload_n 2, 1) := by decide +kernel
theorem d_Model_yearOf_31 : decode prog_11_method_58_code 31 = .ok (.bipush 50, 2) := by decide +kernel
theorem d_Model_yearOf_33 : decode prog_11_method_58_code 33 = .ok (.if_icmp .ge 11, 3) := by decide +kernel
theorem d_Model_yearOf_36 : decode prog_11_method_58_code 36 = .ok (.sipush 2000, 3) := by decide +kernel
theorem d_Model_yearOf_39 : decode prog_11_method_58_code 39 = .ok (.iload_n 2, 1) := by decide +kernel
theorem d_Model_yearOf_40 : decode prog_11_method_58_code 40 = .ok (.iadd, 1) := by decide +kernel
theorem d_Model_yearOf_41 : decode prog_11_method_58_code 41 = .ok (.goto 25, 3) := by decide +kernel
theorem d_Model_yearOf_44 : decode prog_11_method_58_code 44 = .ok (.sipush 1900, 3) := by decide +kernel
theorem d_Model_yearOf_47 : decode prog_11_method_58_code 47 = .ok (.iload_n 2, 1) := by decide +kernel
theorem d_Model_yearOf_48 : decode prog_11_method_58_code 48 = .ok (.iadd, 1) := by decide +kernel
theorem d_Model_yearOf_49 : decode prog_11_method_58_code 49 = .ok (.goto 17, 3) := by decide +kernel
theorem d_Model_yearOf_52 : decode prog_11_method_58_code 52 = .ok (.iload_n 3, 1) := by decide +kernel
theorem d_Model_yearOf_53 : decode prog_11_method_58_code 53 = .ok (.iconst 3, 1) := by decide +kernel
theorem d_Model_yearOf_54 : decode prog_11_method_58_code 54 = .ok (.if_icmp .ne 11, 3) := by decide +kernel
theorem d_Model_yearOf_57 : decode prog_11_method_58_code 57 = .ok (.sipush 1900, 3) := by decide +kernel
theorem d_Model_yearOf_60 : decode prog_11_method_58_code 60 = .ok (.iload_n 2, 1) := by decide +kernel
theorem d_Model_yearOf_61 : decode prog_11_method_58_code 61 = .ok (.iadd, 1) := by decide +kernel
theorem d_Model_yearOf_62 : decode prog_11_method_58_code 62 = .ok (.goto 4, 3) := by decide +kernel
theorem d_Model_yearOf_65 : decode prog_11_method_58_code 65 = .ok (.iload_n 2, 1) := by decide +kernel
theorem d_Model_yearOf_66 : decode prog_11_method_58_code 66 = .ok (.ireturn, 1) := by decide +kernel
theorem d_Model_date_0 : decode prog_11_method_64_code 0 = .ok (.ldc2_w 320, 3) := by decide +kernel
theorem d_Model_date_3 : decode prog_11_method_64_code 3 = .ok (.lstore_n 2, 1) := by decide +kernel
theorem d_Model_date_4 : decode prog_11_method_64_code 4 = .ok (.aload_n 0, 1) := by decide +kernel
theorem d_Model_date_5 : decode prog_11_method_64_code 5 = .ok (.aload_n 0, 1) := by decide +kernel
theorem d_Model_date_6 : decode prog_11_method_64_code 6 = .ok (.iload_n 1, 1) := by decide +kernel
theorem d_Model_date_7 : decode prog_11_method_64_code 7 = .ok (.invokevirtual 137, 3) := by decide +kernel
theorem d_Model_date_10 : decode prog_11_method_64_code 10 = .ok (.ifCond .eq 7, 3) := by decide +kernel
theorem d_Model_date_13 : decode prog_11_method_64_code 13 = .ok (.iconst 0, 1) := by decide +kernel
theorem d_Model_date_14 : decode prog_11_method_64_code 14 = .ok (.goto 4, 3) := by decide +kernel
theorem d_Model_date_17 : decode prog_11_method_64_code 17 = .ok (.iconst 1, 1) := by decide +kernel
theorem d_Model_date_18 : decode prog_11_method_64_code 18 = .ok (.putfield 99, 3) := by decide +kernel
theorem d_Model_date_21 : decode prog_11_method_64_code 21 = .ok (.aload_n 0, 1) := by decide +kernel
theorem d_Model_date_22 : decode prog_11_method_64_code 22 = .ok (.getfield 99, 3) := by decide +kernel
theorem d_Model_date_25 : decode prog_11_method_64_code 25 = .ok (.ifCond .eq 5, 3) := by decide +kernel
theorem d_Model_date_28 : decode prog_11_method_64_code 28 = .ok (.lconst 0, 1) := by decide +kernel
theorem d_Model_date_29 : decode prog_11_method_64_code 29 = .ok (.lreturn, 1) := by decide +kernel
theorem d_Model_date_30 : decode prog_11_method_64_code 30 = .ok (.aload_n 0, 1) := by decide +kernel
theorem d_Model_date_31 : decode prog_11_method_64_code 31 = .ok (.iload_n 1, 1) := by decide +kernel
theorem d_Model_date_32 : decode prog_11_method_64_code 32 = .ok (.iconst 0, 1) := by decide +kernel
theorem d_Model_date_33 : decode prog_11_method_64_code 33 = .ok (.invokevirtual 251, 3) := by decide +kernel
theorem d_Model_date_36 : decode prog_11_method_64_code 36 = .ok (.aload_n 0, 1) := by decide +kernel
theorem d_Model_date_37 : decode prog_11_method_64_code 37 = .ok (.aload_n 0, 1) := by decide +kernel
theorem d_Model_date_38 : decode prog_11_method_64_code 38 = .ok (.iconst 0, 1) := by decide +kernel
theorem d_Model_date_39 : decode prog_11_method_64_code 39 = .ok (.aload_n 0, 1) := by decide +kernel
theorem d_Model_date_40 : decode prog_11_method_64_code 40 = .ok (.getfield 149, 3) := by decide +kernel
theorem d_Model_date_43 : decode prog_11_method_64_code 43 = .ok (.invokevirtual 197, 3) := by decide +kernel
theorem d_Model_date_46 : decode prog_11_method_64_code 46 = .ok (.putfield 265, 3) := by decide +kernel
theorem d_Model_date_49 : decode prog_11_method_64_code 49 = .ok (.aload_n 0, 1) := by decide +kernel
theorem d_Model_date_50 : decode prog_11_method_64_code 50 = .ok (.aload_n 0, 1) := by decide +kernel
theorem d_Model_date_51 : decode prog_11_method_64_code 51 = .ok (.getfield 265, 3) := by decide +kernel
theorem d_Model_date_54 : decode prog_11_method_64_code 54 = .ok (.iconst 1, 1) := by decide +kernel
theorem d_Model_date_55 : decode prog_11_method_64_code 55 = .ok (.iadd, 1) := by decide +kernel
theorem d_Model_date_56 : decode prog_11_method_64_code 56 = .ok (.aload_n 0, 1) := by decide +kernel
theorem d_Model_date_57 : decode prog_11_method_64_code 57 = .ok (.getfield 149, 3) := by decide +kernel
theorem d_Model_date_60 : decode prog_11_method_64_code 60 = .ok (.invokevirtual 197, 3) := by decide +kernel
theorem d_Model_date_63 : decode prog_11_method_64_code 63 = .ok (.istore 4, 2) := by decide +kernel
theorem d_Model_date_65 : decode prog_11_method_64_code 65 = .ok (.aload_n 0, 1) := by decide +kernel
theorem d_Model_date_66 : decode prog_11_method_64_code 66 = .ok (.getfield 265, 3) := by decide +kernel
theorem d_Model_date_69 : decode prog_11_method_64_code 69 = .ok (.aload_n 0, 1) := by decide +kernel
theorem d_Model_date_70 : decode prog_11_method_64_code 70 = .ok (.getfield 149, 3) := by decide +kernel
theorem d_Model_date_73 : decode prog_11_method_64_code 73 = .ok (.if_icmp .ge 52, 3) := by decide +kernel
theorem d_Model_date_76 : decode prog_11_method_64_code 76 = .ok (.aload_n 0, 1) := by decide +kernel
theorem d_Model_date_77 : decode prog_11_method_64_code 77 = .ok (.getfield 31, 3) := by decide +kernel
theorem d_Model_date_80 : decode prog_11_method_64_code 80 = .ok (.aload_n 0, 1) := by decide +kernel
theorem d_Model_date_81 : decode prog_11_method_64_code 81 = .ok (.getfield 265, 3) := by decide +kernel
theorem d_Model_date_84 : decode prog_11_method_64_code 84 = .ok (.iaload, 1) := by decide +kernel
theorem d_Model_date_85 : decode prog_11_method_64_code 85 = .ok (.iconst 4, 1) := by decide +kernel
theorem d_Model_date_86 : decode prog_11_method_64_code 86 = .ok (.if_icmp .ne 39, 3) := by decide +kernel
theorem d_Model_date_89 : decode prog_11_method_64_code 89 = .ok (.iload 4, 2) := by decide +kernel
theorem d_Model_date_91 : decode prog_11_method_64_code 91 = .ok (.aload_n 0, 1) := by decide +kernel
theorem d_Model_date_92 : decode prog_11_method_64_code 92 = .ok (.getfield 149, 3) := by decide +kernel
theorem d_Model_date_95 : decode prog_11_method_64_code 95 = .ok (.if_icmp .ge 30, 3) := by decide +kernel
theorem d_Model_date_98 : decode prog_11_method_64_code 98 = .ok (.aload_n 0, 1) := by decide +kernel
theorem d_Model_date_99 : decode prog_11_method_64_code 99 = .ok (.iload 4, 2) := by decide +kernel
theorem d_Model_date_101 : decode prog_11_method_64_code 101 = .ok (.bipush 44, 2) := by decide +kernel
theorem d_Model_date_103 : decode prog_11_method_64_code 103 = .ok (.invokevirtual 200, 3) := by decide +kernel
theorem d_Model_date_106 : decode prog_11_method_64_code 106 = .ok (.ifCond .eq 19, 3) := by decide +kernel
theorem d_Model_date_109 : decode prog_11_method_64_code 109 = .ok (.aload_n 0, 1) := by decide +kernel
theorem d_Model_date_110 : decode prog_11_method_64_code 110 = .ok (.aload_n 0, 1) := by decide +kernel
theorem d_Model_date_111 : decode prog_11_method_64_code 111 = .ok (.iload 4, 2) := by decide +kernel
theorem d_Model_date_113 : decode prog_11_method_64_code 113 = .ok (.iconst 1, 1) := by decide +kernel
theorem d_Model_date_114 : decode prog_11_method_64_code 114 = .ok (.iadd, 1) := by decide +kernel
theorem d_Model_date_115 : decode prog_11_method_64_code 115 = .ok (.aload_n 0, 1) := by decide +kernel
theorem d_Model_date_116 : decode prog_11_method_64_code 116 = .ok (.getfield 149, 3) := by decide +kernel
theorem d_Model_date_119 : decode prog_11_method_64_code 119 = .ok (.invokevirtual 197, 3) := by decide +kernel
theorem d_Model_date_122 : decode prog_11_method_64_code 122 = .ok (.putfield 265, 3) := by decide +kernel
theorem d_Model_date_125 : decode prog_11_method_64_code 125 = .ok (.aload_n 0, 1) := by decide +kernel
theorem d_Model_date_126 : decode prog_11_method_64_code 126 = .ok (.aload_n 0, 1) := by decide +kernel
theorem d_Model_date_127 : decode prog_11_method_64_code 127 = .ok (.getfield 265, 3) := by decide +kernel
theorem d_Model_date_130 : decode prog_11_method_64_code 130 = .ok (.iconst 1, 1) := by decide +kernel
theorem d_Model_date_131 : decode prog_11_method_64_code 131 = .ok (.iconst 2, 1) := by decide +kernel
theorem d_Model_date_132 : decode prog_11_method_64_code 132 = .ok (.invokevirtual 294, 3) := by decide +kernel
theorem d_Model_date_135 : decode prog_11_method_64_code 135 = .ok (.ifCond .eq 14, 3) := by decide +kernel
theorem d_Model_date_138 : decode prog_11_method_64_code 138 = .ok (.aload_n 0, 1) := by decide +kernel
theorem d_Model_date_139 : decode prog_11_method_64_code 139 = .ok (.aload_n 0, 1) := by decide +kernel
theorem d_Model_date_140 : decode prog_11_method_64_code 140 = .ok (.getfield 265, 3) := by decide +kernel
theorem d_Model_date_143 : decode prog_11_method_64_code 143 = .ok (.invokevirtual 297, 3) := by decide +kernel
theorem d_Model_date_146 : decode prog_11_method_64_code 146 = .ok (.goto 4, 3) := by decide +kernel
theorem d_Model_date_149 : decode prog_11_method_64_code 149 = .ok (.iconst 0, 1) := by decide +kernel
theorem d_Model_date_150 : decode prog_11_method_64_code 150 = .ok (.istore 5, 2) := by decide +kernel
theorem d_Model_date_152 : decode prog_11_method_64_code 152 = .ok (.aload_n 0, 1) := by decide +kernel
theorem d_Model_date_153 : decode prog_11_method_64_code 153 = .ok (.invokevirtual 322, 3) := by decide +kernel
theorem d_Model_date_156 : decode prog_11_method_64_code 156 = .ok (.aload_n 0, 1) := by decide +kernel
theorem d_Model_date_157 : decode prog_11_method_64_code 157 = .ok (.aload_n 0, 1) := by decide +kernel
theorem d_Model_date_158 : decode prog_11_method_64_code 158 = .ok (.getfield 265, 3) := by decide +kernel
theorem d_Model_date_161 : decode prog_11_method_64_code 161 = .ok (.invokevirtual 325, 3) := by decide +kernel
theorem d_Model_date_164 : decode prog_11_method_64_code 164 = .ok (.istore 6, 2) := by decide +kernel
theorem d_Model_date_166 : decode prog_11_method_64_code 166 = .ok (.aload_n 0, 1) := by decide +kernel
theorem d_Model_date_167 : decode prog_11_method_64_code 167 = .ok (.invokevirtual 322, 3) := by decide +kernel
theorem d_Model_date_170 : decode prog_11_method_64_code 170 = .ok (.aload_n 0, 1) := by decide +kernel
theorem d_Model_date_171 : decode prog_11_method_64_code 171 = .ok (.aload_n 0, 1) := by decide +kernel
theorem d_Model_date_172 : decode prog_11_method_64_code 172 = .ok (.getfield 265, 3) := by decide +kernel
theorem d_Model_date_175 : decode prog_11_method_64_code 175 = .ok (.invokevirtual 328, 3) := by decide +kernel
theorem d_Model_date_178 : decode prog_11_method_64_code 178 = .ok (.istore 7, 2) := by decide +kernel
theorem d_Model_date_180 : decode prog_11_method_64_code 180 = .ok (.aload_n 0, 1) := by decide +kernel
theorem d_Model_date_181 : decode prog_11_method_64_code 181 = .ok (.invokevirtual 322, 3) := by decide +kernel
theorem d_Model_date_184 : decode prog_11_method_64_code 184 = .ok (.iload 5, 2) := by decide +kernel
theorem d_Model_date_186 : decode prog_11_method_64_code 186 = .ok (.iconst 1, 1) := by decide +kernel
theorem d_Model_date_187 : decode prog_11_method_64_code 187 = .ok (.if_icmp .lt 37, 3) := by decide +kernel
theorem d_Model_date_190 : decode prog_11_method_64_code 190 = .ok (.iload 6, 2) := by decide +kernel
theorem d_Model_date_192 : decode prog_11_method_64_code 192 = .ok (.iconst 1, 1) := by decide +kernel
theorem d_Model_date_193 : decode prog_11_method_64_code 193 = .ok (.if_icmp .lt 31, 3) := by decide +kernel
theorem d_Model_date_196 : decode prog_11_method_64_code 196 = .ok (.iload 7, 2) := by decide +kernel
theorem d_Model_date_198 : decode prog_11_method_64_code 198 = .ok (.sipush 1900, 3) := by decide +kernel
theorem d_Model_date_201 : decode prog_11_method_64_code 201 = .ok (.if_icmp .lt 23, 3) := by decide +kernel
theorem d_Model_date_204 : decode prog_11_method_64_code 204 = .ok (.iload 7, 2) := by decide +kernel
theorem d_Model_date_206 : decode prog_11_method_64_code 206 = .ok (.sipush 2999, 3) := by decide +kernel
theorem d_Model_date_209 : decode prog_11_method_64_code 209 = .ok (.if_icmp .gt 15, 3) := by decide +kernel
theorem d_Model_date_212 : decode prog_11_method_64_code 212 = .ok (.iload 5, 2) := by decide +kernel
theorem d_Model_date_214 : decode prog_11_method_64_code 214 = .ok (.iload 6, 2) := by decide +kernel
theorem d_Model_date_216 : decode prog_11_method_64_code 216 = .ok (.iload 7, 2) := by decide +kernel
theorem d_Model_date_218 : decode prog_11_method_64_code 218 = .ok (.invokestatic 315, 3) := by decide +kernel
theorem d_Model_date_221 : decode prog_11_method_64_code 221 = .ok (.if_icmp .le 5, 3) := by decide +kernel
theorem d_Model_date_224 : decode prog_11_method_64_code 224 = .ok (.lload_n 2, 1) := by decide +kernel
theorem d_Model_date_225 : decode prog_11_method_64_code 225 = .ok (.lreturn, 1) := by decide +kernel
theorem d_Model_date_226 : decode prog_11_method_64_code 226 = .ok (.aload_n 0, 1) := by decide +kernel
theorem d_Model_date_227 : decode prog_11_method_64_code 227 = .ok (.bipush 24, 2) := by decide +kernel
theorem d_Model_date_229 : decode prog_11_method_64_code 229 = .ok (.invokevirtual 331, 3) := by decide +kernel
theorem d_Model_date_232 : decode prog_11_method_64_code 232 = .ok (.istore 8, 2) := by decide +kernel
theorem d_Model_date_234 : decode prog_11_method_64_code 234 = .ok (.aload_n 0, 1) := by decide +kernel
theorem d_Model_date_235 : decode prog_11_method_64_code 235 = .ok (.invokevirtual 322, 3) := by decide +kernel
theorem d_Model_date_238 : decode prog_11_method_64_code 238 = .ok (.aload_n 0, 1) := by decide +kernel
theorem d_Model_date_239 : decode prog_11_method_64_code 239 = .ok (.getfield 265, 3) := by decide +kernel
theorem d_Model_date_242 : decode prog_11_method_64_code 242 = .ok (.aload_n 0, 1) := by decide +kernel
theorem d_Model_date_243 : decode prog_11_method_64_code 243 = .ok (.getfield 149, 3) := by decide +kernel
theorem d_Model_date_246 : decode prog_11_method_64_code 246 = .ok (.if_icmp .ge 20, 3) := by decide +kernel
theorem d_Model_date_249 : decode prog_11_method_64_code 249 = .ok (.aload_n 0, 1) := by decide +kernel
theorem d_Model_date_250 : decode prog_11_method_64_code 250 = .ok (.aload_n 0, 1) := by decide +kernel
theorem d_Model_date_251 : decode prog_11_method_64_code 251 = .ok (.getfield 265, 3) := by decide +kernel
theorem d_Model_date_254 : decode prog_11_method_64_code 254 = .ok (.bipush 58, 2) := by decide +kernel
theorem d_Model_date_256 : decode prog_11_method_64_code 256 = .ok (.invokevirtual 200, 3) := by decide +kernel
theorem d_Model_date_259 : decode prog_11_method_64_code 259 = .ok (.ifCond .eq 7, 3) := by decide +kernel
theorem d_Model_date_262 : decode prog_11_method_64_code 262 = .ok (.iconst 1, 1) := by decide +kernel
theorem d_Model_date_263 : decode prog_11_method_64_code 263 = .ok (.goto 4, 3) := by decide +kernel
theorem d_Model_date_266 : decode prog_11_method_64_code 266 = .ok (.iconst 0, 1) := by decide +kernel
theorem d_Model_date_267 : decode prog_11_method_64_code 267 = .ok (.istore 9, 2) := by decide +kernel
theorem d_Model_date_269 : decode prog_11_method_64_code 269 = .ok (.aload_n 0, 1) := by decide +kernel
theorem d_Model_date_270 : decode prog_11_method_64_code 270 = .ok (.invokevirtual 322, 3) := by decide +kernel
theorem d_Model_date_273 : decode prog_11_method_64_code 273 = .ok (.aload_n 0, 1) := by decide +kernel
theorem d_Model_date_274 : decode prog_11_method_64_code 274 = .ok (.bipush 60, 2) := by decide +kernel
theorem d_Model_date_276 : decode prog_11_method_64_code 276 = .ok (.invokevirtual 331, 3) := by decide +kernel
theorem d_Model_date_279 : decode prog_11_method_64_code 279 = .ok (.istore 10, 2) := by decide +kernel
theorem d_Model_date_281 : decode prog_11_method_64_code 281 = .ok (.aload_n 0, 1) := by decide +kernel
theorem d_Model_date_282 : decode prog_11_method_64_code 282 = .ok (.invokevirtual 322, 3) := by decide +kernel
theorem d_Model_date_285 : decode prog_11_method_64_code 285 = .ok (.iload 8, 2) := by decide +kernel
theorem d_Model_date_287 : decode prog_11_method_64_code 287 = .ok (.ifCond .lt 13, 3) := by decide +kernel
theorem d_Model_date_290 : decode prog_11_method_64_code 290 = .ok (.iload 9, 2) := by decide +kernel
theorem d_Model_date_292 : decode prog_11_method_64_code 292 = .ok (.ifCond .eq 8, 3) := by decide +kernel
theorem d_Model_date_295 : decode prog_11_method_64_code 295 = .ok (.iload 10, 2) := by decide +kernel
theorem d_Model_date_297 : decode prog_11_method_64_code 297 = .ok (.ifCond .ge 5, 3) := by decide +kernel
theorem d_Model_date_300 : decode prog_11_method_64_code 300 = .ok (.lload_n 2, 1) := by decide +kernel
theorem d_Model_date_301 : decode prog_11_method_64_code 301 = .ok (.lreturn, 1) := by decide +kernel
theorem d_Model_date_302 : decode prog_11_method_64_code 302 = .ok (.iconst 0, 1) := by decide +kernel
theorem d_Model_date_303 : decode prog_11_method_64_code 303 = .ok (.istore 11, 2) := by decide +kernel
theorem d_Model_date_305 : decode prog_11_method_64_code 305 = .ok (.aload_n 0, 1) := by decide +kernel
theorem d_Model_date_306 : decode prog_11_method_64_code 306 = .ok (.getfield 265, 3) := by decide +kernel
theorem d_Model_date_309 : decode prog_11_method_64_code 309 = .ok (.aload_n 0, 1) := by decide +kernel
theorem d_Model_date_310 : decode prog_11_method_64_code 310 = .ok (.getfield 149, 3) := by decide +kernel
theorem d_Model_date_313 : decode prog_11_method_64_code 313 = .ok (.if_icmp .ge 32, 3) := by decide +kernel
theorem d_Model_date_316 : decode prog_11_method_64_code 316 = .ok (.aload_n 0, 1) := by decide +kernel
theorem d_Model_date_317 : decode prog_11_method_64_code 317 = .ok (.aload_n 0, 1) := by decide +kernel
theorem d_Model_date_318 : decode prog_11_method_64_code 318 = .ok (.getfield 265, 3) := by decide +kernel
theorem d_Model_date_321 : decode prog_11_method_64_code 321 = .ok (.bipush 58, 2) := by decide +kernel
theorem d_Model_date_323 : decode prog_11_method_64_code 323 = .ok (.invokevirtual 200, 3) := by decide +kernel
theorem d_Model_date_326 : decode prog_11_method_64_code 326 = .ok (.ifCond .eq 19, 3) := by decide +kernel
theorem d_Model_date_329 : decode prog_11_method_64_code 329 = .ok (.aload_n 0, 1) := by decide +kernel
theorem d_Model_date_330 : decode prog_11_method_64_code 330 = .ok (.invokevirtual 322, 3) := by decide +kernel
theorem d_Model_date_333 : decode prog_11_method_64_code 333 = .ok (.aload_n 0, 1) := by decide +kernel
theorem d_Model_date_334 : decode prog_11_method_64_code 334 = .ok (.bipush 61, 2) := by decide +kernel
theorem d_Model_date_336 : decode prog_11_method_64_code 336 = .ok (.invokevirtual 331, 3) := by decide +kernel
theorem d_Model_date_339 : decode prog_11_method_64_code 339 = .ok (.istore 11, 2) := by decide +kernel
theorem d_Model_date_341 : decode prog_11_method_64_code 341 = .ok (.aload_n 0, 1) := by decide +kernel
theorem d_Model_date_342 : decode prog_11_method_64_code 342 = .ok (.invokevirtual 322, 3) := by decide +kernel
theorem d_Model_date_345 : decode prog_11_method_64_code 345 = .ok (.iload 11, 2) := by decide +kernel
theorem d_Model_date_347 : decode prog_11_method_64_code 347 = .ok (.ifCond .ge 5, 3) := by decide +kernel
theorem d_Model_date_350 : decode prog_11_method_64_code 350 = .ok (.lload_n 2, 1) := by decide +kernel
theorem d_Model_date_351 : decode prog_11_method_64_code 351 = .ok (.lreturn, 1) := by decide +kernel
theorem d_Model_date_352 : decode prog_11_method_64_code 352 = .ok (.aload_n 0, 1) := by decide +kernel
theorem d_Model_date_353 : decode prog_11_method_64_code 353 = .ok (.iload 5, 2) := by decide +kernel
theorem d_Model_date_355 : decode prog_11_method_64_code 355 = .ok (.iload 6, 2) := by decide +kernel
theorem d_Model_date_357 : decode prog_11_method_64_code 357 = .ok (.iload 7, 2) := by decide +kernel
theorem d_Model_date_359 : decode prog_11_method_64_code 359 = .ok (.invokevirtual 334, 3) := by decide +kernel
theorem d_Model_date_362 : decode prog_11_method_64_code 362 = .ok (.ldc2_w 338, 3) := by decide +kernel
theorem d_Model_date_365 : decode prog_11_method_64_code 365 = .ok (.lmul, 1) := by decide +kernel
theorem d_Model_date_366 : decode prog_11_method_64_code 366 = .ok (.ldc2_w 340, 3) := by decide +kernel
theorem d_Model_date_369 : decode prog_11_method_64_code 369 = .ok (.iload 8, 2) := by decide +kernel
theorem d_Model_date_371 : decode prog_11_method_64_code 371 = .ok (.i2l, 1) := by decide +kernel
theorem d_Model_date_372 : decode prog_11_method_64_code 372 = .ok (.lmul, 1) := by decide +kernel
theorem d_Model_date_373 : decode prog_11_method_64_code 373 = .ok (.ladd, 1) := by decide +kernel
theorem d_Model_date_374 : decode prog_11_method_64_code 374 = .ok (.ldc2_w 342, 3) := by decide +kernel
theorem d_Model_date_377 : decode prog_11_method_64_code 377 = .ok (.iload 10, 2) := by decide +kernel
theorem d_Model_date_379 : decode prog_11_method_64_code 379 = .ok (.i2l, 1) := by decide +kernel
theorem d_Model_date_380 : decode prog_11_method_64_code 380 = .ok (.lmul, 1) := by decide +kernel
theorem d_Model_date_381 : decode prog_11_method_64_code 381 = .ok (.ladd, 1) := by decide +kernel
theorem d_Model_date_382 : decode prog_11_method_64_code 382 = .ok (.iload 11, 2) := by decide +kernel
theorem d_Model_date_384 : decode prog_11_method_64_code 384 = .ok (.i2l, 1) := by decide +kernel
theorem d_Model_date_385 : decode prog_11_method_64_code 385 = .ok (.ladd, 1) := by decide +kernel
theorem d_Model_date_386 : decode prog_11_method_64_code 386 = .ok (.aload_n 0, 1) := by decide +kernel
theorem d_Model_date_387 : decode prog_11_method_64_code 387 = .ok (.aload_n 0, 1) := by decide +kernel
theorem d_Model_date_388 : decode prog_11_method_64_code 388 = .ok (.getfield 265, 3) := by decide +kernel
theorem d_Model_date_391 : decode prog_11_method_64_code 391 = .ok (.invokevirtual 344, 3) := by decide +kernel
theorem d_Model_date_394 : decode prog_11_method_64_code 394 = .ok (.i2l, 1) := by decide +kernel
theorem d_Model_date_395 : decode prog_11_method_64_code 395 = .ok (.lsub, 1) := by decide +kernel
theorem d_Model_date_396 : decode prog_11_method_64_code 396 = .ok (.lreturn, 1) := by decide +kernel
theorem d_Model_takeParameter_0 : decode prog_11_method_67_code 0 = .ok (.aload_n 0, 1) := by decide +kernel
theorem d_Model_takeParameter_1 : decode prog_11_method_67_code 1 = .ok (.iload_n 1, 1) := by decide +kernel
theorem d_Model_takeParameter_2 : decode prog_11_method_67_code 2 = .ok (.aload_n 0, 1) := by decide +kernel
theorem d_Model_takeParameter_3 : decode prog_11_method_67_code 3 = .ok (.getfield 149, 3) := by decide +kernel
theorem d_Model_takeParameter_6 : decode prog_11_method_67_code 6 = .ok (.invokevirtual 197, 3) := by decide +kernel
theorem d_Model_takeParameter_9 : decode prog_11_method_67_code 9 = .ok (.istore_n 2, 1) := by decide +kernel
theorem d_Model_takeParameter_10 : decode prog_11_method_67_code 10 = .ok (.aload_n 0, 1) := by decide +kernel
theorem d_Model_takeParameter_11 : decode prog_11_method_67_code 11 = .ok (.iload_n 2, 1) := by decide +kernel
theorem d_Model_takeParameter_12 : decode prog_11_method_67_code 12 = .ok (.iconst 1, 1) := by decide +kernel
theorem d_Model_takeParameter_13 : decode prog_11_method_67_code 13 = .ok (.iadd, 1) := by decide +kernel
theorem d_Model_takeParameter_14 : decode prog_11_method_67_code 14 = .ok (.aload_n 0, 1) := by decide +kernel
theorem d_Model_takeParameter_15 : decode prog_11_method_67_code 15 = .ok (.getfield 149, 3) := by decide +kernel
theorem d_Model_takeParameter_18 : decode prog_11_method_67_code 18 = .ok (.invokevirtual 197, 3) := by decide +kernel
theorem d_Model_takeParameter_21 : decode prog_11_method_67_code 21 = .ok (.istore_n 3, 1) := by decide +kernel
theorem d_Model_takeParameter_22 : decode prog_11_method_67_code 22 = .ok (.aload_n 0, 1) := by decide +kernel
theorem d_Model_takeParameter_23 : decode prog_11_method_67_code 23 = .ok (.iload_n 3, 1) := by decide +kernel
theorem d_Model_takeParameter_24 : decode prog_11_method_67_code 24 = .ok (.iconst 1, 1) := by decide +kernel
theorem d_Model_takeParameter_25 : decode prog_11_method_67_code 25 = .ok (.iadd, 1) := by decide +kernel
theorem d_Model_takeParameter_26 : decode prog_11_method_67_code 26 = .ok (.aload_n 0, 1) := by decide +kernel
theorem d_Model_takeParameter_27 : decode prog_11_method_67_code 27 = .ok (.getfield 149, 3) := by decide +kernel
theorem d_Model_takeParameter_30 : decode prog_11_method_67_code 30 = .ok (.invokevirtual 197, 3) := by decide +kernel
theorem d_Model_takeParameter_33 : decode prog_11_method_67_code 33 = .ok (.istore 4, 2) := by decide +kernel
theorem d_Model_takeParameter_35 : decode prog_11_method_67_code 35 = .ok (.iload 4, 2) := by decide +kernel
theorem d_Model_takeParameter_37 : decode prog_11_method_67_code 37 = .ok (.aload_n 0, 1) := by decide +kernel
theorem d_Model_takeParameter_38 : decode prog_11_method_67_code 38 = .ok (.getfield 149, 3) := by decide +kernel
theorem d_Model_takeParameter_41 : decode prog_11_method_67_code 41 = .ok (.if_icmp .ge 45, 3) := by decide +kernel
theorem d_Model_takeParameter_44 : decode prog_11_method_67_code 44 = .ok (.aload_n 0, 1) := by decide +kernel
theorem d_Model_takeParameter_45 : decode prog_11_method_67_code 45 = .ok (.getfield 31, 3) := by decide +kernel
theorem d_Model_takeParameter_48 : decode prog_11_method_67_code 48 = .ok (.iload_n 2, 1) := by decide +kernel
theorem d_Model_takeParameter_49 : decode prog_11_method_67_code 49 = .ok (.iaload, 1) := by decide +kernel
theorem d_Model_takeParameter_50 : decode prog_11_method_67_code 50 = .ok (.iconst 4, 1) := by decide +kernel
theorem d_Model_takeParameter_51 : decode prog_11_method_67_code 51 = .ok (.if_icmp .ne 35, 3) := by decide +kernel
theorem d_Model_takeParameter_54 : decode prog_11_method_67_code 54 = .ok (.aload_n 0, 1) := by decide +kernel
theorem d_Model_takeParameter_55 : decode prog_11_method_67_code 55 = .ok (.iload_n 3, 1) := by decide +kernel
theorem d_Model_takeParameter_56 : decode prog_11_method_67_code 56 = .ok (.bipush 61, 2) := by decide +kernel
theorem d_Model_takeParameter_58 : decode prog_11_method_67_code 58 = .ok (.invokevirtual 200, 3) := by decide +kernel
theorem d_Model_takeParameter_61 : decode prog_11_method_67_code 61 = .ok (.ifCond .eq 25, 3) := by decide +kernel
theorem d_Model_takeParameter_64 : decode prog_11_method_67_code 64 = .ok (.aload_n 0, 1) := by decide +kernel
theorem d_Model_takeParameter_65 : decode prog_11_method_67_code 65 = .ok (.getfield 31, 3) := by decide +kernel
theorem d_Model_takeParameter_68 : decode prog_11_method_67_code 68 = .ok (.iload 4, 2) := by decide +kernel
theorem d_Model_takeParameter_70 : decode prog_11_method_67_code 70 = .ok (.iaload, 1) := by decide +kernel
theorem d_Model_takeParameter_71 : decode prog_11_method_67_code 71 = .ok (.iconst 4, 1) := by decide +kernel
theorem d_Model_takeParameter_72 : decode prog_11_method_67_code 72 = .ok (.if_icmp .eq 15, 3) := by decide +kernel
theorem d_Model_takeParameter_75 : decode prog_11_method_67_code 75 = .ok (.aload_n 0, 1) := by decide +kernel
theorem d_Model_takeParameter_76 : decode prog_11_method_67_code 76 = .ok (.getfield 31, 3) := by decide +kernel
theorem d_Model_takeParameter_79 : decode prog_11_method_67_code 79 = .ok (.iload 4, 2) := by decide +kernel
theorem d_Model_takeParameter_81 : decode prog_11_method_67_code 81 = .ok (.iaload, 1) := by decide +kernel
theorem d_Model_takeParameter_82 : decode prog_11_method_67_code 82 = .ok (.iconst 1, 1) := by decide +kernel
theorem d_Model_takeParameter_83 : decode prog_11_method_67_code 83 = .ok (.if_icmp .eq 4, 3) := by decide +kernel
theorem d_Model_takeParameter_86 : decode prog_11_method_67_code 86 = .ok (.return_, 1) := by decide +kernel
theorem d_Model_takeParameter_87 : decode prog_11_method_67_code 87 = .ok (.aload_n 0, 1) := by decide +kernel
theorem d_Model_takeParameter_88 : decode prog_11_method_67_code 88 = .ok (.getfield 40, 3) := by decide +kernel
theorem d_Model_takeParameter_91 : decode prog_11_method_67_code 91 = .ok (.iload_n 2, 1) := by decide +kernel
theorem d_Model_takeParameter_92 : decode prog_11_method_67_code 92 = .ok (.iaload, 1) := by decide +kernel
end
section
theorem d_Model_takeParameter_93 : decode prog_11_method_67_code 93 = .ok (.istore 5, 2) := by decide +kernel
theorem d_Model_takeParameter_95 : decode prog_11_method_67_code 95 = .ok (.iload 5, 2) := by decide +kernel
theorem d_Model_takeParameter_97 : decode prog_11_method_67_code 97 = .ok (.aload_n 0, 1) := by decide +kernel
theorem d_Model_takeParameter_98 : decode prog_11_method_67_code 98 = .ok (.getfield 37, 3) := by decide +kernel
theorem d_Model_takeParameter_101 : decode prog_11_method_67_code 101 = .ok (.iload_n 2, 1) := by decide +kernel
theorem d_Model_takeParameter_102 : decode prog_11_method_67_code 102 = .ok (.iaload, 1) := by decide +kernel
theorem d_Model_takeParameter_103 : decode prog_11_method_67_code 103 = .ok (.if_icmp .le 21, 3) := by decide +kernel
theorem d_Model_takeParameter_106 : decode prog_11_method_67_code 106 = .ok (.aload_n 0, 1) := by decide +kernel
theorem d_Model_takeParameter_107 : decode prog_11_method_67_code 107 = .ok (.getfield 43, 3) := by decide +kernel
theorem d_Model_takeParameter_110 : decode prog_11_method_67_code 110 = .ok (.iload 5, 2) := by decide +kernel
theorem d_Model_takeParameter_112 : decode prog_11_method_67_code 112 = .ok (.iconst 1, 1) := by decide +kernel
theorem d_Model_takeParameter_113 : decode prog_11_method_67_code 113 = .ok (.isub, 1) := by decide +kernel
theorem d_Model_takeParameter_114 : decode prog_11_method_67_code 114 = .ok (.iaload, 1) := by decide +kernel
theorem d_Model_takeParameter_115 : decode prog_11_method_67_code 115 = .ok (.bipush 42, 2) := by decide +kernel
theorem d_Model_takeParameter_117 : decode prog_11_method_67_code 117 = .ok (.if_icmp .ne 7, 3) := by decide +kernel
theorem d_Model_takeParameter_120 : decode prog_11_method_67_code 120 = .ok (.iconst 1, 1) := by decide +kernel
theorem d_Model_takeParameter_121 : decode prog_11_method_67_code 121 = .ok (.goto 4, 3) := by decide +kernel
theorem d_Model_takeParameter_124 : decode prog_11_method_67_code 124 = .ok (.iconst 0, 1) := by decide +kernel
theorem d_Model_takeParameter_125 : decode prog_11_method_67_code 125 = .ok (.istore 6, 2) := by decide +kernel
theorem d_Model_takeParameter_127 : decode prog_11_method_67_code 127 = .ok (.iload 6, 2) := by decide +kernel
theorem d_Model_takeParameter_129 : decode prog_11_method_67_code 129 = .ok (.ifCond .eq 6, 3) := by decide +kernel
theorem d_Model_takeParameter_132 : decode prog_11_method_67_code 132 = .ok (.iinc 5 (-1), 3) := by decide +kernel
theorem d_Model_takeParameter_135 : decode prog_11_method_67_code 135 = .ok (.iconst (-1), 1) := by decide +kernel
theorem d_Model_takeParameter_136 : decode prog_11_method_67_code 136 = .ok (.istore 7, 2) := by decide +kernel
theorem d_Model_takeParameter_138 : decode prog_11_method_67_code 138 = .ok (.iload 5, 2) := by decide +kernel
theorem d_Model_takeParameter_140 : decode prog_11_method_67_code 140 = .ok (.aload_n 0, 1) := by decide +kernel
theorem d_Model_takeParameter_141 : decode prog_11_method_67_code 141 = .ok (.getfield 37, 3) := by decide +kernel
theorem d_Model_takeParameter_144 : decode prog_11_method_67_code 144 = .ok (.iload_n 2, 1) := by decide +kernel
theorem d_Model_takeParameter_145 : decode prog_11_method_67_code 145 = .ok (.iaload, 1) := by decide +kernel
theorem d_Model_takeParameter_146 : decode prog_11_method_67_code 146 = .ok (.isub, 1) := by decide +kernel
theorem d_Model_takeParameter_147 : decode prog_11_method_67_code 147 = .ok (.iconst 2, 1) := by decide +kernel
theorem d_Model_takeParameter_148 : decode prog_11_method_67_code 148 = .ok (.if_icmp .lt 49, 3) := by decide +kernel
theorem d_Model_takeParameter_151 : decode prog_11_method_67_code 151 = .ok (.aload_n 0, 1) := by decide +kernel
theorem d_Model_takeParameter_152 : decode prog_11_method_67_code 152 = .ok (.getfield 43, 3) := by decide +kernel
theorem d_Model_takeParameter_155 : decode prog_11_method_67_code 155 = .ok (.iload 5, 2) := by decide +kernel
theorem d_Model_takeParameter_157 : decode prog_11_method_67_code 157 = .ok (.iconst 1, 1) := by decide +kernel
theorem d_Model_takeParameter_158 : decode prog_11_method_67_code 158 = .ok (.isub, 1) := by decide +kernel
theorem d_Model_takeParameter_159 : decode prog_11_method_67_code 159 = .ok (.iaload, 1) := by decide +kernel
theorem d_Model_takeParameter_160 : decode prog_11_method_67_code 160 = .ok (.invokestatic 271, 3) := by decide +kernel
theorem d_Model_takeParameter_163 : decode prog_11_method_67_code 163 = .ok (.ifCond .eq 34, 3) := by decide +kernel
theorem d_Model_takeParameter_166 : decode prog_11_method_67_code 166 = .ok (.aload_n 0, 1) := by decide +kernel
theorem d_Model_takeParameter_167 : decode prog_11_method_67_code 167 = .ok (.getfield 43, 3) := by decide +kernel
theorem d_Model_takeParameter_170 : decode prog_11_method_67_code 170 = .ok (.iload 5, 2) := by decide +kernel
theorem d_Model_takeParameter_172 : decode prog_11_method_67_code 172 = .ok (.iconst 2, 1) := by decide +kernel
theorem d_Model_takeParameter_173 : decode prog_11_method_67_code 173 = .ok (.isub, 1) := by decide +kernel
theorem d_Model_takeParameter_174 : decode prog_11_method_67_code 174 = .ok (.iaload, 1) := by decide +kernel
theorem d_Model_takeParameter_175 : decode prog_11_method_67_code 175 = .ok (.bipush 42, 2) := by decide +kernel
theorem d_Model_takeParameter_177 : decode prog_11_method_67_code 177 = .ok (.if_icmp .ne 20, 3) := by decide +kernel
theorem d_Model_takeParameter_180 : decode prog_11_method_67_code 180 = .ok (.aload_n 0, 1) := by decide +kernel
theorem d_Model_takeParameter_181 : decode prog_11_method_67_code 181 = .ok (.getfield 43, 3) := by decide +kernel
theorem d_Model_takeParameter_184 : decode prog_11_method_67_code 184 = .ok (.iload 5, 2) := by decide +kernel
theorem d_Model_takeParameter_186 : decode prog_11_method_67_code 186 = .ok (.iconst 1, 1) := by decide +kernel
theorem d_Model_takeParameter_187 : decode prog_11_method_67_code 187 = .ok (.isub, 1) := by decide +kernel
theorem d_Model_takeParameter_188 : decode prog_11_method_67_code 188 = .ok (.iaload, 1) := by decide +kernel
theorem d_Model_takeParameter_189 : decode prog_11_method_67_code 189 = .ok (.bipush 48, 2) := by decide +kernel
theorem d_Model_takeParameter_191 : decode prog_11_method_67_code 191 = .ok (.isub, 1) := by decide +kernel
theorem d_Model_takeParameter_192 : decode prog_11_method_67_code 192 = .ok (.istore 7, 2) := by decide +kernel
theorem d_Model_takeParameter_194 : decode prog_11_method_67_code 194 = .ok (.iinc 5 (-2), 3) := by decide +kernel
theorem d_Model_takeParameter_197 : decode prog_11_method_67_code 197 = .ok (.iload 5, 2) := by decide +kernel
theorem d_Model_takeParameter_199 : decode prog_11_method_67_code 199 = .ok (.aload_n 0, 1) := by decide +kernel
theorem d_Model_takeParameter_200 : decode prog_11_method_67_code 200 = .ok (.getfield 37, 3) := by decide +kernel
theorem d_Model_takeParameter_203 : decode prog_11_method_67_code 203 = .ok (.iload_n 2, 1) := by decide +kernel
theorem d_Model_takeParameter_204 : decode prog_11_method_67_code 204 = .ok (.iaload, 1) := by decide +kernel
theorem d_Model_takeParameter_205 : decode prog_11_method_67_code 205 = .ok (.if_icmp .ne 4, 3) := by decide +kernel
theorem d_Model_takeParameter_208 : decode prog_11_method_67_code 208 = .ok (.return_, 1) := by decide +kernel
theorem d_Model_takeParameter_209 : decode prog_11_method_67_code 209 = .ok (.aload_n 0, 1) := by decide +kernel
theorem d_Model_takeParameter_210 : decode prog_11_method_67_code 210 = .ok (.getfield 64, 3) := by decide +kernel
theorem d_Model_takeParameter_213 : decode prog_11_method_67_code 213 = .ok (.aload_n 0, 1) := by decide +kernel
theorem d_Model_takeParameter_214 : decode prog_11_method_67_code 214 = .ok (.getfield 347, 3) := by decide +kernel
theorem d_Model_takeParameter_217 : decode prog_11_method_67_code 217 = .ok (.aload_n 0, 1) := by decide +kernel
theorem d_Model_takeParameter_218 : decode prog_11_method_67_code 218 = .ok (.getfield 37, 3) := by decide +kernel
theorem d_Model_takeParameter_221 : decode prog_11_method_67_code 221 = .ok (.iload_n 2, 1) := by decide +kernel
theorem d_Model_takeParameter_222 : decode prog_11_method_67_code 222 = .ok (.iaload, 1) := by decide +kernel
theorem d_Model_takeParameter_223 : decode prog_11_method_67_code 223 = .ok (.iastore, 1) := by decide +kernel
theorem d_Model_takeParameter_224 : decode prog_11_method_67_code 224 = .ok (.aload_n 0, 1) := by decide +kernel
theorem d_Model_takeParameter_225 : decode prog_11_method_67_code 225 = .ok (.getfield 67, 3) := by decide +kernel
theorem d_Model_takeParameter_228 : decode prog_11_method_67_code 228 = .ok (.aload_n 0, 1) := by decide +kernel
theorem d_Model_takeParameter_229 : decode prog_11_method_67_code 229 = .ok (.getfield 347, 3) := by decide +kernel
theorem d_Model_takeParameter_232 : decode prog_11_method_67_code 232 = .ok (.iload 5, 2) := by decide +kernel
theorem d_Model_takeParameter_234 : decode prog_11_method_67_code 234 = .ok (.iastore, 1) := by decide +kernel
theorem d_Model_takeParameter_235 : decode prog_11_method_67_code 235 = .ok (.aload_n 0, 1) := by decide +kernel
theorem d_Model_takeParameter_236 : decode prog_11_method_67_code 236 = .ok (.getfield 70, 3) := by decide +kernel
theorem d_Model_takeParameter_239 : decode prog_11_method_67_code 239 = .ok (.aload_n 0, 1) := by decide +kernel
theorem d_Model_takeParameter_240 : decode prog_11_method_67_code 240 = .ok (.getfield 347, 3) := by decide +kernel
theorem d_Model_takeParameter_243 : decode prog_11_method_67_code 243 = .ok (.iload 7, 2) := by decide +kernel
theorem d_Model_takeParameter_245 : decode prog_11_method_67_code 245 = .ok (.iastore, 1) := by decide +kernel
theorem d_Model_takeParameter_246 : decode prog_11_method_67_code 246 = .ok (.aload_n 0, 1) := by decide +kernel
theorem d_Model_takeParameter_247 : decode prog_11_method_67_code 247 = .ok (.getfield 73, 3) := by decide +kernel
theorem d_Model_takeParameter_250 : decode prog_11_method_67_code 250 = .ok (.aload_n 0, 1) := by decide +kernel
theorem d_Model_takeParameter_251 : decode prog_11_method_67_code 251 = .ok (.getfield 347, 3) := by decide +kernel
theorem d_Model_takeParameter_254 : decode prog_11_method_67_code 254 = .ok (.iload 6, 2) := by decide +kernel
theorem d_Model_takeParameter_256 : decode prog_11_method_67_code 256 = .ok (.bastore, 1) := by decide +kernel
theorem d_Model_takeParameter_257 : decode prog_11_method_67_code 257 = .ok (.aload_n 0, 1) := by decide +kernel
theorem d_Model_takeParameter_258 : decode prog_11_method_67_code 258 = .ok (.getfield 77, 3) := by decide +kernel
theorem d_Model_takeParameter_261 : decode prog_11_method_67_code 261 = .ok (.aload_n 0, 1) := by decide +kernel
theorem d_Model_takeParameter_262 : decode prog_11_method_67_code 262 = .ok (.getfield 347, 3) := by decide +kernel
theorem d_Model_takeParameter_265 : decode prog_11_method_67_code 265 = .ok (.aload_n 0, 1) := by decide +kernel
theorem d_Model_takeParameter_266 : decode prog_11_method_67_code 266 = .ok (.getfield 37, 3) := by decide +kernel
theorem d_Model_takeParameter_269 : decode prog_11_method_67_code 269 = .ok (.iload 4, 2) := by decide +kernel
theorem d_Model_takeParameter_271 : decode prog_11_method_67_code 271 = .ok (.iaload, 1) := by decide +kernel
theorem d_Model_takeParameter_272 : decode prog_11_method_67_code 272 = .ok (.iastore, 1) := by decide +kernel
theorem d_Model_takeParameter_273 : decode prog_11_method_67_code 273 = .ok (.aload_n 0, 1) := by decide +kernel
theorem d_Model_takeParameter_274 : decode prog_11_method_67_code 274 = .ok (.getfield 80, 3) := by decide +kernel
theorem d_Model_takeParameter_277 : decode prog_11_method_67_code 277 = .ok (.aload_n 0, 1) := by decide +kernel
theorem d_Model_takeParameter_278 : decode prog_11_method_67_code 278 = .ok (.getfield 347, 3) := by decide +kernel
theorem d_Model_takeParameter_281 : decode prog_11_method_67_code 281 = .ok (.aload_n 0, 1) := by decide +kernel
theorem d_Model_takeParameter_282 : decode prog_11_method_67_code 282 = .ok (.getfield 40, 3) := by decide +kernel
theorem d_Model_takeParameter_285 : decode prog_11_method_67_code 285 = .ok (.iload 4, 2) := by decide +kernel
theorem d_Model_takeParameter_287 : decode prog_11_method_67_code 287 = .ok (.iaload, 1) := by decide +kernel
theorem d_Model_takeParameter_288 : decode prog_11_method_67_code 288 = .ok (.iastore, 1) := by decide +kernel
theorem d_Model_takeParameter_289 : decode prog_11_method_67_code 289 = .ok (.aload_n 0, 1) := by decide +kernel
theorem d_Model_takeParameter_290 : decode prog_11_method_67_code 290 = .ok (.dup, 1) := by decide +kernel
theorem d_Model_takeParameter_291 : decode prog_11_method_67_code 291 = .ok (.getfield 347, 3) := by decide +kernel
theorem d_Model_takeParameter_294 : decode prog_11_method_67_code 294 = .ok (.iconst 1, 1) := by decide +kernel
theorem d_Model_takeParameter_295 : decode prog_11_method_67_code 295 = .ok (.iadd, 1) := by decide +kernel
theorem d_Model_takeParameter_296 : decode prog_11_method_67_code 296 = .ok (.putfield 347, 3) := by decide +kernel
theorem d_Model_takeParameter_299 : decode prog_11_method_67_code 299 = .ok (.return_, 1) := by decide +kernel
theorem d_Model_makeSmall_0 : decode prog_11_method_65_code 0 = .ok (.aload_n 0, 1) := by decide +kernel
theorem d_Model_makeSmall_1 : decode prog_11_method_65_code 1 = .ok (.iload_n 1, 1) := by decide +kernel
theorem d_Model_makeSmall_2 : decode prog_11_method_65_code 2 = .ok (.invokevirtual 204, 3) := by decide +kernel
theorem d_Model_makeSmall_5 : decode prog_11_method_65_code 5 = .ok (.aload_n 0, 1) := by decide +kernel
theorem d_Model_makeSmall_6 : decode prog_11_method_65_code 6 = .ok (.getfield 37, 3) := by decide +kernel
theorem d_Model_makeSmall_9 : decode prog_11_method_65_code 9 = .ok (.iload_n 2, 1) := by decide +kernel
theorem d_Model_makeSmall_10 : decode prog_11_method_65_code 10 = .ok (.iaload, 1) := by decide +kernel
theorem d_Model_makeSmall_11 : decode prog_11_method_65_code 11 = .ok (.istore_n 3, 1) := by decide +kernel
theorem d_Model_makeSmall_12 : decode prog_11_method_65_code 12 = .ok (.iload_n 3, 1) := by decide +kernel
theorem d_Model_makeSmall_13 : decode prog_11_method_65_code 13 = .ok (.aload_n 0, 1) := by decide +kernel
theorem d_Model_makeSmall_14 : decode prog_11_method_65_code 14 = .ok (.getfield 40, 3) := by decide +kernel
theorem d_Model_makeSmall_17 : decode prog_11_method_65_code 17 = .ok (.iload_n 2, 1) := by decide +kernel
theorem d_Model_makeSmall_18 : decode prog_11_method_65_code 18 = .ok (.iaload, 1) := by decide +kernel
theorem d_Model_makeSmall_19 : decode prog_11_method_65_code 19 = .ok (.if_icmp .ge 23, 3) := by decide +kernel
theorem d_Model_makeSmall_22 : decode prog_11_method_65_code 22 = .ok (.aload_n 0, 1) := by decide +kernel
theorem d_Model_makeSmall_23 : decode prog_11_method_65_code 23 = .ok (.iload_n 1, 1) := by decide +kernel
theorem d_Model_makeSmall_24 : decode prog_11_method_65_code 24 = .ok (.aload_n 0, 1) := by decide +kernel
theorem d_Model_makeSmall_25 : decode prog_11_method_65_code 25 = .ok (.getfield 43, 3) := by decide +kernel
theorem d_Model_makeSmall_28 : decode prog_11_method_65_code 28 = .ok (.iload_n 3, 1) := by decide +kernel
theorem d_Model_makeSmall_29 : decode prog_11_method_65_code 29 = .ok (.iaload, 1) := by decide +kernel
theorem d_Model_makeSmall_30 : decode prog_11_method_65_code 30 = .ok (.invokestatic 133, 3) := by decide +kernel
theorem d_Model_makeSmall_33 : decode prog_11_method_65_code 33 = .ok (.invokevirtual 191, 3) := by decide +kernel
theorem d_Model_makeSmall_36 : decode prog_11_method_65_code 36 = .ok (.iinc 3 1, 3) := by decide +kernel
theorem d_Model_makeSmall_39 : decode prog_11_method_65_code 39 = .ok (.goto (-27), 3) := by decide +kernel
theorem d_Model_makeSmall_42 : decode prog_11_method_65_code 42 = .ok (.aload_n 0, 1) := by decide +kernel
theorem d_Model_makeSmall_43 : decode prog_11_method_65_code 43 = .ok (.iload_n 1, 1) := by decide +kernel
theorem d_Model_makeSmall_44 : decode prog_11_method_65_code 44 = .ok (.invokevirtual 210, 3) := by decide +kernel
theorem d_Model_makeSmall_47 : decode prog_11_method_65_code 47 = .ok (.return_, 1) := by decide +kernel
theorem d_Model_type_0 : decode prog_11_method_66_code 0 = .ok (.aload_n 0, 1) := by decide +kernel
theorem d_Model_type_1 : decode prog_11_method_66_code 1 = .ok (.aload_n 0, 1) := by decide +kernel
theorem d_Model_type_2 : decode prog_11_method_66_code 2 = .ok (.iload_n 1, 1) := by decide +kernel
theorem d_Model_type_3 : decode prog_11_method_66_code 3 = .ok (.invokevirtual 137, 3) := by decide +kernel
theorem d_Model_type_6 : decode prog_11_method_66_code 6 = .ok (.ifCond .eq 7, 3) := by decide +kernel
theorem d_Model_type_9 : decode prog_11_method_66_code 9 = .ok (.iconst 0, 1) := by decide +kernel
theorem d_Model_type_10 : decode prog_11_method_66_code 10 = .ok (.goto 4, 3) := by decide +kernel
theorem d_Model_type_13 : decode prog_11_method_66_code 13 = .ok (.iconst 1, 1) := by decide +kernel
theorem d_Model_type_14 : decode prog_11_method_66_code 14 = .ok (.putfield 99, 3) := by decide +kernel
theorem d_Model_type_17 : decode prog_11_method_66_code 17 = .ok (.aload_n 0, 1) := by decide +kernel
theorem d_Model_type_18 : decode prog_11_method_66_code 18 = .ok (.getfield 99, 3) := by decide +kernel
theorem d_Model_type_21 : decode prog_11_method_66_code 21 = .ok (.ifCond .eq 5, 3) := by decide +kernel
theorem d_Model_type_24 : decode prog_11_method_66_code 24 = .ok (.iconst 0, 1) := by decide +kernel
theorem d_Model_type_25 : decode prog_11_method_66_code 25 = .ok (.ireturn, 1) := by decide +kernel
theorem d_Model_type_26 : decode prog_11_method_66_code 26 = .ok (.aload_n 0, 1) := by decide +kernel
theorem d_Model_type_27 : decode prog_11_method_66_code 27 = .ok (.iload_n 1, 1) := by decide +kernel
theorem d_Model_type_28 : decode prog_11_method_66_code 28 = .ok (.iconst 1, 1) := by decide +kernel
theorem d_Model_type_29 : decode prog_11_method_66_code 29 = .ok (.invokevirtual 251, 3) := by decide +kernel
theorem d_Model_type_32 : decode prog_11_method_66_code 32 = .ok (.aload_n 0, 1) := by decide +kernel
theorem d_Model_type_33 : decode prog_11_method_66_code 33 = .ok (.iconst 5, 1) := by decide +kernel
theorem d_Model_type_34 : decode prog_11_method_66_code 34 = .ok (.bipush 6, 2) := by decide +kernel
theorem d_Model_type_36 : decode prog_11_method_66_code 36 = .ok (.iconst 2, 1) := by decide +kernel
theorem d_Model_type_37 : decode prog_11_method_66_code 37 = .ok (.invokevirtual 255, 3) := by decide +kernel
theorem d_Model_type_40 : decode prog_11_method_66_code 40 = .ok (.aload_n 0, 1) := by decide +kernel
theorem d_Model_type_41 : decode prog_11_method_66_code 41 = .ok (.iconst 0, 1) := by decide +kernel
theorem d_Model_type_42 : decode prog_11_method_66_code 42 = .ok (.putfield 347, 3) := by decide +kernel
theorem d_Model_type_45 : decode prog_11_method_66_code 45 = .ok (.aload_n 0, 1) := by decide +kernel
theorem d_Model_type_46 : decode prog_11_method_66_code 46 = .ok (.iconst (-1), 1) := by decide +kernel
theorem d_Model_type_47 : decode prog_11_method_66_code 47 = .ok (.putfield 92, 3) := by decide +kernel
theorem d_Model_type_50 : decode prog_11_method_66_code 50 = .ok (.aload_n 0, 1) := by decide +kernel
theorem d_Model_type_51 : decode prog_11_method_66_code 51 = .ok (.iconst (-1), 1) := by decide +kernel
theorem d_Model_type_52 : decode prog_11_method_66_code 52 = .ok (.putfield 96, 3) := by decide +kernel
theorem d_Model_type_55 : decode prog_11_method_66_code 55 = .ok (.aload_n 0, 1) := by decide +kernel
theorem d_Model_type_56 : decode prog_11_method_66_code 56 = .ok (.iconst 0, 1) := by decide +kernel
theorem d_Model_type_57 : decode prog_11_method_66_code 57 = .ok (.aload_n 0, 1) := by decide +kernel
theorem d_Model_type_58 : decode prog_11_method_66_code 58 = .ok (.getfield 149, 3) := by decide +kernel
theorem d_Model_type_61 : decode prog_11_method_66_code 61 = .ok (.invokevirtual 197, 3) := by decide +kernel
theorem d_Model_type_64 : decode prog_11_method_66_code 64 = .ok (.istore_n 2, 1) := by decide +kernel
theorem d_Model_type_65 : decode prog_11_method_66_code 65 = .ok (.aload_n 0, 1) := by decide +kernel
theorem d_Model_type_66 : decode prog_11_method_66_code 66 = .ok (.iload_n 2, 1) := by decide +kernel
theorem d_Model_type_67 : decode prog_11_method_66_code 67 = .ok (.iconst 1, 1) := by decide +kernel
theorem d_Model_type_68 : decode prog_11_method_66_code 68 = .ok (.iadd, 1) := by decide +kernel
theorem d_Model_type_69 : decode prog_11_method_66_code 69 = .ok (.aload_n 0, 1) := by decide +kernel
theorem d_Model_type_70 : decode prog_11_method_66_code 70 = .ok (.getfield 149, 3) := by decide +kernel
theorem d_Model_type_73 : decode prog_11_method_66_code 73 = .ok (.invokevirtual 197, 3) := by decide +kernel
theorem d_Model_type_76 : decode prog_11_method_66_code 76 = .ok (.istore_n 3, 1) := by decide +kernel
theorem d_Model_type_77 : decode prog_11_method_66_code 77 = .ok (.aload_n 0, 1) := by decide +kernel
theorem d_Model_type_78 : decode prog_11_method_66_code 78 = .ok (.iload_n 3, 1) := by decide +kernel
theorem d_Model_type_79 : decode prog_11_method_66_code 79 = .ok (.iconst 1, 1) := by decide +kernel
theorem d_Model_type_80 : decode prog_11_method_66_code 80 = .ok (.iadd, 1) := by decide +kernel
theorem d_Model_type_81 : decode prog_11_method_66_code 81 = .ok (.aload_n 0, 1) := by decide +kernel
theorem d_Model_type_82 : decode prog_11_method_66_code 82 = .ok (.getfield 149, 3) := by decide +kernel
theorem d_Model_type_85 : decode prog_11_method_66_code 85 = .ok (.invokevirtual 197, 3) := by decide +kernel
theorem d_Model_type_88 : decode prog_11_method_66_code 88 = .ok (.istore 4, 2) := by decide +kernel
theorem d_Model_type_90 : decode prog_11_method_66_code 90 = .ok (.iload 4, 2) := by decide +kernel
theorem d_Model_type_92 : decode prog_11_method_66_code 92 = .ok (.aload_n 0, 1) := by decide +kernel
theorem d_Model_type_93 : decode prog_11_method_66_code 93 = .ok (.getfield 149, 3) := by decide +kernel
theorem d_Model_type_96 : decode prog_11_method_66_code 96 = .ok (.if_icmp .ge 34, 3) := by decide +kernel
theorem d_Model_type_99 : decode prog_11_method_66_code 99 = .ok (.aload_n 0, 1) := by decide +kernel
theorem d_Model_type_100 : decode prog_11_method_66_code 100 = .ok (.getfield 31, 3) := by decide +kernel
theorem d_Model_type_103 : decode prog_11_method_66_code 103 = .ok (.iload_n 2, 1) := by decide +kernel
theorem d_Model_type_104 : decode prog_11_method_66_code 104 = .ok (.iaload, 1) := by decide +kernel
theorem d_Model_type_105 : decode prog_11_method_66_code 105 = .ok (.iconst 4, 1) := by decide +kernel
theorem d_Model_type_106 : decode prog_11_method_66_code 106 = .ok (.if_icmp .ne 24, 3) := by decide +kernel
theorem d_Model_type_109 : decode prog_11_method_66_code 109 = .ok (.aload_n 0, 1) := by decide +kernel
theorem d_Model_type_110 : decode prog_11_method_66_code 110 = .ok (.iload_n 3, 1) := by decide +kernel
theorem d_Model_type_111 : decode prog_11_method_66_code 111 = .ok (.bipush 47, 2) := by decide +kernel
theorem d_Model_type_113 : decode prog_11_method_66_code 113 = .ok (.invokevirtual 200, 3) := by decide +kernel
theorem d_Model_type_116 : decode prog_11_method_66_code 116 = .ok (.ifCond .eq 14, 3) := by decide +kernel
theorem d_Model_type_119 : decode prog_11_method_66_code 119 = .ok (.aload_n 0, 1) := by decide +kernel
theorem d_Model_type_120 : decode prog_11_method_66_code 120 = .ok (.getfield 31, 3) := by decide +kernel
theorem d_Model_type_123 : decode prog_11_method_66_code 123 = .ok (.iload 4, 2) := by decide +kernel
theorem d_Model_type_125 : decode prog_11_method_66_code 125 = .ok (.iaload, 1) := by decide +kernel
theorem d_Model_type_126 : decode prog_11_method_66_code 126 = .ok (.iconst 4, 1) := by decide +kernel
theorem d_Model_type_127 : decode prog_11_method_66_code 127 = .ok (.if_icmp .eq 5, 3) := by decide +kernel
theorem d_Model_type_130 : decode prog_11_method_66_code 130 = .ok (.iconst 0, 1) := by decide +kernel
theorem d_Model_type_131 : decode prog_11_method_66_code 131 = .ok (.ireturn, 1) := by decide +kernel
theorem d_Model_type_132 : decode prog_11_method_66_code 132 = .ok (.iconst 0, 1) := by decide +kernel
theorem d_Model_type_133 : decode prog_11_method_66_code 133 = .ok (.istore 5, 2) := by decide +kernel
theorem d_Model_type_135 : decode prog_11_method_66_code 135 = .ok (.iload 5, 2) := by decide +kernel
theorem d_Model_type_137 : decode prog_11_method_66_code 137 = .ok (.aload_n 0, 1) := by decide +kernel
theorem d_Model_type_138 : decode prog_11_method_66_code 138 = .ok (.getfield 152, 3) := by decide +kernel
theorem d_Model_type_141 : decode prog_11_method_66_code 141 = .ok (.if_icmp .ge 23, 3) := by decide +kernel
theorem d_Model_type_144 : decode prog_11_method_66_code 144 = .ok (.aload_n 0, 1) := by decide +kernel
theorem d_Model_type_145 : decode prog_11_method_66_code 145 = .ok (.getfield 83, 3) := by decide +kernel
theorem d_Model_type_148 : decode prog_11_method_66_code 148 = .ok (.iload 5, 2) := by decide +kernel
theorem d_Model_type_150 : decode prog_11_method_66_code 150 = .ok (.aload_n 0, 1) := by decide +kernel
theorem d_Model_type_151 : decode prog_11_method_66_code 151 = .ok (.getfield 43, 3) := by decide +kernel
theorem d_Model_type_154 : decode prog_11_method_66_code 154 = .ok (.iload 5, 2) := by decide +kernel
theorem d_Model_type_156 : decode prog_11_method_66_code 156 = .ok (.iaload, 1) := by decide +kernel
theorem d_Model_type_157 : decode prog_11_method_66_code 157 = .ok (.iastore, 1) := by decide +kernel
theorem d_Model_type_158 : decode prog_11_method_66_code 158 = .ok (.iinc 5 1, 3) := by decide +kernel
theorem d_Model_type_161 : decode prog_11_method_66_code 161 = .ok (.goto (-26), 3) := by decide +kernel
theorem d_Model_type_164 : decode prog_11_method_66_code 164 = .ok (.aload_n 0, 1) := by decide +kernel
theorem d_Model_type_165 : decode prog_11_method_66_code 165 = .ok (.iconst 5, 1) := by decide +kernel
theorem d_Model_type_166 : decode prog_11_method_66_code 166 = .ok (.iload_n 2, 1) := by decide +kernel
theorem d_Model_type_167 : decode prog_11_method_66_code 167 = .ok (.invokevirtual 350, 3) := by decide +kernel
theorem d_Model_type_170 : decode prog_11_method_66_code 170 = .ok (.aload_n 0, 1) := by decide +kernel
theorem d_Model_type_171 : decode prog_11_method_66_code 171 = .ok (.bipush 6, 2) := by decide +kernel
theorem d_Model_type_173 : decode prog_11_method_66_code 173 = .ok (.iload 4, 2) := by decide +kernel
theorem d_Model_type_175 : decode prog_11_method_66_code 175 = .ok (.invokevirtual 350, 3) := by decide +kernel
theorem d_Model_type_178 : decode prog_11_method_66_code 178 = .ok (.iload 4, 2) := by decide +kernel
theorem d_Model_type_180 : decode prog_11_method_66_code 180 = .ok (.iconst 1, 1) := by decide +kernel
theorem d_Model_type_181 : decode prog_11_method_66_code 181 = .ok (.iadd, 1) := by decide +kernel
theorem d_Model_type_182 : decode prog_11_method_66_code 182 = .ok (.istore 5, 2) := by decide +kernel
theorem d_Model_type_184 : decode prog_11_method_66_code 184 = .ok (.iload 5, 2) := by decide +kernel
theorem d_Model_type_186 : decode prog_11_method_66_code 186 = .ok (.aload_n 0, 1) := by decide +kernel
theorem d_Model_type_187 : decode prog_11_method_66_code 187 = .ok (.getfield 149, 3) := by decide +kernel
theorem d_Model_type_190 : decode prog_11_method_66_code 190 = .ok (.if_icmp .ge 52, 3) := by decide +kernel
theorem d_Model_type_193 : decode prog_11_method_66_code 193 = .ok (.iload 5, 2) := by decide +kernel
theorem d_Model_type_195 : decode prog_11_method_66_code 195 = .ok (.aload_n 0, 1) := by decide +kernel
theorem d_Model_type_196 : decode prog_11_method_66_code 196 = .ok (.getfield 149, 3) := by decide +kernel
theorem d_Model_type_199 : decode prog_11_method_66_code 199 = .ok (.if_icmp .ge 20, 3) := by decide +kernel
theorem d_Model_type_202 : decode prog_11_method_66_code 202 = .ok (.aload_n 0, 1) := by decide +kernel
theorem d_Model_type_203 : decode prog_11_method_66_code 203 = .ok (.iload 5, 2) := by decide +kernel
theorem d_Model_type_205 : decode prog_11_method_66_code 205 = .ok (.bipush 59, 2) := by decide +kernel
theorem d_Model_type_207 : decode prog_11_method_66_code 207 = .ok (.invokevirtual 200, 3) := by decide +kernel
theorem d_Model_type_210 : decode prog_11_method_66_code 210 = .ok (.ifCond .ne 9, 3) := by decide +kernel
theorem d_Model_type_213 : decode prog_11_method_66_code 213 = .ok (.iinc 5 1, 3) := by decide +kernel
theorem d_Model_type_216 : decode prog_11_method_66_code 216 = .ok (.goto (-23), 3) := by decide +kernel
theorem d_Model_type_219 : decode prog_11_method_66_code 219 = .ok (.iload 5, 2) := by decide +kernel
theorem d_Model_type_221 : decode prog_11_method_66_code 221 = .ok (.aload_n 0, 1) := by decide +kernel
theorem d_Model_type_222 : decode prog_11_method_66_code 222 = .ok (.getfield 149, 3) := by decide +kernel
theorem d_Model_type_225 : decode prog_11_method_66_code 225 = .ok (.if_icmp .ge 11, 3) := by decide +kernel
theorem d_Model_type_228 : decode prog_11_method_66_code 228 = .ok (.aload_n 0, 1) := by decide +kernel
theorem d_Model_type_229 : decode prog_11_method_66_code 229 = .ok (.iload 5, 2) := by decide +kernel
theorem d_Model_type_231 : decode prog_11_method_66_code 231 = .ok (.iconst 1, 1) := by decide +kernel
theorem d_Model_type_232 : decode prog_11_method_66_code 232 = .ok (.iadd, 1) := by decide +kernel
theorem d_Model_type_233 : decode prog_11_method_66_code 233 = .ok (.invokevirtual 353, 3) := by decide +kernel
theorem d_Model_type_236 : decode prog_11_method_66_code 236 = .ok (.iinc 5 1, 3) := by decide +kernel
theorem d_Model_type_239 : decode prog_11_method_66_code 239 = .ok (.goto (-55), 3) := by decide +kernel
theorem d_Model_type_242 : decode prog_11_method_66_code 242 = .ok (.iconst 1, 1) := by decide +kernel
theorem d_Model_type_243 : decode prog_11_method_66_code 243 = .ok (.ireturn, 1) := by decide +kernel
theorem d_Model_readyWord_0 : decode prog_11_method_3_code 0 = .ok (.iconst 0, 1) := by decide +kernel
theorem d_Model_readyWord_1 : decode prog_11_method_3_code 1 = .ok (.istore_n 3, 1) := by decide +kernel
theorem d_Model_readyWord_2 : decode prog_11_method_3_code 2 = .ok (.iload_n 3, 1) := by decide +kernel
theorem d_Model_readyWord_3 : decode prog_11_method_3_code 3 = .ok (.iconst 4, 1) := by decide +kernel
theorem d_Model_readyWord_4 : decode prog_11_method_3_code 4 = .ok (.if_icmp .ge 30, 3) := by decide +kernel
theorem d_Model_readyWord_7 : decode prog_11_method_3_code 7 = .ok (.aload_n 0, 1) := by decide +kernel
theorem d_Model_readyWord_8 : decode prog_11_method_3_code 8 = .ok (.getfield 7, 3) := by decide +kernel
theorem d_Model_readyWord_11 : decode prog_11_method_3_code 11 = .ok (.iload_n 1, 1) := by decide +kernel
theorem d_Model_readyWord_12 : decode prog_11_method_3_code 12 = .ok (.iload_n 3, 1) := by decide +kernel
theorem d_Model_readyWord_13 : decode prog_11_method_3_code 13 = .ok (.iadd, 1) := by decide +kernel
theorem d_Model_readyWord_14 : decode prog_11_method_3_code 14 = .ok (.iload_n 2, 1) := by decide +kernel
theorem d_Model_readyWord_15 : decode prog_11_method_3_code 15 = .ok (.bipush 24, 2) := by decide +kernel
theorem d_Model_readyWord_17 : decode prog_11_method_3_code 17 = .ok (.bipush 8, 2) := by decide +kernel
theorem d_Model_readyWord_19 : decode prog_11_method_3_code 19 = .ok (.iload_n 3, 1) := by decide +kernel
theorem d_Model_readyWord_20 : decode prog_11_method_3_code 20 = .ok (.imul, 1) := by decide +kernel
theorem d_Model_readyWord_21 : decode prog_11_method_3_code 21 = .ok (.isub, 1) := by decide +kernel
theorem d_Model_readyWord_22 : decode prog_11_method_3_code 22 = .ok (.iushr, 1) := by decide +kernel
theorem d_Model_readyWord_23 : decode prog_11_method_3_code 23 = .ok (.sipush 255, 3) := by decide +kernel
theorem d_Model_readyWord_26 : decode prog_11_method_3_code 26 = .ok (.iand, 1) := by decide +kernel
theorem d_Model_readyWord_27 : decode prog_11_method_3_code 27 = .ok (.iastore, 1) := by decide +kernel
theorem d_Model_readyWord_28 : decode prog_11_method_3_code 28 = .ok (.iinc 3 1, 3) := by decide +kernel
theorem d_Model_readyWord_31 : decode prog_11_method_3_code 31 = .ok (.goto (-29), 3) := by decide +kernel
theorem d_Model_readyWord_34 : decode prog_11_method_3_code 34 = .ok (.return_, 1) := by decide +kernel
theorem d_Model_feed_0 : decode prog_11_method_4_code 0 = .ok (.aload_n 0, 1) := by decide +kernel
theorem d_Model_feed_1 : decode prog_11_method_4_code 1 = .ok (.iconst 0, 1) := by decide +kernel
theorem d_Model_feed_2 : decode prog_11_method_4_code 2 = .ok (.putfield 99, 3) := by decide +kernel
theorem d_Model_feed_5 : decode prog_11_method_4_code 5 = .ok (.aload_n 0, 1) := by decide +kernel
theorem d_Model_feed_6 : decode prog_11_method_4_code 6 = .ok (.iconst 0, 1) := by decide +kernel
theorem d_Model_feed_7 : decode prog_11_method_4_code 7 = .ok (.iload_n 1, 1) := by decide +kernel
theorem d_Model_feed_8 : decode prog_11_method_4_code 8 = .ok (.invokevirtual 102, 3) := by decide +kernel
theorem d_Model_feed_11 : decode prog_11_method_4_code 11 = .ok (.aload_n 0, 1) := by decide +kernel
theorem d_Model_feed_12 : decode prog_11_method_4_code 12 = .ok (.iconst 4, 1) := by decide +kernel
theorem d_Model_feed_13 : decode prog_11_method_4_code 13 = .ok (.iload_n 2, 1) := by decide +kernel
theorem d_Model_feed_14 : decode prog_11_method_4_code 14 = .ok (.invokevirtual 102, 3) := by decide +kernel
theorem d_Model_feed_17 : decode prog_11_method_4_code 17 = .ok (.aload_n 0, 1) := by decide +kernel
theorem d_Model_feed_18 : decode prog_11_method_4_code 18 = .ok (.bipush 8, 2) := by decide +kernel
theorem d_Model_feed_20 : decode prog_11_method_4_code 20 = .ok (.iload_n 3, 1) := by decide +kernel
theorem d_Model_feed_21 : decode prog_11_method_4_code 21 = .ok (.invokevirtual 102, 3) := by decide +kernel
theorem d_Model_feed_24 : decode prog_11_method_4_code 24 = .ok (.aload_n 0, 1) := by decide +kernel
theorem d_Model_feed_25 : decode prog_11_method_4_code 25 = .ok (.bipush 12, 2) := by decide +kernel
theorem d_Model_feed_27 : decode prog_11_method_4_code 27 = .ok (.iload 4, 2) := by decide +kernel
theorem d_Model_feed_29 : decode prog_11_method_4_code 29 = .ok (.invokevirtual 102, 3) := by decide +kernel
theorem d_Model_feed_32 : decode prog_11_method_4_code 32 = .ok (.aload_n 0, 1) := by decide +kernel
theorem d_Model_feed_33 : decode prog_11_method_4_code 33 = .ok (.bipush 16, 2) := by decide +kernel
theorem d_Model_feed_35 : decode prog_11_method_4_code 35 = .ok (.iload 5, 2) := by decide +kernel
theorem d_Model_feed_37 : decode prog_11_method_4_code 37 = .ok (.invokevirtual 102, 3) := by decide +kernel
theorem d_Model_feed_40 : decode prog_11_method_4_code 40 = .ok (.return_, 1) := by decide +kernel
theorem d_Model_sixteenth_0 : decode prog_11_method_70_code 0 = .ok (.iload_n 0, 1) := by decide +kernel
theorem d_Model_sixteenth_1 : decode prog_11_method_70_code 1 = .ok (.invokestatic 271, 3) := by decide +kernel
theorem d_Model_sixteenth_4 : decode prog_11_method_70_code 4 = .ok (.ifCond .eq 10, 3) := by decide +kernel
theorem d_Model_sixteenth_7 : decode prog_11_method_70_code 7 = .ok (.iload_n 0, 1) := by decide +kernel
theorem d_Model_sixteenth_8 : decode prog_11_method_70_code 8 = .ok (.bipush 48, 2) := by decide +kernel
theorem d_Model_sixteenth_10 : decode prog_11_method_70_code 10 = .ok (.isub, 1) := by decide +kernel
theorem d_Model_sixteenth_11 : decode prog_11_method_70_code 11 = .ok (.goto 48, 3) := by decide +kernel
theorem d_Model_sixteenth_14 : decode prog_11_method_70_code 14 = .ok (.iload_n 0, 1) := by decide +kernel
theorem d_Model_sixteenth_15 : decode prog_11_method_70_code 15 = .ok (.bipush 97, 2) := by decide +kernel
theorem d_Model_sixteenth_17 : decode prog_11_method_70_code 17 = .ok (.if_icmp .lt 19, 3) := by decide +kernel
theorem d_Model_sixteenth_20 : decode prog_11_method_70_code 20 = .ok (.iload_n 0, 1) := by decide +kernel
theorem d_Model_sixteenth_21 : decode prog_11_method_70_code 21 = .ok (.bipush 102, 2) := by decide +kernel
theorem d_Model_sixteenth_23 : decode prog_11_method_70_code 23 = .ok (.if_icmp .gt 13, 3) := by decide +kernel
theorem d_Model_sixteenth_26 : decode prog_11_method_70_code 26 = .ok (.iload_n 0, 1) := by decide +kernel
theorem d_Model_sixteenth_27 : decode prog_11_method_70_code 27 = .ok (.bipush 97, 2) := by decide +kernel
theorem d_Model_sixteenth_29 : decode prog_11_method_70_code 29 = .ok (.isub, 1) := by decide +kernel
theorem d_Model_sixteenth_30 : decode prog_11_method_70_code 30 = .ok (.bipush 10, 2) := by decide +kernel
theorem d_Model_sixteenth_32 : decode prog_11_method_70_code 32 = .ok (.iadd, 1) := by decide +kernel
theorem d_Model_sixteenth_33 : decode prog_11_method_70_code 33 = .ok (.goto 26, 3) := by decide +kernel
theorem d_Model_sixteenth_36 : decode prog_11_method_70_code 36 = .ok (.iload_n 0, 1) := by decide +kernel
theorem d_Model_sixteenth_37 : decode prog_11_method_70_code 37 = .ok (.bipush 65, 2) := by decide +kernel
theorem d_Model_sixteenth_39 : decode prog_11_method_70_code 39 = .ok (.if_icmp .lt 19, 3) := by decide +kernel
theorem d_Model_sixteenth_42 : decode prog_11_method_70_code 42 = .ok (.iload_n 0, 1) := by decide +kernel
theorem d_Model_sixteenth_43 : decode prog_11_method_70_code 43 = .ok (.bipush 70, 2) := by decide +kernel
theorem d_Model_sixteenth_45 : decode prog_11_method_70_code 45 = .ok (.if_icmp .gt 13, 3) := by decide +kernel
theorem d_Model_sixteenth_48 : decode prog_11_method_70_code 48 = .ok (.iload_n 0, 1) := by decide +kernel
theorem d_Model_sixteenth_49 : decode prog_11_method_70_code 49 = .ok (.bipush 65, 2) := by decide +kernel
theorem d_Model_sixteenth_51 : decode prog_11_method_70_code 51 = .ok (.isub, 1) := by decide +kernel
theorem d_Model_sixteenth_52 : decode prog_11_method_70_code 52 = .ok (.bipush 10, 2) := by decide +kernel
theorem d_Model_sixteenth_54 : decode prog_11_method_70_code 54 = .ok (.iadd, 1) := by decide +kernel
theorem d_Model_sixteenth_55 : decode prog_11_method_70_code 55 = .ok (.goto 4, 3) := by decide +kernel
theorem d_Model_sixteenth_58 : decode prog_11_method_70_code 58 = .ok (.iconst (-1), 1) := by decide +kernel
theorem d_Model_sixteenth_59 : decode prog_11_method_70_code 59 = .ok (.ireturn, 1) := by decide +kernel
theorem d_Model_behindCharset_0 : decode prog_11_method_71_code 0 = .ok (.aload_n 0, 1) := by decide +kernel
theorem d_Model_behindCharset_1 : decode prog_11_method_71_code 1 = .ok (.getfield 77, 3) := by decide +kernel
theorem d_Model_behindCharset_4 : decode prog_11_method_71_code 4 = .ok (.iload_n 1, 1) := by decide +kernel
theorem d_Model_behindCharset_5 : decode prog_11_method_71_code 5 = .ok (.iaload, 1) := by decide +kernel
theorem d_Model_behindCharset_6 : decode prog_11_method_71_code 6 = .ok (.istore_n 2, 1) := by decide +kernel
theorem d_Model_behindCharset_7 : decode prog_11_method_71_code 7 = .ok (.aload_n 0, 1) := by decide +kernel
theorem d_Model_behindCharset_8 : decode prog_11_method_71_code 8 = .ok (.getfield 80, 3) := by decide +kernel
theorem d_Model_behindCharset_11 : decode prog_11_method_71_code 11 = .ok (.iload_n 1, 1) := by decide +kernel
theorem d_Model_behindCharset_12 : decode prog_11_method_71_code 12 = .ok (.iaload, 1) := by decide +kernel
theorem d_Model_behindCharset_13 : decode prog_11_method_71_code 13 = .ok (.istore_n 3, 1) := by decide +kernel
theorem d_Model_behindCharset_14 : decode prog_11_method_71_code 14 = .ok (.aload_n 0, 1) := by decide +kernel
theorem d_Model_behindCharset_15 : decode prog_11_method_71_code 15 = .ok (.getfield 73, 3) := by decide +kernel
theorem d_Model_behindCharset_18 : decode prog_11_method_71_code 18 = .ok (.iload_n 1, 1) := by decide +kernel
theorem d_Model_behindCharset_19 : decode prog_11_method_71_code 19 = .ok (.baload, 1) := by decide +kernel
theorem d_Model_behindCharset_20 : decode prog_11_method_71_code 20 = .ok (.ifCond .eq 12, 3) := by decide +kernel
theorem d_Model_behindCharset_23 : decode prog_11_method_71_code 23 = .ok (.aload_n 0, 1) := by decide +kernel
theorem d_Model_behindCharset_24 : decode prog_11_method_71_code 24 = .ok (.getfield 70, 3) := by decide +kernel
theorem d_Model_behindCharset_27 : decode prog_11_method_71_code 27 = .ok (.iload_n 1, 1) := by decide +kernel
theorem d_Model_behindCharset_28 : decode prog_11_method_71_code 28 = .ok (.iaload, 1) := by decide +kernel
theorem d_Model_behindCharset_29 : decode prog_11_method_71_code 29 = .ok (.ifCond .le 5, 3) := by decide +kernel
theorem d_Model_behindCharset_32 : decode prog_11_method_71_code 32 = .ok (.iload_n 2, 1) := by decide +kernel
theorem d_Model_behindCharset_33 : decode prog_11_method_71_code 33 = .ok (.ireturn, 1) := by decide +kernel
theorem d_Model_behindCharset_34 : decode prog_11_method_71_code 34 = .ok (.iload_n 2, 1) := by decide +kernel
theorem d_Model_behindCharset_35 : decode prog_11_method_71_code 35 = .ok (.istore 4, 2) := by decide +kernel
theorem d_Model_behindCharset_37 : decode prog_11_method_71_code 37 = .ok (.iload 4, 2) := by decide +kernel
theorem d_Model_behindCharset_39 : decode prog_11_method_71_code 39 = .ok (.iload_n 3, 1) := by decide +kernel
theorem d_Model_behindCharset_40 : decode prog_11_method_71_code 40 = .ok (.if_icmp .ge 21, 3) := by decide +kernel
theorem d_Model_behindCharset_43 : decode prog_11_method_71_code 43 = .ok (.aload_n 0, 1) := by decide +kernel
theorem d_Model_behindCharset_44 : decode prog_11_method_71_code 44 = .ok (.getfield 83, 3) := by decide +kernel
theorem d_Model_behindCharset_47 : decode prog_11_method_71_code 47 = .ok (.iload 4, 2) := by decide +kernel
theorem d_Model_behindCharset_49 : decode prog_11_method_71_code 49 = .ok (.iaload, 1) := by decide +kernel
theorem d_Model_behindCharset_50 : decode prog_11_method_71_code 50 = .ok (.bipush 39, 2) := by decide +kernel
theorem d_Model_behindCharset_52 : decode prog_11_method_71_code 52 = .ok (.if_icmp .eq 9, 3) := by decide +kernel
theorem d_Model_behindCharset_55 : decode prog_11_method_71_code 55 = .ok (.iinc 4 1, 3) := by decide +kernel
theorem d_Model_behindCharset_58 : decode prog_11_method_71_code 58 = .ok (.goto (-21), 3) := by decide +kernel
theorem d_Model_behindCharset_61 : decode prog_11_method_71_code 61 = .ok (.iload 4, 2) := by decide +kernel
theorem d_Model_behindCharset_63 : decode prog_11_method_71_code 63 = .ok (.iconst 1, 1) := by decide +kernel
theorem d_Model_behindCharset_64 : decode prog_11_method_71_code 64 = .ok (.iadd, 1) := by decide +kernel
theorem d_Model_behindCharset_65 : decode prog_11_method_71_code 65 = .ok (.istore 5, 2) := by decide +kernel
theorem d_Model_behindCharset_67 : decode prog_11_method_71_code 67 = .ok (.iload 5, 2) := by decide +kernel
theorem d_Model_behindCharset_69 : decode prog_11_method_71_code 69 = .ok (.iload_n 3, 1) := by decide +kernel
theorem d_Model_behindCharset_70 : decode prog_11_method_71_code 70 = .ok (.if_icmp .ge 21, 3) := by decide +kernel
theorem d_Model_behindCharset_73 : decode prog_11_method_71_code 73 = .ok (.aload_n 0, 1) := by decide +kernel
theorem d_Model_behindCharset_74 : decode prog_11_method_71_code 74 = .ok (.getfield 83, 3) := by decide +kernel
theorem d_Model_behindCharset_77 : decode prog_11_method_71_code 77 = .ok (.iload 5, 2) := by decide +kernel
theorem d_Model_behindCharset_79 : decode prog_11_method_71_code 79 = .ok (.iaload, 1) := by decide +kernel
theorem d_Model_behindCharset_80 : decode prog_11_method_71_code 80 = .ok (.bipush 39, 2) := by decide +kernel
theorem d_Model_behindCharset_82 : decode prog_11_method_71_code 82 = .ok (.if_icmp .eq 9, 3) := by decide +kernel
theorem d_Model_behindCharset_85 : decode prog_11_method_71_code 85 = .ok (.iinc 5 1, 3) := by decide +kernel
theorem d_Model_behindCharset_88 : decode prog_11_method_71_code 88 = .ok (.goto (-21), 3) := by decide +kernel
theorem d_Model_behindCharset_91 : decode prog_11_method_71_code 91 = .ok (.iload 5, 2) := by decide +kernel
theorem d_Model_behindCharset_93 : decode prog_11_method_71_code 93 = .ok (.iload_n 3, 1) := by decide +kernel
theorem d_Model_behindCharset_94 : decode prog_11_method_71_code 94 = .ok (.if_icmp .lt 5, 3) := by decide +kernel
theorem d_Model_behindCharset_97 : decode prog_11_method_71_code 97 = .ok (.iload_n 2, 1) := by decide +kernel
theorem d_Model_behindCharset_98 : decode prog_11_method_71_code 98 = .ok (.ireturn, 1) := by decide +kernel
theorem d_Model_behindCharset_99 : decode prog_11_method_71_code 99 = .ok (.iload_n 2, 1) := by decide +kernel
theorem d_Model_behindCharset_100 : decode prog_11_method_71_code 100 = .ok (.istore 6, 2) := by decide +kernel
theorem d_Model_behindCharset_102 : decode prog_11_method_71_code 102 = .ok (.iload 6, 2) := by decide +kernel
theorem d_Model_behindCharset_104 : decode prog_11_method_71_code 104 = .ok (.iload 4, 2) := by decide +kernel
theorem d_Model_behindCharset_106 : decode prog_11_method_71_code 106 = .ok (.if_icmp .ge 28, 3) := by decide +kernel
theorem d_Model_behindCharset_109 : decode prog_11_method_71_code 109 = .ok (.aload_n 0, 1) := by decide +kernel
theorem d_Model_behindCharset_110 : decode prog_11_method_71_code 110 = .ok (.getfield 89, 3) := by decide +kernel
theorem d_Model_behindCharset_113 : decode prog_11_method_71_code 113 = .ok (.iload 6, 2) := by decide +kernel
theorem d_Model_behindCharset_115 : decode prog_11_method_71_code 115 = .ok (.iload_n 2, 1) := by decide +kernel
theorem d_Model_behindCharset_116 : decode prog_11_method_71_code 116 = .ok (.isub, 1) := by decide +kernel
theorem d_Model_behindCharset_117 : decode prog_11_method_71_code 117 = .ok (.aload_n 0, 1) := by decide +kernel
theorem d_Model_behindCharset_118 : decode prog_11_method_71_code 118 = .ok (.getfield 83, 3) := by decide +kernel
theorem d_Model_behindCharset_121 : decode prog_11_method_71_code 121 = .ok (.iload 6, 2) := by decide +kernel
theorem d_Model_behindCharset_123 : decode prog_11_method_71_code 123 = .ok (.iaload, 1) := by decide +kernel
theorem d_Model_behindCharset_124 : decode prog_11_method_71_code 124 = .ok (.invokestatic 133, 3) := by decide +kernel
theorem d_Model_behindCharset_127 : decode prog_11_method_71_code 127 = .ok (.iastore, 1) := by decide +kernel
theorem d_Model_behindCharset_128 : decode prog_11_method_71_code 128 = .ok (.iinc 6 1, 3) := by decide +kernel
theorem d_Model_behindCharset_131 : decode prog_11_method_71_code 131 = .ok (.goto (-29), 3) := by decide +kernel
theorem d_Model_behindCharset_134 : decode prog_11_method_71_code 134 = .ok (.aload_n 0, 1) := by decide +kernel
theorem d_Model_behindCharset_135 : decode prog_11_method_71_code 135 = .ok (.iload 4, 2) := by decide +kernel
theorem d_Model_behindCharset_137 : decode prog_11_method_71_code 137 = .ok (.iload_n 2, 1) := by decide +kernel
theorem d_Model_behindCharset_138 : decode prog_11_method_71_code 138 = .ok (.isub, 1) := by decide +kernel
theorem d_Model_behindCharset_139 : decode prog_11_method_71_code 139 = .ok (.putfield 96, 3) := by decide +kernel
theorem d_Model_behindCharset_142 : decode prog_11_method_71_code 142 = .ok (.iload 5, 2) := by decide +kernel
theorem d_Model_behindCharset_144 : decode prog_11_method_71_code 144 = .ok (.iconst 1, 1) := by decide +kernel
theorem d_Model_behindCharset_145 : decode prog_11_method_71_code 145 = .ok (.iadd, 1) := by decide +kernel
theorem d_Model_behindCharset_146 : decode prog_11_method_71_code 146 = .ok (.ireturn, 1) := by decide +kernel
theorem d_Model_takeValue_0 : decode prog_11_method_72_code 0 = .ok (.aload_n 0, 1) := by decide +kernel
theorem d_Model_takeValue_1 : decode prog_11_method_72_code 1 = .ok (.iload_n 1, 1) := by decide +kernel
theorem d_Model_takeValue_2 : decode prog_11_method_72_code 2 = .ok (.invokevirtual 359, 3) := by decide +kernel
theorem d_Model_takeValue_5 : decode prog_11_method_72_code 5 = .ok (.istore_n 2, 1) := by decide +kernel
theorem d_Model_takeValue_6 : decode prog_11_method_72_code 6 = .ok (.aload_n 0, 1) := by decide +kernel
theorem d_Model_takeValue_7 : decode prog_11_method_72_code 7 = .ok (.getfield 80, 3) := by decide +kernel
theorem d_Model_takeValue_10 : decode prog_11_method_72_code 10 = .ok (.iload_n 1, 1) := by decide +kernel
theorem d_Model_takeValue_11 : decode prog_11_method_72_code 11 = .ok (.iaload, 1) := by decide +kernel
theorem d_Model_takeValue_12 : decode prog_11_method_72_code 12 = .ok (.istore_n 3, 1) := by decide +kernel
theorem d_Model_takeValue_13 : decode prog_11_method_72_code 13 = .ok (.iload_n 2, 1) := by decide +kernel
theorem d_Model_takeValue_14 : decode prog_11_method_72_code 14 = .ok (.iload_n 3, 1) := by decide +kernel
theorem d_Model_takeValue_15 : decode prog_11_method_72_code 15 = .ok (.if_icmp .ge 140, 3) := by decide +kernel
theorem d_Model_takeValue_18 : decode prog_11_method_72_code 18 = .ok (.aload_n 0, 1) := by decide +kernel
theorem d_Model_takeValue_19 : decode prog_11_method_72_code 19 = .ok (.getfield 73, 3) := by decide +kernel
theorem d_Model_takeValue_22 : decode prog_11_method_72_code 22 = .ok (.iload_n 1, 1) := by decide +kernel
theorem d_Model_takeValue_23 : decode prog_11_method_72_code 23 = .ok (.baload, 1) := by decide +kernel
theorem d_Model_takeValue_24 : decode prog_11_method_72_code 24 = .ok (.ifCond .eq 53, 3) := by decide +kernel
theorem d_Model_takeValue_27 : decode prog_11_method_72_code 27 = .ok (.aload_n 0, 1) := by decide +kernel
theorem d_Model_takeValue_28 : decode prog_11_method_72_code 28 = .ok (.getfield 83, 3) := by decide +kernel
theorem d_Model_takeValue_31 : decode prog_11_method_72_code 31 = .ok (.iload_n 2, 1) := by decide +kernel
theorem d_Model_takeValue_32 : decode prog_11_method_72_code 32 = .ok (.iaload, 1) := by decide +kernel
theorem d_Model_takeValue_33 : decode prog_11_method_72_code 33 = .ok (.bipush 37, 2) := by decide +kernel
theorem d_Model_takeValue_35 : decode prog_11_method_72_code 35 = .ok (.if_icmp .ne 42, 3) := by decide +kernel
theorem d_Model_takeValue_38 : decode prog_11_method_72_code 38 = .ok (.iload_n 2, 1) := by decide +kernel
theorem d_Model_takeValue_39 : decode prog_11_method_72_code 39 = .ok (.iconst 2, 1) := by decide +kernel
theorem d_Model_takeValue_40 : decode prog_11_method_72_code 40 = .ok (.iadd, 1) := by decide +kernel
theorem d_Model_takeValue_41 : decode prog_11_method_72_code 41 = .ok (.iload_n 3, 1) := by decide +kernel
theorem d_Model_takeValue_42 : decode prog_11_method_72_code 42 = .ok (.if_icmp .ge 35, 3) := by decide +kernel
theorem d_Model_takeValue_45 : decode prog_11_method_72_code 45 = .ok (.aload_n 0, 1) := by decide +kernel
theorem d_Model_takeValue_46 : decode prog_11_method_72_code 46 = .ok (.getfield 83, 3) := by decide +kernel
theorem d_Model_takeValue_49 : decode prog_11_method_72_code 49 = .ok (.iload_n 2, 1) := by decide +kernel
theorem d_Model_takeValue_50 : decode prog_11_method_72_code 50 = .ok (.iconst 1, 1) := by decide +kernel
theorem d_Model_takeValue_51 : decode prog_11_method_72_code 51 = .ok (.iadd, 1) := by decide +kernel
theorem d_Model_takeValue_52 : decode prog_11_method_72_code 52 = .ok (.iaload, 1) := by decide +kernel
theorem d_Model_takeValue_53 : decode prog_11_method_72_code 53 = .ok (.invokestatic 362, 3) := by decide +kernel
theorem d_Model_takeValue_56 : decode prog_11_method_72_code 56 = .ok (.ifCond .lt 21, 3) := by decide +kernel
theorem d_Model_takeValue_59 : decode prog_11_method_72_code 59 = .ok (.aload_n 0, 1) := by decide +kernel
theorem d_Model_takeValue_60 : decode prog_11_method_72_code 60 = .ok (.getfield 83, 3) := by decide +kernel
theorem d_Model_takeValue_63 : decode prog_11_method_72_code 63 = .ok (.iload_n 2, 1) := by decide +kernel
theorem d_Model_takeValue_64 : decode prog_11_method_72_code 64 = .ok (.iconst 2, 1) := by decide +kernel
theorem d_Model_takeValue_65 : decode prog_11_method_72_code 65 = .ok (.iadd, 1) := by decide +kernel
theorem d_Model_takeValue_66 : decode prog_11_method_72_code 66 = .ok (.iaload, 1) := by decide +kernel
theorem d_Model_takeValue_67 : decode prog_11_method_72_code 67 = .ok (.invokestatic 362, 3) := by decide +kernel
theorem d_Model_takeValue_70 : decode prog_11_method_72_code 70 = .ok (.ifCond .lt 7, 3) := by decide +kernel
theorem d_Model_takeValue_73 : decode prog_11_method_72_code 73 = .ok (.iconst 1, 1) := by decide +kernel
theorem d_Model_takeValue_74 : decode prog_11_method_72_code 74 = .ok (.goto 4, 3) := by decide +kernel
theorem d_Model_takeValue_77 : decode prog_11_method_72_code 77 = .ok (.iconst 0, 1) := by decide +kernel
theorem d_Model_takeValue_78 : decode prog_11_method_72_code 78 = .ok (.istore 4, 2) := by decide +kernel
theorem d_Model_takeValue_80 : decode prog_11_method_72_code 80 = .ok (.aload_n 0, 1) := by decide +kernel
theorem d_Model_takeValue_81 : decode prog_11_method_72_code 81 = .ok (.getfield 86, 3) := by decide +kernel
theorem d_Model_takeValue_84 : decode prog_11_method_72_code 84 = .ok (.aload_n 0, 1) := by decide +kernel
theorem d_Model_takeValue_85 : decode prog_11_method_72_code 85 = .ok (.getfield 92, 3) := by decide +kernel
theorem d_Model_takeValue_88 : decode prog_11_method_72_code 88 = .ok (.iload 4, 2) := by decide +kernel
theorem d_Model_takeValue_90 : decode prog_11_method_72_code 90 = .ok (.ifCond .eq 32, 3) := by decide +kernel
theorem d_Model_takeValue_93 : decode prog_11_method_72_code 93 = .ok (.bipush 16, 2) := by decide +kernel
theorem d_Model_takeValue_95 : decode prog_11_method_72_code 95 = .ok (.aload_n 0, 1) := by decide +kernel
theorem d_Model_takeValue_96 : decode prog_11_method_72_code 96 = .ok (.getfield 83, 3) := by decide +kernel
theorem d_Model_takeValue_99 : decode prog_11_method_72_code 99 = .ok (.iload_n 2, 1) := by decide +kernel
theorem d_Model_takeValue_100 : decode prog_11_method_72_code 100 = .ok (.iconst 1, 1) := by decide +kernel
theorem d_Model_takeValue_101 : decode prog_11_method_72_code 101 = .ok (.iadd, 1) := by decide +kernel
theorem d_Model_takeValue_102 : decode prog_11_method_72_code 102 = .ok (.iaload, 1) := by decide +kernel
theorem d_Model_takeValue_103 : decode prog_11_method_72_code 103 = .ok (.invokestatic 362, 3) := by decide +kernel
theorem d_Model_takeValue_106 : decode prog_11_method_72_code 106 = .ok (.imul, 1) := by decide +kernel
theorem d_Model_takeValue_107 : decode prog_11_method_72_code 107 = .ok (.aload_n 0, 1) := by decide +kernel
theorem d_Model_takeValue_108 : decode prog_11_method_72_code 108 = .ok (.getfield 83, 3) := by decide +kernel
theorem d_Model_takeValue_111 : decode prog_11_method_72_code 111 = .ok (.iload_n 2, 1) := by decide +kernel
theorem d_Model_takeValue_112 : decode prog_11_method_72_code 112 = .ok (.iconst 2, 1) := by decide +kernel
theorem d_Model_takeValue_113 : decode prog_11_method_72_code 113 = .ok (.iadd, 1) := by decide +kernel
theorem d_Model_takeValue_114 : decode prog_11_method_72_code 114 = .ok (.iaload, 1) := by decide +kernel
theorem d_Model_takeValue_115 : decode prog_11_method_72_code 115 = .ok (.invokestatic 362, 3) := by decide +kernel
theorem d_Model_takeValue_118 : decode prog_11_method_72_code 118 = .ok (.iadd, 1) := by decide +kernel
theorem d_Model_takeValue_119 : decode prog_11_method_72_code 119 = .ok (.goto 9, 3) := by decide +kernel
theorem d_Model_takeValue_122 : decode prog_11_method_72_code 122 = .ok (.aload_n 0, 1) := by decide +kernel
theorem d_Model_takeValue_123 : decode prog_11_method_72_code 123 = .ok (.getfield 83, 3) := by decide +kernel
theorem d_Model_takeValue_126 : decode prog_11_method_72_code 126 = .ok (.iload_n 2, 1) := by decide +kernel
theorem d_Model_takeValue_127 : decode prog_11_method_72_code 127 = .ok (.iaload, 1) := by decide +kernel
theorem d_Model_takeValue_128 : decode prog_11_method_72_code 128 = .ok (.iastore, 1) := by decide +kernel
theorem d_Model_takeValue_129 : decode prog_11_method_72_code 129 = .ok (.aload_n 0, 1) := by decide +kernel
theorem d_Model_takeValue_130 : decode prog_11_method_72_code 130 = .ok (.dup, 1) := by decide +kernel
theorem d_Model_takeValue_131 : decode prog_11_method_72_code 131 = .ok (.getfield 92, 3) := by decide +kernel
theorem d_Model_takeValue_134 : decode prog_11_method_72_code 134 = .ok (.iconst 1, 1) := by decide +kernel
theorem d_Model_takeValue_135 : decode prog_11_method_72_code 135 = .ok (.iadd, 1) := by decide +kernel
theorem d_Model_takeValue_136 : decode prog_11_method_72_code 136 = .ok (.putfield 92, 3) := by decide +kernel
theorem d_Model_takeValue_139 : decode prog_11_method_72_code 139 = .ok (.iload_n 2, 1) := by decide +kernel
theorem d_Model_takeValue_140 : decode prog_11_method_72_code 140 = .ok (.iload 4, 2) := by decide +kernel
theorem d_Model_takeValue_142 : decode prog_11_method_72_code 142 = .ok (.ifCond .eq 7, 3) := by decide +kernel
theorem d_Model_takeValue_145 : decode prog_11_method_72_code 145 = .ok (.iconst 3, 1) := by decide +kernel
theorem d_Model_takeValue_146 : decode prog_11_method_72_code 146 = .ok (.goto 4, 3) := by decide +kernel
theorem d_Model_takeValue_149 : decode prog_11_method_72_code 149 = .ok (.iconst 1, 1) := by decide +kernel
theorem d_Model_takeValue_150 : decode prog_11_method_72_code 150 = .ok (.iadd, 1) := by decide +kernel
theorem d_Model_takeValue_151 : decode prog_11_method_72_code 151 = .ok (.istore_n 2, 1) := by decide +kernel
theorem d_Model_takeValue_152 : decode prog_11_method_72_code 152 = .ok (.goto (-139), 3) := by decide +kernel
theorem d_Model_takeValue_155 : decode prog_11_method_72_code 155 = .ok (.return_, 1) := by decide +kernel
theorem d_Model_isNamed_0 : decode prog_11_method_68_code 0 = .ok (.aload_n 0, 1) := by decide +kernel
theorem d_Model_isNamed_1 : decode prog_11_method_68_code 1 = .ok (.getfield 67, 3) := by decide +kernel
theorem d_Model_isNamed_4 : decode prog_11_method_68_code 4 = .ok (.iload_n 1, 1) := by decide +kernel
theorem d_Model_isNamed_5 : decode prog_11_method_68_code 5 = .ok (.iaload, 1) := by decide +kernel
theorem d_Model_isNamed_6 : decode prog_11_method_68_code 6 = .ok (.aload_n 0, 1) := by decide +kernel
theorem d_Model_isNamed_7 : decode prog_11_method_68_code 7 = .ok (.getfield 64, 3) := by decide +kernel
theorem d_Model_isNamed_10 : decode prog_11_method_68_code 10 = .ok (.iload_n 1, 1) := by decide +kernel
theorem d_Model_isNamed_11 : decode prog_11_method_68_code 11 = .ok (.iaload, 1) := by decide +kernel
theorem d_Model_isNamed_12 : decode prog_11_method_68_code 12 = .ok (.isub, 1) := by decide +kernel
theorem d_Model_isNamed_13 : decode prog_11_method_68_code 13 = .ok (.iload_n 2, 1) := by decide +kernel
theorem d_Model_isNamed_14 : decode prog_11_method_68_code 14 = .ok (.if_icmp .eq 5, 3) := by decide +kernel
theorem d_Model_isNamed_17 : decode prog_11_method_68_code 17 = .ok (.iconst 0, 1) := by decide +kernel
theorem d_Model_isNamed_18 : decode prog_11_method_68_code 18 = .ok (.ireturn, 1) := by decide +kernel
theorem d_Model_isNamed_19 : decode prog_11_method_68_code 19 = .ok (.iconst 0, 1) := by decide +kernel
theorem d_Model_isNamed_20 : decode prog_11_method_68_code 20 = .ok (.istore_n 3, 1) := by decide +kernel
theorem d_Model_isNamed_21 : decode prog_11_method_68_code 21 = .ok (.iload_n 3, 1) := by decide +kernel
theorem d_Model_isNamed_22 : decode prog_11_method_68_code 22 = .ok (.iload_n 2, 1) := by decide +kernel
theorem d_Model_isNamed_23 : decode prog_11_method_68_code 23 = .ok (.if_icmp .ge 39, 3) := by decide +kernel
theorem d_Model_isNamed_26 : decode prog_11_method_68_code 26 = .ok (.aload_n 0, 1) := by decide +kernel
theorem d_Model_isNamed_27 : decode prog_11_method_68_code 27 = .ok (.getfield 83, 3) := by decide +kernel
theorem d_Model_isNamed_30 : decode prog_11_method_68_code 30 = .ok (.aload_n 0, 1) := by decide +kernel
theorem d_Model_isNamed_31 : decode prog_11_method_68_code 31 = .ok (.getfield 64, 3) := by decide +kernel
theorem d_Model_isNamed_34 : decode prog_11_method_68_code 34 = .ok (.iload_n 1, 1) := by decide +kernel
theorem d_Model_isNamed_35 : decode prog_11_method_68_code 35 = .ok (.iaload, 1) := by decide +kernel
theorem d_Model_isNamed_36 : decode prog_11_method_68_code 36 = .ok (.iload_n 3, 1) := by decide +kernel
theorem d_Model_isNamed_37 : decode prog_11_method_68_code 37 = .ok (.iadd, 1) := by decide +kernel
theorem d_Model_isNamed_38 : decode prog_11_method_68_code 38 = .ok (.iaload, 1) := by decide +kernel
theorem d_Model_isNamed_39 : decode prog_11_method_68_code 39 = .ok (.invokestatic 133, 3) := by decide +kernel
theorem d_Model_isNamed_42 : decode prog_11_method_68_code 42 = .ok (.aload_n 0, 1) := by decide +kernel
theorem d_Model_isNamed_43 : decode prog_11_method_68_code 43 = .ok (.getfield 13, 3) := by decide +kernel
theorem d_Model_isNamed_46 : decode prog_11_method_68_code 46 = .ok (.iload_n 3, 1) := by decide +kernel
theorem d_Model_isNamed_47 : decode prog_11_method_68_code 47 = .ok (.iaload, 1) := by decide +kernel
theorem d_Model_isNamed_48 : decode prog_11_method_68_code 48 = .ok (.invokestatic 133, 3) := by decide +kernel
theorem d_Model_isNamed_51 : decode prog_11_method_68_code 51 = .ok (.if_icmp .eq 5, 3) := by decide +kernel
theorem d_Model_isNamed_54 : decode prog_11_method_68_code 54 = .ok (.iconst 0, 1) := by decide +kernel
theorem d_Model_isNamed_55 : decode prog_11_method_68_code 55 = .ok (.ireturn, 1) := by decide +kernel
theorem d_Model_isNamed_56 : decode prog_11_method_68_code 56 = .ok (.iinc 3 1, 3) := by decide +kernel
theorem d_Model_isNamed_59 : decode prog_11_method_68_code 59 = .ok (.goto (-38), 3) := by decide +kernel
theorem d_Model_isNamed_62 : decode prog_11_method_68_code 62 = .ok (.iconst 1, 1) := by decide +kernel
theorem d_Model_isNamed_63 : decode prog_11_method_68_code 63 = .ok (.ireturn, 1) := by decide +kernel
theorem d_Model_parameterOf_0 : decode prog_11_method_69_code 0 = .ok (.iconst 0, 1) := by decide +kernel
theorem d_Model_parameterOf_1 : decode prog_11_method_69_code 1 = .ok (.istore_n 3, 1) := by decide +kernel
theorem d_Model_parameterOf_2 : decode prog_11_method_69_code 2 = .ok (.iload_n 3, 1) := by decide +kernel
theorem d_Model_parameterOf_3 : decode prog_11_method_69_code 3 = .ok (.aload_n 0, 1) := by decide +kernel
theorem d_Model_parameterOf_4 : decode prog_11_method_69_code 4 = .ok (.getfield 347, 3) := by decide +kernel
theorem d_Model_parameterOf_7 : decode prog_11_method_69_code 7 = .ok (.if_icmp .ge 30, 3) := by decide +kernel
theorem d_Model_parameterOf_10 : decode prog_11_method_69_code 10 = .ok (.aload_n 0, 1) := by decide +kernel
theorem d_Model_parameterOf_11 : decode prog_11_method_69_code 11 = .ok (.getfield 70, 3) := by decide +kernel
theorem d_Model_parameterOf_14 : decode prog_11_method_69_code 14 = .ok (.iload_n 3, 1) := by decide +kernel
theorem d_Model_parameterOf_15 : decode prog_11_method_69_code 15 = .ok (.iaload, 1) := by decide +kernel
theorem d_Model_parameterOf_16 : decode prog_11_method_69_code 16 = .ok (.iload_n 2, 1) := by decide +kernel
theorem d_Model_parameterOf_17 : decode prog_11_method_69_code 17 = .ok (.if_icmp .ne 14, 3) := by decide +kernel
theorem d_Model_parameterOf_20 : decode prog_11_method_69_code 20 = .ok (.aload_n 0, 1) := by decide +kernel
theorem d_Model_parameterOf_21 : decode prog_11_method_69_code 21 = .ok (.iload_n 3, 1) := by decide +kernel
theorem d_Model_parameterOf_22 : decode prog_11_method_69_code 22 = .ok (.iload_n 1, 1) := by decide +kernel
theorem d_Model_parameterOf_23 : decode prog_11_method_69_code 23 = .ok (.invokevirtual 356, 3) := by decide +kernel
theorem d_Model_parameterOf_26 : decode prog_11_method_69_code 26 = .ok (.ifCond .eq 5, 3) := by decide +kernel
theorem d_Model_parameterOf_29 : decode prog_11_method_69_code 29 = .ok (.iload_n 3, 1) := by decide +kernel
theorem d_Model_parameterOf_30 : decode prog_11_method_69_code 30 = .ok (.ireturn, 1) := by decide +kernel
theorem d_Model_parameterOf_31 : decode prog_11_method_69_code 31 = .ok (.iinc 3 1, 3) := by decide +kernel
theorem d_Model_parameterOf_34 : decode prog_11_method_69_code 34 = .ok (.goto (-32), 3) := by decide +kernel
theorem d_Model_parameterOf_37 : decode prog_11_method_69_code 37 = .ok (.iconst (-1), 1) := by decide +kernel
theorem d_Model_parameterOf_38 : decode prog_11_method_69_code 38 = .ok (.ireturn, 1) := by decide +kernel
theorem d_Model_parameter_0 : decode prog_11_method_73_code 0 = .ok (.aload_n 0, 1) := by decide +kernel
theorem d_Model_parameter_1 : decode prog_11_method_73_code 1 = .ok (.iconst 0, 1) := by decide +kernel
theorem d_Model_parameter_2 : decode prog_11_method_73_code 2 = .ok (.putfield 99, 3) := by decide +kernel
theorem d_Model_parameter_5 : decode prog_11_method_73_code 5 = .ok (.aload_n 0, 1) := by decide +kernel
theorem d_Model_parameter_6 : decode prog_11_method_73_code 6 = .ok (.getfield 106, 3) := by decide +kernel
theorem d_Model_parameter_9 : decode prog_11_method_73_code 9 = .ok (.istore_n 1, 1) := by decide +kernel
theorem d_Model_parameter_10 : decode prog_11_method_73_code 10 = .ok (.aload_n 0, 1) := by decide +kernel
theorem d_Model_parameter_11 : decode prog_11_method_73_code 11 = .ok (.iconst 0, 1) := by decide +kernel
theorem d_Model_parameter_12 : decode prog_11_method_73_code 12 = .ok (.putfield 106, 3) := by decide +kernel
theorem d_Model_parameter_15 : decode prog_11_method_73_code 15 = .ok (.aload_n 0, 1) := by decide +kernel
theorem d_Model_parameter_16 : decode prog_11_method_73_code 16 = .ok (.iconst (-1), 1) := by decide +kernel
theorem d_Model_parameter_17 : decode prog_11_method_73_code 17 = .ok (.putfield 92, 3) := by decide +kernel
theorem d_Model_parameter_20 : decode prog_11_method_73_code 20 = .ok (.aload_n 0, 1) := by decide +kernel
theorem d_Model_parameter_21 : decode prog_11_method_73_code 21 = .ok (.iconst (-1), 1) := by decide +kernel
theorem d_Model_parameter_22 : decode prog_11_method_73_code 22 = .ok (.putfield 96, 3) := by decide +kernel
theorem d_Model_parameter_25 : decode prog_11_method_73_code 25 = .ok (.aload_n 0, 1) := by decide +kernel
theorem d_Model_parameter_26 : decode prog_11_method_73_code 26 = .ok (.iload_n 1, 1) := by decide +kernel
theorem d_Model_parameter_27 : decode prog_11_method_73_code 27 = .ok (.iconst (-1), 1) := by decide +kernel
theorem d_Model_parameter_28 : decode prog_11_method_73_code 28 = .ok (.invokevirtual 365, 3) := by decide +kernel
theorem d_Model_parameter_31 : decode prog_11_method_73_code 31 = .ok (.istore_n 2, 1) := by decide +kernel
theorem d_Model_parameter_32 : decode prog_11_method_73_code 32 = .ok (.iload_n 2, 1) := by decide +kernel
theorem d_Model_parameter_33 : decode prog_11_method_73_code 33 = .ok (.iconst (-1), 1) := by decide +kernel
theorem d_Model_parameter_34 : decode prog_11_method_73_code 34 = .ok (.if_icmp .eq 7, 3) := by decide +kernel
theorem d_Model_parameter_37 : decode prog_11_method_73_code 37 = .ok (.iconst 1, 1) := by decide +kernel
theorem d_Model_parameter_38 : decode prog_11_method_73_code 38 = .ok (.goto 4, 3) := by decide +kernel
theorem d_Model_parameter_41 : decode prog_11_method_73_code 41 = .ok (.iconst 0, 1) := by decide +kernel
theorem d_Model_parameter_42 : decode prog_11_method_73_code 42 = .ok (.istore_n 3, 1) := by decide +kernel
theorem d_Model_parameter_43 : decode prog_11_method_73_code 43 = .ok (.iload_n 3, 1) := by decide +kernel
theorem d_Model_parameter_44 : decode prog_11_method_73_code 44 = .ok (.ifCond .ne 10, 3) := by decide +kernel
theorem d_Model_parameter_47 : decode prog_11_method_73_code 47 = .ok (.aload_n 0, 1) := by decide +kernel
theorem d_Model_parameter_48 : decode prog_11_method_73_code 48 = .ok (.iload_n 1, 1) := by decide +kernel
theorem d_Model_parameter_49 : decode prog_11_method_73_code 49 = .ok (.iconst 0, 1) := by decide +kernel
theorem d_Model_parameter_50 : decode prog_11_method_73_code 50 = .ok (.invokevirtual 365, 3) := by decide +kernel
theorem d_Model_parameter_53 : decode prog_11_method_73_code 53 = .ok (.istore_n 2, 1) := by decide +kernel
theorem d_Model_parameter_54 : decode prog_11_method_73_code 54 = .ok (.iload_n 2, 1) := by decide +kernel
theorem d_Model_parameter_55 : decode prog_11_method_73_code 55 = .ok (.iconst (-1), 1) := by decide +kernel
theorem d_Model_parameter_56 : decode prog_11_method_73_code 56 = .ok (.if_icmp .ne 5, 3) := by decide +kernel
theorem d_Model_parameter_59 : decode prog_11_method_73_code 59 = .ok (.iconst (-1), 1) := by decide +kernel
theorem d_Model_parameter_60 : decode prog_11_method_73_code 60 = .ok (.ireturn, 1) := by decide +kernel
theorem d_Model_parameter_61 : decode prog_11_method_73_code 61 = .ok (.aload_n 0, 1) := by decide +kernel
theorem d_Model_parameter_62 : decode prog_11_method_73_code 62 = .ok (.iconst 0, 1) := by decide +kernel
theorem d_Model_parameter_63 : decode prog_11_method_73_code 63 = .ok (.putfield 92, 3) := by decide +kernel
theorem d_Model_parameter_66 : decode prog_11_method_73_code 66 = .ok (.aload_n 0, 1) := by decide +kernel
theorem d_Model_parameter_67 : decode prog_11_method_73_code 67 = .ok (.iconst 0, 1) := by decide +kernel
theorem d_Model_parameter_68 : decode prog_11_method_73_code 68 = .ok (.putfield 96, 3) := by decide +kernel
theorem d_Model_parameter_71 : decode prog_11_method_73_code 71 = .ok (.aload_n 0, 1) := by decide +kernel
theorem d_Model_parameter_72 : decode prog_11_method_73_code 72 = .ok (.iload_n 2, 1) := by decide +kernel
theorem d_Model_parameter_73 : decode prog_11_method_73_code 73 = .ok (.invokevirtual 368, 3) := by decide +kernel
theorem d_Model_parameter_76 : decode prog_11_method_73_code 76 = .ok (.iconst 1, 1) := by decide +kernel
theorem d_Model_parameter_77 : decode prog_11_method_73_code 77 = .ok (.istore 4, 2) := by decide +kernel
theorem d_Model_parameter_79 : decode prog_11_method_73_code 79 = .ok (.iload 4, 2) := by decide +kernel
theorem d_Model_parameter_81 : decode prog_11_method_73_code 81 = .ok (.bipush 10, 2) := by decide +kernel
theorem d_Model_parameter_83 : decode prog_11_method_73_code 83 = .ok (.if_icmp .ge 38, 3) := by decide +kernel
theorem d_Model_parameter_86 : decode prog_11_method_73_code 86 = .ok (.iload_n 3, 1) := by decide +kernel
theorem d_Model_parameter_87 : decode prog_11_method_73_code 87 = .ok (.ifCond .ne 34, 3) := by decide +kernel
theorem d_Model_parameter_90 : decode prog_11_method_73_code 90 = .ok (.aload_n 0, 1) := by decide +kernel
theorem d_Model_parameter_91 : decode prog_11_method_73_code 91 = .ok (.iload_n 1, 1) := by decide +kernel
theorem d_Model_parameter_92 : decode prog_11_method_73_code 92 = .ok (.iload 4, 2) := by decide +kernel
theorem d_Model_parameter_94 : decode prog_11_method_73_code 94 = .ok (.invokevirtual 365, 3) := by decide +kernel
theorem d_Model_parameter_97 : decode prog_11_method_73_code 97 = .ok (.istore_n 2, 1) := by decide +kernel
theorem d_Model_parameter_98 : decode prog_11_method_73_code 98 = .ok (.iload_n 2, 1) := by decide +kernel
theorem d_Model_parameter_99 : decode prog_11_method_73_code 99 = .ok (.iconst (-1), 1) := by decide +kernel
theorem d_Model_parameter_100 : decode prog_11_method_73_code 100 = .ok (.if_icmp .ne 10, 3) := by decide +kernel
theorem d_Model_parameter_103 : decode prog_11_method_73_code 103 = .ok (.bipush 10, 2) := by decide +kernel
theorem d_Model_parameter_105 : decode prog_11_method_73_code 105 = .ok (.istore 4, 2) := by decide +kernel
theorem d_Model_parameter_107 : decode prog_11_method_73_code 107 = .ok (.goto 8, 3) := by decide +kernel
theorem d_Model_parameter_110 : decode prog_11_method_73_code 110 = .ok (.aload_n 0, 1) := by decide +kernel
theorem d_Model_parameter_111 : decode prog_11_method_73_code 111 = .ok (.iload_n 2, 1) := by decide +kernel
theorem d_Model_parameter_112 : decode prog_11_method_73_code 112 = .ok (.invokevirtual 368, 3) := by decide +kernel
theorem d_Model_parameter_115 : decode prog_11_method_73_code 115 = .ok (.iinc 4 1, 3) := by decide +kernel
theorem d_Model_parameter_118 : decode prog_11_method_73_code 118 = .ok (.goto (-39), 3) := by decide +kernel
theorem d_Model_parameter_121 : decode prog_11_method_73_code 121 = .ok (.aload_n 0, 1) := by decide +kernel
theorem d_Model_parameter_122 : decode prog_11_method_73_code 122 = .ok (.getfield 92, 3) := by decide +kernel
theorem d_Model_parameter_125 : decode prog_11_method_73_code 125 = .ok (.ireturn, 1) := by decide +kernel
theorem d_Model_at_0 : decode prog_11_method_37_code 0 = .ok (.aload_n 0, 1) := by decide +kernel
theorem d_Model_at_1 : decode prog_11_method_37_code 1 = .ok (.iload_n 1, 1) := by decide +kernel
theorem d_Model_at_2 : decode prog_11_method_37_code 2 = .ok (.iload_n 2, 1) := by decide +kernel
theorem d_Model_at_3 : decode prog_11_method_37_code 3 = .ok (.invokevirtual 194, 3) := by decide +kernel
theorem d_Model_at_6 : decode prog_11_method_37_code 6 = .ok (.istore 4, 2) := by decide +kernel
theorem d_Model_at_8 : decode prog_11_method_37_code 8 = .ok (.iload_n 3, 1) := by decide +kernel
theorem d_Model_at_9 : decode prog_11_method_37_code 9 = .ok (.ifCond .lt 9, 3) := by decide +kernel
theorem d_Model_at_12 : decode prog_11_method_37_code 12 = .ok (.iload_n 3, 1) := by decide +kernel
theorem d_Model_at_13 : decode prog_11_method_37_code 13 = .ok (.iload 4, 2) := by decide +kernel
theorem d_Model_at_15 : decode prog_11_method_37_code 15 = .ok (.if_icmp .lt 7, 3) := by decide +kernel
theorem d_Model_at_18 : decode prog_11_method_37_code 18 = .ok (.iconst (-1), 1) := by decide +kernel
theorem d_Model_at_19 : decode prog_11_method_37_code 19 = .ok (.goto 22, 3) := by decide +kernel
theorem d_Model_at_22 : decode prog_11_method_37_code 22 = .ok (.aload_n 0, 1) := by decide +kernel
theorem d_Model_at_23 : decode prog_11_method_37_code 23 = .ok (.getfield 46, 3) := by decide +kernel
theorem d_Model_at_26 : decode prog_11_method_37_code 26 = .ok (.aload_n 0, 1) := by decide +kernel
theorem d_Model_at_27 : decode prog_11_method_37_code 27 = .ok (.getfield 55, 3) := by decide +kernel
theorem d_Model_at_30 : decode prog_11_method_37_code 30 = .ok (.sipush 1000, 3) := by decide +kernel
theorem d_Model_at_33 : decode prog_11_method_37_code 33 = .ok (.iload_n 1, 1) := by decide +kernel
theorem d_Model_at_34 : decode prog_11_method_37_code 34 = .ok (.imul, 1) := by decide +kernel
theorem d_Model_at_35 : decode prog_11_method_37_code 35 = .ok (.iload_n 2, 1) := by decide +kernel
theorem d_Model_at_36 : decode prog_11_method_37_code 36 = .ok (.iadd, 1) := by decide +kernel
theorem d_Model_at_37 : decode prog_11_method_37_code 37 = .ok (.iaload, 1) := by decide +kernel
theorem d_Model_at_38 : decode prog_11_method_37_code 38 = .ok (.iload_n 3, 1) := by decide +kernel
theorem d_Model_at_39 : decode prog_11_method_37_code 39 = .ok (.iadd, 1) := by decide +kernel
theorem d_Model_at_40 : decode prog_11_method_37_code 40 = .ok (.iaload, 1) := by decide +kernel
theorem d_Model_at_41 : decode prog_11_method_37_code 41 = .ok (.ireturn, 1) := by decide +kernel
theorem d_Model_field_0 : decode prog_11_method_16_code 0 = .ok (.aload_n 0, 1) := by decide +kernel
theorem d_Model_field_1 : decode prog_11_method_16_code 1 = .ok (.iconst 0, 1) := by decide +kernel
theorem d_Model_field_2 : decode prog_11_method_16_code 2 = .ok (.putfield 99, 3) := by decide +kernel
theorem d_Model_field_5 : decode prog_11_method_16_code 5 = .ok (.aload_n 0, 1) := by decide +kernel
theorem d_Model_field_6 : decode prog_11_method_16_code 6 = .ok (.iload_n 1, 1) := by decide +kernel
theorem d_Model_field_7 : decode prog_11_method_16_code 7 = .ok (.invokevirtual 137, 3) := by decide +kernel
theorem d_Model_field_10 : decode prog_11_method_16_code 10 = .ok (.ifCond .eq 12, 3) := by decide +kernel
theorem d_Model_field_13 : decode prog_11_method_16_code 13 = .ok (.iload_n 2, 1) := by decide +kernel
theorem d_Model_field_14 : decode prog_11_method_16_code 14 = .ok (.ifCond .lt 8, 3) := by decide +kernel
theorem d_Model_field_17 : decode prog_11_method_16_code 17 = .ok (.iload_n 2, 1) := by decide +kernel
theorem d_Model_field_18 : decode prog_11_method_16_code 18 = .ok (.iconst 1, 1) := by decide +kernel
theorem d_Model_field_19 : decode prog_11_method_16_code 19 = .ok (.if_icmp .le 5, 3) := by decide +kernel
theorem d_Model_field_22 : decode prog_11_method_16_code 22 = .ok (.iconst (-1), 1) := by decide +kernel
theorem d_Model_field_23 : decode prog_11_method_16_code 23 = .ok (.ireturn, 1) := by decide +kernel
theorem d_Model_field_24 : decode prog_11_method_16_code 24 = .ok (.iload_n 2, 1) := by decide +kernel
theorem d_Model_field_25 : decode prog_11_method_16_code 25 = .ok (.ifCond .ne 12, 3) := by decide +kernel
theorem d_Model_field_28 : decode prog_11_method_16_code 28 = .ok (.aload_n 0, 1) := by decide +kernel
theorem d_Model_field_29 : decode prog_11_method_16_code 29 = .ok (.getfield 19, 3) := by decide +kernel
theorem d_Model_field_32 : decode prog_11_method_16_code 32 = .ok (.iload_n 1, 1) := by decide +kernel
theorem d_Model_field_33 : decode prog_11_method_16_code 33 = .ok (.iaload, 1) := by decide +kernel
theorem d_Model_field_34 : decode prog_11_method_16_code 34 = .ok (.goto 9, 3) := by decide +kernel
theorem d_Model_field_37 : decode prog_11_method_16_code 37 = .ok (.aload_n 0, 1) := by decide +kernel
theorem d_Model_field_38 : decode prog_11_method_16_code 38 = .ok (.getfield 25, 3) := by decide +kernel
theorem d_Model_field_41 : decode prog_11_method_16_code 41 = .ok (.iload_n 1, 1) := by decide +kernel
theorem d_Model_field_42 : decode prog_11_method_16_code 42 = .ok (.iaload, 1) := by decide +kernel
theorem d_Model_field_43 : decode prog_11_method_16_code 43 = .ok (.ireturn, 1) := by decide +kernel
theorem d_Model_fieldByte_0 : decode prog_11_method_17_code 0 = .ok (.aload_n 0, 1) := by decide +kernel
theorem d_Model_fieldByte_1 : decode prog_11_method_17_code 1 = .ok (.iload_n 1, 1) := by decide +kernel
theorem d_Model_fieldByte_2 : decode prog_11_method_17_code 2 = .ok (.iload_n 2, 1) := by decide +kernel
theorem d_Model_fieldByte_3 : decode prog_11_method_17_code 3 = .ok (.invokevirtual 140, 3) := by decide +kernel
theorem d_Model_fieldByte_6 : decode prog_11_method_17_code 6 = .ok (.istore 4, 2) := by decide +kernel
theorem d_Model_fieldByte_8 : decode prog_11_method_17_code 8 = .ok (.iload_n 3, 1) := by decide +kernel
theorem d_Model_fieldByte_9 : decode prog_11_method_17_code 9 = .ok (.ifCond .lt 9, 3) := by decide +kernel
theorem d_Model_fieldByte_12 : decode prog_11_method_17_code 12 = .ok (.iload_n 3, 1) := by decide +kernel
theorem d_Model_fieldByte_13 : decode prog_11_method_17_code 13 = .ok (.iload 4, 2) := by decide +kernel
theorem d_Model_fieldByte_15 : decode prog_11_method_17_code 15 = .ok (.if_icmp .lt 5, 3) := by decide +kernel
theorem d_Model_fieldByte_18 : decode prog_11_method_17_code 18 = .ok (.iconst (-1), 1) := by decide +kernel
theorem d_Model_fieldByte_19 : decode prog_11_method_17_code 19 = .ok (.ireturn, 1) := by decide +kernel
theorem d_Model_fieldByte_20 : decode prog_11_method_17_code 20 = .ok (.aload_n 0, 1) := by decide +kernel
theorem d_Model_fieldByte_21 : decode prog_11_method_17_code 21 = .ok (.getfield 28, 3) := by decide +kernel
theorem d_Model_fieldByte_24 : decode prog_11_method_17_code 24 = .ok (.iload_n 2, 1) := by decide +kernel
theorem d_Model_fieldByte_25 : decode prog_11_method_17_code 25 = .ok (.ifCond .ne 12, 3) := by decide +kernel
theorem d_Model_fieldByte_28 : decode prog_11_method_17_code 28 = .ok (.aload_n 0, 1) := by decide +kernel
theorem d_Model_fieldByte_29 : decode prog_11_method_17_code 29 = .ok (.getfield 16, 3) := by decide +kernel
theorem d_Model_fieldByte_32 : decode prog_11_method_17_code 32 = .ok (.iload_n 1, 1) := by decide +kernel
theorem d_Model_fieldByte_33 : decode prog_11_method_17_code 33 = .ok (.iaload, 1) := by decide +kernel
theorem d_Model_fieldByte_34 : decode prog_11_method_17_code 34 = .ok (.goto 9, 3) := by decide +kernel
theorem d_Model_fieldByte_37 : decode prog_11_method_17_code 37 = .ok (.aload_n 0, 1) := by decide +kernel
theorem d_Model_fieldByte_38 : decode prog_11_method_17_code 38 = .ok (.getfield 22, 3) := by decide +kernel
theorem d_Model_fieldByte_41 : decode prog_11_method_17_code 41 = .ok (.iload_n 1, 1) := by decide +kernel
theorem d_Model_fieldByte_42 : decode prog_11_method_17_code 42 = .ok (.iaload, 1) := by decide +kernel
theorem d_Model_fieldByte_43 : decode prog_11_method_17_code 43 = .ok (.iload_n 3, 1) := by decide +kernel
theorem d_Model_fieldByte_44 : decode prog_11_method_17_code 44 = .ok (.iadd, 1) := by decide +kernel
theorem d_Model_fieldByte_45 : decode prog_11_method_17_code 45 = .ok (.iaload, 1) := by decide +kernel
theorem d_Model_fieldByte_46 : decode prog_11_method_17_code 46 = .ok (.ireturn, 1) := by decide +kernel
theorem d_Model_init_0 : decode prog_11_method_1_code 0 = .ok (.aload_n 0, 1) := by decide +kernel
theorem d_Model_init_1 : decode prog_11_method_1_code 1 = .ok (.invokespecial 1, 3) := by decide +kernel
theorem d_Model_init_4 : decode prog_11_method_1_code 4 = .ok (.aload_n 0, 1) := by decide +kernel
theorem d_Model_init_5 : decode prog_11_method_1_code 5 = .ok (.bipush 20, 2) := by decide +kernel
theorem d_Model_init_7 : decode prog_11_method_1_code 7 = .ok (.newarray .int, 2) := by decide +kernel
theorem d_Model_init_9 : decode prog_11_method_1_code 9 = .ok (.putfield 7, 3) := by decide +kernel
theorem d_Model_init_12 : decode prog_11_method_1_code 12 = .ok (.aload_n 0, 1) := by decide +kernel
theorem d_Model_init_13 : decode prog_11_method_1_code 13 = .ok (.sipush 1500, 3) := by decide +kernel
theorem d_Model_init_16 : decode prog_11_method_1_code 16 = .ok (.newarray .int, 2) := by decide +kernel
theorem d_Model_init_18 : decode prog_11_method_1_code 18 = .ok (.putfield 13, 3) := by decide +kernel
theorem d_Model_init_21 : decode prog_11_method_1_code 21 = .ok (.aload_n 0, 1) := by decide +kernel
theorem d_Model_init_22 : decode prog_11_method_1_code 22 = .ok (.bipush 40, 2) := by decide +kernel
theorem d_Model_init_24 : decode prog_11_method_1_code 24 = .ok (.newarray .int, 2) := by decide +kernel
theorem d_Model_init_26 : decode prog_11_method_1_code 26 = .ok (.putfield 16, 3) := by decide +kernel
theorem d_Model_init_29 : decode prog_11_method_1_code 29 = .ok (.aload_n 0, 1) := by decide +kernel
theorem d_Model_init_30 : decode prog_11_method_1_code 30 = .ok (.bipush 40, 2) := by decide +kernel
theorem d_Model_init_32 : decode prog_11_method_1_code 32 = .ok (.newarray .int, 2) := by decide +kernel
theorem d_Model_init_34 : decode prog_11_method_1_code 34 = .ok (.putfield 19, 3) := by decide +kernel
theorem d_Model_init_37 : decode prog_11_method_1_code 37 = .ok (.aload_n 0, 1) := by decide +kernel
theorem d_Model_init_38 : decode prog_11_method_1_code 38 = .ok (.bipush 40, 2) := by decide +kernel
theorem d_Model_init_40 : decode prog_11_method_1_code 40 = .ok (.newarray .int, 2) := by decide +kernel
theorem d_Model_init_42 : decode prog_11_method_1_code 42 = .ok (.putfield 22, 3) := by decide +kernel
theorem d_Model_init_45 : decode prog_11_method_1_code 45 = .ok (.aload_n 0, 1) := by decide +kernel
theorem d_Model_init_46 : decode prog_11_method_1_code 46 = .ok (.bipush 40, 2) := by decide +kernel
theorem d_Model_init_48 : decode prog_11_method_1_code 48 = .ok (.newarray .int, 2) := by decide +kernel
theorem d_Model_init_50 : decode prog_11_method_1_code 50 = .ok (.putfield 25, 3) := by decide +kernel
theorem d_Model_init_53 : decode prog_11_method_1_code 53 = .ok (.aload_n 0, 1) := by decide +kernel
theorem d_Model_init_54 : decode prog_11_method_1_code 54 = .ok (.sipush 1600, 3) := by decide +kernel
theorem d_Model_init_57 : decode prog_11_method_1_code 57 = .ok (.newarray .int, 2) := by decide +kernel
theorem d_Model_init_59 : decode prog_11_method_1_code 59 = .ok (.putfield 28, 3) := by decide +kernel
theorem d_Model_init_62 : decode prog_11_method_1_code 62 = .ok (.aload_n 0, 1) := by decide +kernel
theorem d_Model_init_63 : decode prog_11_method_1_code 63 = .ok (.sipush 1501, 3) := by decide +kernel
theorem d_Model_init_66 : decode prog_11_method_1_code 66 = .ok (.newarray .int, 2) := by decide +kernel
theorem d_Model_init_68 : decode prog_11_method_1_code 68 = .ok (.putfield 31, 3) := by decide +kernel
theorem d_Model_init_71 : decode prog_11_method_1_code 71 = .ok (.aload_n 0, 1) := by decide +kernel
theorem d_Model_init_72 : decode prog_11_method_1_code 72 = .ok (.sipush 1501, 3) := by decide +kernel
theorem d_Model_init_75 : decode prog_11_method_1_code 75 = .ok (.newarray .int, 2) := by decide +kernel
theorem d_Model_init_77 : decode prog_11_method_1_code 77 = .ok (.putfield 34, 3) := by decide +kernel
theorem d_Model_init_80 : decode prog_11_method_1_code 80 = .ok (.aload_n 0, 1) := by decide +kernel
theorem d_Model_init_81 : decode prog_11_method_1_code 81 = .ok (.sipush 1501, 3) := by decide +kernel
theorem d_Model_init_84 : decode prog_11_method_1_code 84 = .ok (.newarray .int, 2) := by decide +kernel
theorem d_Model_init_86 : decode prog_11_method_1_code 86 = .ok (.putfield 37, 3) := by decide +kernel
theorem d_Model_init_89 : decode prog_11_method_1_code 89 = .ok (.aload_n 0, 1) := by decide +kernel
theorem d_Model_init_90 : decode prog_11_method_1_code 90 = .ok (.sipush 1501, 3) := by decide +kernel
theorem d_Model_init_93 : decode prog_11_method_1_code 93 = .ok (.newarray .int, 2) := by decide +kernel
theorem d_Model_init_95 : decode prog_11_method_1_code 95 = .ok (.putfield 40, 3) := by decide +kernel
theorem d_Model_init_98 : decode prog_11_method_1_code 98 = .ok (.aload_n 0, 1) := by decide +kernel
theorem d_Model_init_99 : decode prog_11_method_1_code 99 = .ok (.sipush 1600, 3) := by decide +kernel
theorem d_Model_init_102 : decode prog_11_method_1_code 102 = .ok (.newarray .int, 2) := by decide +kernel
theorem d_Model_init_104 : decode prog_11_method_1_code 104 = .ok (.putfield 43, 3) := by decide +kernel
theorem d_Model_init_107 : decode prog_11_method_1_code 107 = .ok (.aload_n 0, 1) := by decide +kernel
theorem d_Model_init_108 : decode prog_11_method_1_code 108 = .ok (.sipush 20000, 3) := by decide +kernel
theorem d_Model_init_111 : decode prog_11_method_1_code 111 = .ok (.newarray .int, 2) := by decide +kernel
theorem d_Model_init_113 : decode prog_11_method_1_code 113 = .ok (.putfield 46, 3) := by decide +kernel
theorem d_Model_init_116 : decode prog_11_method_1_code 116 = .ok (.aload_n 0, 1) := by decide +kernel
theorem d_Model_init_117 : decode prog_11_method_1_code 117 = .ok (.iconst 3, 1) := by decide +kernel
theorem d_Model_init_118 : decode prog_11_method_1_code 118 = .ok (.newarray .int, 2) := by decide +kernel
theorem d_Model_init_120 : decode prog_11_method_1_code 120 = .ok (.putfield 49, 3) := by decide +kernel
theorem d_Model_init_123 : decode prog_11_method_1_code 123 = .ok (.aload_n 0, 1) := by decide +kernel
theorem d_Model_init_124 : decode prog_11_method_1_code 124 = .ok (.bipush 7, 2) := by decide +kernel
theorem d_Model_init_126 : decode prog_11_method_1_code 126 = .ok (.newarray .int, 2) := by decide +kernel
theorem d_Model_init_128 : decode prog_11_method_1_code 128 = .ok (.putfield 52, 3) := by decide +kernel
theorem d_Model_init_131 : decode prog_11_method_1_code 131 = .ok (.aload_n 0, 1) := by decide +kernel
theorem d_Model_init_132 : decode prog_11_method_1_code 132 = .ok (.sipush 7000, 3) := by decide +kernel
theorem d_Model_init_135 : decode prog_11_method_1_code 135 = .ok (.newarray .int, 2) := by decide +kernel
theorem d_Model_init_137 : decode prog_11_method_1_code 137 = .ok (.putfield 55, 3) := by decide +kernel
theorem d_Model_init_140 : decode prog_11_method_1_code 140 = .ok (.aload_n 0, 1) := by decide +kernel
theorem d_Model_init_141 : decode prog_11_method_1_code 141 = .ok (.sipush 7000, 3) := by decide +kernel
theorem d_Model_init_144 : decode prog_11_method_1_code 144 = .ok (.newarray .int, 2) := by decide +kernel
theorem d_Model_init_146 : decode prog_11_method_1_code 146 = .ok (.putfield 58, 3) := by decide +kernel
theorem d_Model_init_149 : decode prog_11_method_1_code 149 = .ok (.aload_n 0, 1) := by decide +kernel
theorem d_Model_init_150 : decode prog_11_method_1_code 150 = .ok (.sipush 1000, 3) := by decide +kernel
theorem d_Model_init_153 : decode prog_11_method_1_code 153 = .ok (.newarray .int, 2) := by decide +kernel
theorem d_Model_init_155 : decode prog_11_method_1_code 155 = .ok (.putfield 61, 3) := by decide +kernel
theorem d_Model_init_158 : decode prog_11_method_1_code 158 = .ok (.aload_n 0, 1) := by decide +kernel
theorem d_Model_init_159 : decode prog_11_method_1_code 159 = .ok (.sipush 800, 3) := by decide +kernel
theorem d_Model_init_162 : decode prog_11_method_1_code 162 = .ok (.newarray .int, 2) := by decide +kernel
theorem d_Model_init_164 : decode prog_11_method_1_code 164 = .ok (.putfield 64, 3) := by decide +kernel
theorem d_Model_init_167 : decode prog_11_method_1_code 167 = .ok (.aload_n 0, 1) := by decide +kernel
theorem d_Model_init_168 : decode prog_11_method_1_code 168 = .ok (.sipush 800, 3) := by decide +kernel
theorem d_Model_init_171 : decode prog_11_method_1_code 171 = .ok (.newarray .int, 2) := by decide +kernel
theorem d_Model_init_173 : decode prog_11_method_1_code 173 = .ok (.putfield 67, 3) := by decide +kernel
theorem d_Model_init_176 : decode prog_11_method_1_code 176 = .ok (.aload_n 0, 1) := by decide +kernel
theorem d_Model_init_177 : decode prog_11_method_1_code 177 = .ok (.sipush 800, 3) := by decide +kernel
theorem d_Model_init_180 : decode prog_11_method_1_code 180 = .ok (.newarray .int, 2) := by decide +kernel
theorem d_Model_init_182 : decode prog_11_method_1_code 182 = .ok (.putfield 70, 3) := by decide +kernel
theorem d_Model_init_185 : decode prog_11_method_1_code 185 = .ok (.aload_n 0, 1) := by decide +kernel
theorem d_Model_init_186 : decode prog_11_method_1_code 186 = .ok (.sipush 800, 3) := by decide +kernel
theorem d_Model_init_189 : decode prog_11_method_1_code 189 = .ok (.newarray .boolean, 2) := by decide +kernel
theorem d_Model_init_191 : decode prog_11_method_1_code 191 = .ok (.putfield 73, 3) := by decide +kernel
theorem d_Model_init_194 : decode prog_11_method_1_code 194 = .ok (.aload_n 0, 1) := by decide +kernel
theorem d_Model_init_195 : decode prog_11_method_1_code 195 = .ok (.sipush 800, 3) := by decide +kernel
theorem d_Model_init_198 : decode prog_11_method_1_code 198 = .ok (.newarray .int, 2) := by decide +kernel
theorem d_Model_init_200 : decode prog_11_method_1_code 200 = .ok (.putfield 77, 3) := by decide +kernel
theorem d_Model_init_203 : decode prog_11_method_1_code 203 = .ok (.aload_n 0, 1) := by decide +kernel
theorem d_Model_init_204 : decode prog_11_method_1_code 204 = .ok (.sipush 800, 3) := by decide +kernel
theorem d_Model_init_207 : decode prog_11_method_1_code 207 = .ok (.newarray .int, 2) := by decide +kernel
theorem d_Model_init_209 : decode prog_11_method_1_code 209 = .ok (.putfield 80, 3) := by decide +kernel
theorem d_Model_init_212 : decode prog_11_method_1_code 212 = .ok (.aload_n 0, 1) := by decide +kernel
theorem d_Model_init_213 : decode prog_11_method_1_code 213 = .ok (.sipush 1600, 3) := by decide +kernel
theorem d_Model_init_216 : decode prog_11_method_1_code 216 = .ok (.newarray .int, 2) := by decide +kernel
theorem d_Model_init_218 : decode prog_11_method_1_code 218 = .ok (.putfield 83, 3) := by decide +kernel
theorem d_Model_init_221 : decode prog_11_method_1_code 221 = .ok (.aload_n 0, 1) := by decide +kernel
theorem d_Model_init_222 : decode prog_11_method_1_code 222 = .ok (.sipush 1600, 3) := by decide +kernel
theorem d_Model_init_225 : decode prog_11_method_1_code 225 = .ok (.newarray .int, 2) := by decide +kernel
theorem d_Model_init_227 : decode prog_11_method_1_code 227 = .ok (.putfield 86, 3) := by decide +kernel
theorem d_Model_init_230 : decode prog_11_method_1_code 230 = .ok (.aload_n 0, 1) := by decide +kernel
theorem d_Model_init_231 : decode prog_11_method_1_code 231 = .ok (.sipush 1600, 3) := by decide +kernel
theorem d_Model_init_234 : decode prog_11_method_1_code 234 = .ok (.newarray .int, 2) := by decide +kernel
theorem d_Model_init_236 : decode prog_11_method_1_code 236 = .ok (.putfield 89, 3) := by decide +kernel
theorem d_Model_init_239 : decode prog_11_method_1_code 239 = .ok (.aload_n 0, 1) := by decide +kernel
theorem d_Model_init_240 : decode prog_11_method_1_code 240 = .ok (.iconst (-1), 1) := by decide +kernel
theorem d_Model_init_241 : decode prog_11_method_1_code 241 = .ok (.putfield 92, 3) := by decide +kernel
theorem d_Model_init_244 : decode prog_11_method_1_code 244 = .ok (.aload_n 0, 1) := by decide +kernel
theorem d_Model_init_245 : decode prog_11_method_1_code 245 = .ok (.iconst (-1), 1) := by decide +kernel
theorem d_Model_init_246 : decode prog_11_method_1_code 246 = .ok (.putfield 96, 3) := by decide +kernel
theorem d_Model_init_249 : decode prog_11_method_1_code 249 = .ok (.return_, 1) := by decide +kernel
theorem d_Model_end_0 : decode prog_11_method_5_code 0 = .ok (.aload_n 0, 1) := by decide +kernel
theorem d_Model_end_1 : decode prog_11_method_5_code 1 = .ok (.iconst 0, 1) := by decide +kernel
theorem d_Model_end_2 : decode prog_11_method_5_code 2 = .ok (.putfield 99, 3) := by decide +kernel
theorem d_Model_end_5 : decode prog_11_method_5_code 5 = .ok (.iload_n 1, 1) := by decide +kernel
theorem d_Model_end_6 : decode prog_11_method_5_code 6 = .ok (.ifCond .lt 21, 3) := by decide +kernel
theorem d_Model_end_9 : decode prog_11_method_5_code 9 = .ok (.iload_n 1, 1) := by decide +kernel
theorem d_Model_end_10 : decode prog_11_method_5_code 10 = .ok (.bipush 20, 2) := by decide +kernel
theorem d_Model_end_12 : decode prog_11_method_5_code 12 = .ok (.if_icmp .gt 15, 3) := by decide +kernel
theorem d_Model_end_15 : decode prog_11_method_5_code 15 = .ok (.aload_n 0, 1) := by decide +kernel
theorem d_Model_end_16 : decode prog_11_method_5_code 16 = .ok (.getfield 106, 3) := by decide +kernel
theorem d_Model_end_19 : decode prog_11_method_5_code 19 = .ok (.iload_n 1, 1) := by decide +kernel
theorem d_Model_end_20 : decode prog_11_method_5_code 20 = .ok (.iadd, 1) := by decide +kernel
theorem d_Model_end_21 : decode prog_11_method_5_code 21 = .ok (.sipush 1500, 3) := by decide +kernel
theorem d_Model_end_24 : decode prog_11_method_5_code 24 = .ok (.if_icmp .le 5, 3) := by decide +kernel
theorem d_Model_end_27 : decode prog_11_method_5_code 27 = .ok (.iconst (-1), 1) := by decide +kernel
theorem d_Model_end_28 : decode prog_11_method_5_code 28 = .ok (.ireturn, 1) := by decide +kernel
theorem d_Model_end_29 : decode prog_11_method_5_code 29 = .ok (.iconst 0, 1) := by decide +kernel
theorem d_Model_end_30 : decode prog_11_method_5_code 30 = .ok (.istore_n 2, 1) := by decide +kernel
theorem d_Model_end_31 : decode prog_11_method_5_code 31 = .ok (.iload_n 2, 1) := by decide +kernel
theorem d_Model_end_32 : decode prog_11_method_5_code 32 = .ok (.iload_n 1, 1) := by decide +kernel
theorem d_Model_end_33 : decode prog_11_method_5_code 33 = .ok (.if_icmp .ge 26, 3) := by decide +kernel
theorem d_Model_end_36 : decode prog_11_method_5_code 36 = .ok (.aload_n 0, 1) := by decide +kernel
theorem d_Model_end_37 : decode prog_11_method_5_code 37 = .ok (.getfield 13, 3) := by decide +kernel
theorem d_Model_end_40 : decode prog_11_method_5_code 40 = .ok (.aload_n 0, 1) := by decide +kernel
theorem d_Model_end_41 : decode prog_11_method_5_code 41 = .ok (.getfield 106, 3) := by decide +kernel
theorem d_Model_end_44 : decode prog_11_method_5_code 44 = .ok (.iload_n 2, 1) := by decide +kernel
theorem d_Model_end_45 : decode prog_11_method_5_code 45 = .ok (.iadd, 1) := by decide +kernel
theorem d_Model_end_46 : decode prog_11_method_5_code 46 = .ok (.aload_n 0, 1) := by decide +kernel
theorem d_Model_end_47 : decode prog_11_method_5_code 47 = .ok (.getfield 7, 3) := by decide +kernel
theorem d_Model_end_50 : decode prog_11_method_5_code 50 = .ok (.iload_n 2, 1) := by decide +kernel
theorem d_Model_end_51 : decode prog_11_method_5_code 51 = .ok (.iaload, 1) := by decide +kernel
theorem d_Model_end_52 : decode prog_11_method_5_code 52 = .ok (.iastore, 1) := by decide +kernel
end
section
theorem d_Model_end_53 : decode prog_11_method_5_code 53 = .ok (.iinc 2 1, 3) := by decide +kernel
theorem d_Model_end_56 : decode prog_11_method_5_code 56 = .ok (.goto (-25), 3) := by decide +kernel
theorem d_Model_end_59 : decode prog_11_method_5_code 59 = .ok (.aload_n 0, 1) := by decide +kernel
theorem d_Model_end_60 : decode prog_11_method_5_code 60 = .ok (.dup, 1) := by decide +kernel
theorem d_Model_end_61 : decode prog_11_method_5_code 61 = .ok (.getfield 106, 3) := by decide +kernel
theorem d_Model_end_64 : decode prog_11_method_5_code 64 = .ok (.iload_n 1, 1) := by decide +kernel
theorem d_Model_end_65 : decode prog_11_method_5_code 65 = .ok (.iadd, 1) := by decide +kernel
theorem d_Model_end_66 : decode prog_11_method_5_code 66 = .ok (.putfield 106, 3) := by decide +kernel
theorem d_Model_end_69 : decode prog_11_method_5_code 69 = .ok (.iconst 0, 1) := by decide +kernel
theorem d_Model_end_70 : decode prog_11_method_5_code 70 = .ok (.istore_n 2, 1) := by decide +kernel
theorem d_Model_end_71 : decode prog_11_method_5_code 71 = .ok (.iload_n 2, 1) := by decide +kernel
theorem d_Model_end_72 : decode prog_11_method_5_code 72 = .ok (.bipush 20, 2) := by decide +kernel
theorem d_Model_end_74 : decode prog_11_method_5_code 74 = .ok (.if_icmp .ge 16, 3) := by decide +kernel
theorem d_Model_end_77 : decode prog_11_method_5_code 77 = .ok (.aload_n 0, 1) := by decide +kernel
theorem d_Model_end_78 : decode prog_11_method_5_code 78 = .ok (.getfield 7, 3) := by decide +kernel
theorem d_Model_end_81 : decode prog_11_method_5_code 81 = .ok (.iload_n 2, 1) := by decide +kernel
theorem d_Model_end_82 : decode prog_11_method_5_code 82 = .ok (.iconst 0, 1) := by decide +kernel
theorem d_Model_end_83 : decode prog_11_method_5_code 83 = .ok (.iastore, 1) := by decide +kernel
theorem d_Model_end_84 : decode prog_11_method_5_code 84 = .ok (.iinc 2 1, 3) := by decide +kernel
theorem d_Model_end_87 : decode prog_11_method_5_code 87 = .ok (.goto (-16), 3) := by decide +kernel
theorem d_Model_end_90 : decode prog_11_method_5_code 90 = .ok (.aload_n 0, 1) := by decide +kernel
theorem d_Model_end_91 : decode prog_11_method_5_code 91 = .ok (.getfield 106, 3) := by decide +kernel
theorem d_Model_end_94 : decode prog_11_method_5_code 94 = .ok (.ireturn, 1) := by decide +kernel
theorem d_Model_find_0 : decode prog_11_method_14_code 0 = .ok (.aload_n 0, 1) := by decide +kernel
theorem d_Model_find_1 : decode prog_11_method_14_code 1 = .ok (.iconst 0, 1) := by decide +kernel
theorem d_Model_find_2 : decode prog_11_method_14_code 2 = .ok (.putfield 99, 3) := by decide +kernel
theorem d_Model_find_5 : decode prog_11_method_14_code 5 = .ok (.aload_n 0, 1) := by decide +kernel
theorem d_Model_find_6 : decode prog_11_method_14_code 6 = .ok (.getfield 106, 3) := by decide +kernel
theorem d_Model_find_9 : decode prog_11_method_14_code 9 = .ok (.istore_n 1, 1) := by decide +kernel
theorem d_Model_find_10 : decode prog_11_method_14_code 10 = .ok (.aload_n 0, 1) := by decide +kernel
theorem d_Model_find_11 : decode prog_11_method_14_code 11 = .ok (.iconst 0, 1) := by decide +kernel
theorem d_Model_find_12 : decode prog_11_method_14_code 12 = .ok (.putfield 106, 3) := by decide +kernel
theorem d_Model_find_15 : decode prog_11_method_14_code 15 = .ok (.iconst 0, 1) := by decide +kernel
theorem d_Model_find_16 : decode prog_11_method_14_code 16 = .ok (.istore_n 2, 1) := by decide +kernel
theorem d_Model_find_17 : decode prog_11_method_14_code 17 = .ok (.iload_n 2, 1) := by decide +kernel
theorem d_Model_find_18 : decode prog_11_method_14_code 18 = .ok (.aload_n 0, 1) := by decide +kernel
theorem d_Model_find_19 : decode prog_11_method_14_code 19 = .ok (.getfield 116, 3) := by decide +kernel
theorem d_Model_find_22 : decode prog_11_method_14_code 22 = .ok (.if_icmp .ge 86, 3) := by decide +kernel
theorem d_Model_find_25 : decode prog_11_method_14_code 25 = .ok (.aload_n 0, 1) := by decide +kernel
theorem d_Model_find_26 : decode prog_11_method_14_code 26 = .ok (.getfield 19, 3) := by decide +kernel
theorem d_Model_find_29 : decode prog_11_method_14_code 29 = .ok (.iload_n 2, 1) := by decide +kernel
theorem d_Model_find_30 : decode prog_11_method_14_code 30 = .ok (.iaload, 1) := by decide +kernel
theorem d_Model_find_31 : decode prog_11_method_14_code 31 = .ok (.iload_n 1, 1) := by decide +kernel
theorem d_Model_find_32 : decode prog_11_method_14_code 32 = .ok (.if_icmp .ne 7, 3) := by decide +kernel
theorem d_Model_find_35 : decode prog_11_method_14_code 35 = .ok (.iconst 1, 1) := by decide +kernel
theorem d_Model_find_36 : decode prog_11_method_14_code 36 = .ok (.goto 4, 3) := by decide +kernel
theorem d_Model_find_39 : decode prog_11_method_14_code 39 = .ok (.iconst 0, 1) := by decide +kernel
theorem d_Model_find_40 : decode prog_11_method_14_code 40 = .ok (.istore_n 3, 1) := by decide +kernel
theorem d_Model_find_41 : decode prog_11_method_14_code 41 = .ok (.iconst 0, 1) := by decide +kernel
theorem d_Model_find_42 : decode prog_11_method_14_code 42 = .ok (.istore 4, 2) := by decide +kernel
theorem d_Model_find_44 : decode prog_11_method_14_code 44 = .ok (.iload 4, 2) := by decide +kernel
theorem d_Model_find_46 : decode prog_11_method_14_code 46 = .ok (.iload_n 1, 1) := by decide +kernel
theorem d_Model_find_47 : decode prog_11_method_14_code 47 = .ok (.if_icmp .ge 49, 3) := by decide +kernel
theorem d_Model_find_50 : decode prog_11_method_14_code 50 = .ok (.iload_n 3, 1) := by decide +kernel
theorem d_Model_find_51 : decode prog_11_method_14_code 51 = .ok (.ifCond .eq 45, 3) := by decide +kernel
theorem d_Model_find_54 : decode prog_11_method_14_code 54 = .ok (.aload_n 0, 1) := by decide +kernel
theorem d_Model_find_55 : decode prog_11_method_14_code 55 = .ok (.getfield 28, 3) := by decide +kernel
theorem d_Model_find_58 : decode prog_11_method_14_code 58 = .ok (.aload_n 0, 1) := by decide +kernel
theorem d_Model_find_59 : decode prog_11_method_14_code 59 = .ok (.getfield 16, 3) := by decide +kernel
theorem d_Model_find_62 : decode prog_11_method_14_code 62 = .ok (.iload_n 2, 1) := by decide +kernel
theorem d_Model_find_63 : decode prog_11_method_14_code 63 = .ok (.iaload, 1) := by decide +kernel
theorem d_Model_find_64 : decode prog_11_method_14_code 64 = .ok (.iload 4, 2) := by decide +kernel
theorem d_Model_find_66 : decode prog_11_method_14_code 66 = .ok (.iadd, 1) := by decide +kernel
theorem d_Model_find_67 : decode prog_11_method_14_code 67 = .ok (.iaload, 1) := by decide +kernel
theorem d_Model_find_68 : decode prog_11_method_14_code 68 = .ok (.invokestatic 133, 3) := by decide +kernel
theorem d_Model_find_71 : decode prog_11_method_14_code 71 = .ok (.aload_n 0, 1) := by decide +kernel
theorem d_Model_find_72 : decode prog_11_method_14_code 72 = .ok (.getfield 13, 3) := by decide +kernel
theorem d_Model_find_75 : decode prog_11_method_14_code 75 = .ok (.iload 4, 2) := by decide +kernel
theorem d_Model_find_77 : decode prog_11_method_14_code 77 = .ok (.iaload, 1) := by decide +kernel
theorem d_Model_find_78 : decode prog_11_method_14_code 78 = .ok (.invokestatic 133, 3) := by decide +kernel
theorem d_Model_find_81 : decode prog_11_method_14_code 81 = .ok (.if_icmp .ne 7, 3) := by decide +kernel
theorem d_Model_find_84 : decode prog_11_method_14_code 84 = .ok (.iconst 1, 1) := by decide +kernel
theorem d_Model_find_85 : decode prog_11_method_14_code 85 = .ok (.goto 4, 3) := by decide +kernel
theorem d_Model_find_88 : decode prog_11_method_14_code 88 = .ok (.iconst 0, 1) := by decide +kernel
theorem d_Model_find_89 : decode prog_11_method_14_code 89 = .ok (.istore_n 3, 1) := by decide +kernel
theorem d_Model_find_90 : decode prog_11_method_14_code 90 = .ok (.iinc 4 1, 3) := by decide +kernel
theorem d_Model_find_93 : decode prog_11_method_14_code 93 = .ok (.goto (-49), 3) := by decide +kernel
theorem d_Model_find_96 : decode prog_11_method_14_code 96 = .ok (.iload_n 3, 1) := by decide +kernel
theorem d_Model_find_97 : decode prog_11_method_14_code 97 = .ok (.ifCond .eq 5, 3) := by decide +kernel
theorem d_Model_find_100 : decode prog_11_method_14_code 100 = .ok (.iload_n 2, 1) := by decide +kernel
theorem d_Model_find_101 : decode prog_11_method_14_code 101 = .ok (.ireturn, 1) := by decide +kernel
theorem d_Model_find_102 : decode prog_11_method_14_code 102 = .ok (.iinc 2 1, 3) := by decide +kernel
theorem d_Model_find_105 : decode prog_11_method_14_code 105 = .ok (.goto (-88), 3) := by decide +kernel
theorem d_Model_find_108 : decode prog_11_method_14_code 108 = .ok (.iconst (-1), 1) := by decide +kernel
theorem d_Model_find_109 : decode prog_11_method_14_code 109 = .ok (.ireturn, 1) := by decide +kernel
theorem d_Model_isName_0 : decode prog_11_method_38_code 0 = .ok (.iconst 0, 1) := by decide +kernel
theorem d_Model_isName_1 : decode prog_11_method_38_code 1 = .ok (.istore_n 3, 1) := by decide +kernel
theorem d_Model_isName_2 : decode prog_11_method_38_code 2 = .ok (.aload_n 0, 1) := by decide +kernel
theorem d_Model_isName_3 : decode prog_11_method_38_code 3 = .ok (.iload_n 1, 1) := by decide +kernel
theorem d_Model_isName_4 : decode prog_11_method_38_code 4 = .ok (.iload_n 2, 1) := by decide +kernel
theorem d_Model_isName_5 : decode prog_11_method_38_code 5 = .ok (.invokevirtual 197, 3) := by decide +kernel
theorem d_Model_isName_8 : decode prog_11_method_38_code 8 = .ok (.istore 4, 2) := by decide +kernel
theorem d_Model_isName_10 : decode prog_11_method_38_code 10 = .ok (.iload 4, 2) := by decide +kernel
theorem d_Model_isName_12 : decode prog_11_method_38_code 12 = .ok (.iload_n 2, 1) := by decide +kernel
theorem d_Model_isName_13 : decode prog_11_method_38_code 13 = .ok (.if_icmp .ge 55, 3) := by decide +kernel
theorem d_Model_isName_16 : decode prog_11_method_38_code 16 = .ok (.aload_n 0, 1) := by decide +kernel
theorem d_Model_isName_17 : decode prog_11_method_38_code 17 = .ok (.getfield 31, 3) := by decide +kernel
theorem d_Model_isName_20 : decode prog_11_method_38_code 20 = .ok (.iload 4, 2) := by decide +kernel
theorem d_Model_isName_22 : decode prog_11_method_38_code 22 = .ok (.iaload, 1) := by decide +kernel
theorem d_Model_isName_23 : decode prog_11_method_38_code 23 = .ok (.iconst 4, 1) := by decide +kernel
theorem d_Model_isName_24 : decode prog_11_method_38_code 24 = .ok (.if_icmp .eq 27, 3) := by decide +kernel
theorem d_Model_isName_27 : decode prog_11_method_38_code 27 = .ok (.aload_n 0, 1) := by decide +kernel
theorem d_Model_isName_28 : decode prog_11_method_38_code 28 = .ok (.getfield 31, 3) := by decide +kernel
theorem d_Model_isName_31 : decode prog_11_method_38_code 31 = .ok (.iload 4, 2) := by decide +kernel
theorem d_Model_isName_33 : decode prog_11_method_38_code 33 = .ok (.iaload, 1) := by decide +kernel
theorem d_Model_isName_34 : decode prog_11_method_38_code 34 = .ok (.iconst 1, 1) := by decide +kernel
theorem d_Model_isName_35 : decode prog_11_method_38_code 35 = .ok (.if_icmp .eq 16, 3) := by decide +kernel
theorem d_Model_isName_38 : decode prog_11_method_38_code 38 = .ok (.aload_n 0, 1) := by decide +kernel
theorem d_Model_isName_39 : decode prog_11_method_38_code 39 = .ok (.iload 4, 2) := by decide +kernel
theorem d_Model_isName_41 : decode prog_11_method_38_code 41 = .ok (.bipush 46, 2) := by decide +kernel
theorem d_Model_isName_43 : decode prog_11_method_38_code 43 = .ok (.invokevirtual 200, 3) := by decide +kernel
theorem d_Model_isName_46 : decode prog_11_method_38_code 46 = .ok (.ifCond .ne 5, 3) := by decide +kernel
theorem d_Model_isName_49 : decode prog_11_method_38_code 49 = .ok (.iconst 0, 1) := by decide +kernel
theorem d_Model_isName_50 : decode prog_11_method_38_code 50 = .ok (.ireturn, 1) := by decide +kernel
theorem d_Model_isName_51 : decode prog_11_method_38_code 51 = .ok (.iinc 3 1, 3) := by decide +kernel
theorem d_Model_isName_54 : decode prog_11_method_38_code 54 = .ok (.aload_n 0, 1) := by decide +kernel
theorem d_Model_isName_55 : decode prog_11_method_38_code 55 = .ok (.iload 4, 2) := by decide +kernel
theorem d_Model_isName_57 : decode prog_11_method_38_code 57 = .ok (.iconst 1, 1) := by decide +kernel
theorem d_Model_isName_58 : decode prog_11_method_38_code 58 = .ok (.iadd, 1) := by decide +kernel
theorem d_Model_isName_59 : decode prog_11_method_38_code 59 = .ok (.iload_n 2, 1) := by decide +kernel
theorem d_Model_isName_60 : decode prog_11_method_38_code 60 = .ok (.invokevirtual 197, 3) := by decide +kernel
theorem d_Model_isName_63 : decode prog_11_method_38_code 63 = .ok (.istore 4, 2) := by decide +kernel
theorem d_Model_isName_65 : decode prog_11_method_38_code 65 = .ok (.goto (-55), 3) := by decide +kernel
theorem d_Model_isName_68 : decode prog_11_method_38_code 68 = .ok (.iload_n 3, 1) := by decide +kernel
theorem d_Model_isName_69 : decode prog_11_method_38_code 69 = .ok (.ifCond .le 7, 3) := by decide +kernel
theorem d_Model_isName_72 : decode prog_11_method_38_code 72 = .ok (.iconst 1, 1) := by decide +kernel
theorem d_Model_isName_73 : decode prog_11_method_38_code 73 = .ok (.goto 4, 3) := by decide +kernel
theorem d_Model_isName_76 : decode prog_11_method_38_code 76 = .ok (.iconst 0, 1) := by decide +kernel
theorem d_Model_isName_77 : decode prog_11_method_38_code 77 = .ok (.ireturn, 1) := by decide +kernel
theorem d_Model_addWord_0 : decode prog_11_method_34_code 0 = .ok (.aload_n 0, 1) := by decide +kernel
theorem d_Model_addWord_1 : decode prog_11_method_34_code 1 = .ok (.getfield 37, 3) := by decide +kernel
theorem d_Model_addWord_4 : decode prog_11_method_34_code 4 = .ok (.iload_n 2, 1) := by decide +kernel
theorem d_Model_addWord_5 : decode prog_11_method_34_code 5 = .ok (.iaload, 1) := by decide +kernel
theorem d_Model_addWord_6 : decode prog_11_method_34_code 6 = .ok (.istore_n 3, 1) := by decide +kernel
theorem d_Model_addWord_7 : decode prog_11_method_34_code 7 = .ok (.iload_n 3, 1) := by decide +kernel
theorem d_Model_addWord_8 : decode prog_11_method_34_code 8 = .ok (.aload_n 0, 1) := by decide +kernel
theorem d_Model_addWord_9 : decode prog_11_method_34_code 9 = .ok (.getfield 40, 3) := by decide +kernel
theorem d_Model_addWord_12 : decode prog_11_method_34_code 12 = .ok (.iload_n 2, 1) := by decide +kernel
theorem d_Model_addWord_13 : decode prog_11_method_34_code 13 = .ok (.iaload, 1) := by decide +kernel
theorem d_Model_addWord_14 : decode prog_11_method_34_code 14 = .ok (.if_icmp .ge 20, 3) := by decide +kernel
theorem d_Model_addWord_17 : decode prog_11_method_34_code 17 = .ok (.aload_n 0, 1) := by decide +kernel
theorem d_Model_addWord_18 : decode prog_11_method_34_code 18 = .ok (.iload_n 1, 1) := by decide +kernel
theorem d_Model_addWord_19 : decode prog_11_method_34_code 19 = .ok (.aload_n 0, 1) := by decide +kernel
theorem d_Model_addWord_20 : decode prog_11_method_34_code 20 = .ok (.getfield 43, 3) := by decide +kernel
theorem d_Model_addWord_23 : decode prog_11_method_34_code 23 = .ok (.iload_n 3, 1) := by decide +kernel
theorem d_Model_addWord_24 : decode prog_11_method_34_code 24 = .ok (.iaload, 1) := by decide +kernel
theorem d_Model_addWord_25 : decode prog_11_method_34_code 25 = .ok (.invokevirtual 191, 3) := by decide +kernel
theorem d_Model_addWord_28 : decode prog_11_method_34_code 28 = .ok (.iinc 3 1, 3) := by decide +kernel
theorem d_Model_addWord_31 : decode prog_11_method_34_code 31 = .ok (.goto (-24), 3) := by decide +kernel
theorem d_Model_addWord_34 : decode prog_11_method_34_code 34 = .ok (.return_, 1) := by decide +kernel
theorem d_Model_makeName_0 : decode prog_11_method_39_code 0 = .ok (.aload_n 0, 1) := by decide +kernel
theorem d_Model_makeName_1 : decode prog_11_method_39_code 1 = .ok (.iload_n 1, 1) := by decide +kernel
theorem d_Model_makeName_2 : decode prog_11_method_39_code 2 = .ok (.invokevirtual 204, 3) := by decide +kernel
theorem d_Model_makeName_5 : decode prog_11_method_39_code 5 = .ok (.iconst 0, 1) := by decide +kernel
theorem d_Model_makeName_6 : decode prog_11_method_39_code 6 = .ok (.istore 4, 2) := by decide +kernel
theorem d_Model_makeName_8 : decode prog_11_method_39_code 8 = .ok (.aload_n 0, 1) := by decide +kernel
theorem d_Model_makeName_9 : decode prog_11_method_39_code 9 = .ok (.iload_n 2, 1) := by decide +kernel
theorem d_Model_makeName_10 : decode prog_11_method_39_code 10 = .ok (.iload_n 3, 1) := by decide +kernel
theorem d_Model_makeName_11 : decode prog_11_method_39_code 11 = .ok (.invokevirtual 197, 3) := by decide +kernel
theorem d_Model_makeName_14 : decode prog_11_method_39_code 14 = .ok (.istore 5, 2) := by decide +kernel
theorem d_Model_makeName_16 : decode prog_11_method_39_code 16 = .ok (.iload 5, 2) := by decide +kernel
theorem d_Model_makeName_18 : decode prog_11_method_39_code 18 = .ok (.iload_n 3, 1) := by decide +kernel
theorem d_Model_makeName_19 : decode prog_11_method_39_code 19 = .ok (.if_icmp .ge 50, 3) := by decide +kernel
theorem d_Model_makeName_22 : decode prog_11_method_39_code 22 = .ok (.iload 4, 2) := by decide +kernel
theorem d_Model_makeName_24 : decode prog_11_method_39_code 24 = .ok (.ifCond .eq 21, 3) := by decide +kernel
theorem d_Model_makeName_27 : decode prog_11_method_39_code 27 = .ok (.aload_n 0, 1) := by decide +kernel
theorem d_Model_makeName_28 : decode prog_11_method_39_code 28 = .ok (.iload 5, 2) := by decide +kernel
theorem d_Model_makeName_30 : decode prog_11_method_39_code 30 = .ok (.bipush 46, 2) := by decide +kernel
theorem d_Model_makeName_32 : decode prog_11_method_39_code 32 = .ok (.invokevirtual 200, 3) := by decide +kernel
theorem d_Model_makeName_35 : decode prog_11_method_39_code 35 = .ok (.ifCond .ne 10, 3) := by decide +kernel
theorem d_Model_makeName_38 : decode prog_11_method_39_code 38 = .ok (.aload_n 0, 1) := by decide +kernel
theorem d_Model_makeName_39 : decode prog_11_method_39_code 39 = .ok (.iload_n 1, 1) := by decide +kernel
theorem d_Model_makeName_40 : decode prog_11_method_39_code 40 = .ok (.bipush 32, 2) := by decide +kernel
theorem d_Model_makeName_42 : decode prog_11_method_39_code 42 = .ok (.invokevirtual 191, 3) := by decide +kernel
theorem d_Model_makeName_45 : decode prog_11_method_39_code 45 = .ok (.aload_n 0, 1) := by decide +kernel
theorem d_Model_makeName_46 : decode prog_11_method_39_code 46 = .ok (.iload_n 1, 1) := by decide +kernel
theorem d_Model_makeName_47 : decode prog_11_method_39_code 47 = .ok (.iload 5, 2) := by decide +kernel
theorem d_Model_makeName_49 : decode prog_11_method_39_code 49 = .ok (.invokevirtual 207, 3) := by decide +kernel
theorem d_Model_makeName_52 : decode prog_11_method_39_code 52 = .ok (.iconst 1, 1) := by decide +kernel
theorem d_Model_makeName_53 : decode prog_11_method_39_code 53 = .ok (.istore 4, 2) := by decide +kernel
theorem d_Model_makeName_55 : decode prog_11_method_39_code 55 = .ok (.aload_n 0, 1) := by decide +kernel
theorem d_Model_makeName_56 : decode prog_11_method_39_code 56 = .ok (.iload 5, 2) := by decide +kernel
theorem d_Model_makeName_58 : decode prog_11_method_39_code 58 = .ok (.iconst 1, 1) := by decide +kernel
theorem d_Model_makeName_59 : decode prog_11_method_39_code 59 = .ok (.iadd, 1) := by decide +kernel
theorem d_Model_makeName_60 : decode prog_11_method_39_code 60 = .ok (.iload_n 3, 1) := by decide +kernel
theorem d_Model_makeName_61 : decode prog_11_method_39_code 61 = .ok (.invokevirtual 197, 3) := by decide +kernel
theorem d_Model_makeName_64 : decode prog_11_method_39_code 64 = .ok (.istore 5, 2) := by decide +kernel
theorem d_Model_makeName_66 : decode prog_11_method_39_code 66 = .ok (.goto (-50), 3) := by decide +kernel
theorem d_Model_makeName_69 : decode prog_11_method_39_code 69 = .ok (.aload_n 0, 1) := by decide +kernel
theorem d_Model_makeName_70 : decode prog_11_method_39_code 70 = .ok (.iload_n 1, 1) := by decide +kernel
theorem d_Model_makeName_71 : decode prog_11_method_39_code 71 = .ok (.invokevirtual 210, 3) := by decide +kernel
theorem d_Model_makeName_74 : decode prog_11_method_39_code 74 = .ok (.return_, 1) := by decide +kernel
theorem d_Model_beginGroup_0 : decode prog_11_method_47_code 0 = .ok (.aload_n 0, 1) := by decide +kernel
theorem d_Model_beginGroup_1 : decode prog_11_method_47_code 1 = .ok (.iload_n 1, 1) := by decide +kernel
theorem d_Model_beginGroup_2 : decode prog_11_method_47_code 2 = .ok (.iload_n 2, 1) := by decide +kernel
theorem d_Model_beginGroup_3 : decode prog_11_method_47_code 3 = .ok (.invokevirtual 233, 3) := by decide +kernel
theorem d_Model_beginGroup_6 : decode prog_11_method_47_code 6 = .ok (.istore_n 3, 1) := by decide +kernel
theorem d_Model_beginGroup_7 : decode prog_11_method_47_code 7 = .ok (.iload_n 3, 1) := by decide +kernel
theorem d_Model_beginGroup_8 : decode prog_11_method_47_code 8 = .ok (.ifCond .ne 23, 3) := by decide +kernel
theorem d_Model_beginGroup_11 : decode prog_11_method_47_code 11 = .ok (.aload_n 0, 1) := by decide +kernel
theorem d_Model_beginGroup_12 : decode prog_11_method_47_code 12 = .ok (.iload_n 1, 1) := by decide +kernel
theorem d_Model_beginGroup_13 : decode prog_11_method_47_code 13 = .ok (.iload_n 2, 1) := by decide +kernel
theorem d_Model_beginGroup_14 : decode prog_11_method_47_code 14 = .ok (.invokevirtual 197, 3) := by decide +kernel
theorem d_Model_beginGroup_17 : decode prog_11_method_47_code 17 = .ok (.iload_n 2, 1) := by decide +kernel
theorem d_Model_beginGroup_18 : decode prog_11_method_47_code 18 = .ok (.if_icmp .ge 13, 3) := by decide +kernel
theorem d_Model_beginGroup_21 : decode prog_11_method_47_code 21 = .ok (.aload_n 0, 1) := by decide +kernel
theorem d_Model_beginGroup_22 : decode prog_11_method_47_code 22 = .ok (.dup, 1) := by decide +kernel
theorem d_Model_beginGroup_23 : decode prog_11_method_47_code 23 = .ok (.getfield 227, 3) := by decide +kernel
theorem d_Model_beginGroup_26 : decode prog_11_method_47_code 26 = .ok (.iconst 1, 1) := by decide +kernel
theorem d_Model_beginGroup_27 : decode prog_11_method_47_code 27 = .ok (.iadd, 1) := by decide +kernel
theorem d_Model_beginGroup_28 : decode prog_11_method_47_code 28 = .ok (.putfield 227, 3) := by decide +kernel
theorem d_Model_beginGroup_31 : decode prog_11_method_47_code 31 = .ok (.iload_n 3, 1) := by decide +kernel
theorem d_Model_beginGroup_32 : decode prog_11_method_47_code 32 = .ok (.ifCond .eq 13, 3) := by decide +kernel
theorem d_Model_beginGroup_35 : decode prog_11_method_47_code 35 = .ok (.aload_n 0, 1) := by decide +kernel
theorem d_Model_beginGroup_36 : decode prog_11_method_47_code 36 = .ok (.iconst 3, 1) := by decide +kernel
theorem d_Model_beginGroup_37 : decode prog_11_method_47_code 37 = .ok (.iload_n 1, 1) := by decide +kernel
theorem d_Model_beginGroup_38 : decode prog_11_method_47_code 38 = .ok (.iload_n 2, 1) := by decide +kernel
theorem d_Model_beginGroup_39 : decode prog_11_method_47_code 39 = .ok (.invokevirtual 239, 3) := by decide +kernel
theorem d_Model_beginGroup_42 : decode prog_11_method_47_code 42 = .ok (.goto 13, 3) := by decide +kernel
theorem d_Model_beginGroup_45 : decode prog_11_method_47_code 45 = .ok (.aload_n 0, 1) := by decide +kernel
theorem d_Model_beginGroup_46 : decode prog_11_method_47_code 46 = .ok (.iconst 3, 1) := by decide +kernel
theorem d_Model_beginGroup_47 : decode prog_11_method_47_code 47 = .ok (.invokevirtual 204, 3) := by decide +kernel
theorem d_Model_beginGroup_50 : decode prog_11_method_47_code 50 = .ok (.aload_n 0, 1) := by decide +kernel
theorem d_Model_beginGroup_51 : decode prog_11_method_47_code 51 = .ok (.iconst 3, 1) := by decide +kernel
theorem d_Model_beginGroup_52 : decode prog_11_method_47_code 52 = .ok (.invokevirtual 210, 3) := by decide +kernel
theorem d_Model_beginGroup_55 : decode prog_11_method_47_code 55 = .ok (.aload_n 0, 1) := by decide +kernel
theorem d_Model_beginGroup_56 : decode prog_11_method_47_code 56 = .ok (.dup, 1) := by decide +kernel
theorem d_Model_beginGroup_57 : decode prog_11_method_47_code 57 = .ok (.getfield 248, 3) := by decide +kernel
theorem d_Model_beginGroup_60 : decode prog_11_method_47_code 60 = .ok (.iconst 1, 1) := by decide +kernel
theorem d_Model_beginGroup_61 : decode prog_11_method_47_code 61 = .ok (.iadd, 1) := by decide +kernel
theorem d_Model_beginGroup_62 : decode prog_11_method_47_code 62 = .ok (.putfield 248, 3) := by decide +kernel
theorem d_Model_beginGroup_65 : decode prog_11_method_47_code 65 = .ok (.return_, 1) := by decide +kernel
theorem d_Model_isRowWord_0 : decode prog_11_method_41_code 0 = .ok (.iload_n 1, 1) := by decide +kernel
theorem d_Model_isRowWord_1 : decode prog_11_method_41_code 1 = .ok (.iload_n 2, 1) := by decide +kernel
theorem d_Model_isRowWord_2 : decode prog_11_method_41_code 2 = .ok (.if_icmp .ge 31, 3) := by decide +kernel
theorem d_Model_isRowWord_5 : decode prog_11_method_41_code 5 = .ok (.aload_n 0, 1) := by decide +kernel
theorem d_Model_isRowWord_6 : decode prog_11_method_41_code 6 = .ok (.getfield 31, 3) := by decide +kernel
theorem d_Model_isRowWord_9 : decode prog_11_method_41_code 9 = .ok (.iload_n 1, 1) := by decide +kernel
theorem d_Model_isRowWord_10 : decode prog_11_method_41_code 10 = .ok (.iaload, 1) := by decide +kernel
theorem d_Model_isRowWord_11 : decode prog_11_method_41_code 11 = .ok (.iconst 4, 1) := by decide +kernel
theorem d_Model_isRowWord_12 : decode prog_11_method_41_code 12 = .ok (.if_icmp .eq 17, 3) := by decide +kernel
theorem d_Model_isRowWord_15 : decode prog_11_method_41_code 15 = .ok (.iload_n 3, 1) := by decide +kernel
theorem d_Model_isRowWord_16 : decode prog_11_method_41_code 16 = .ok (.ifCond .eq 17, 3) := by decide +kernel
theorem d_Model_isRowWord_19 : decode prog_11_method_41_code 19 = .ok (.aload_n 0, 1) := by decide +kernel
theorem d_Model_isRowWord_20 : decode prog_11_method_41_code 20 = .ok (.getfield 31, 3) := by decide +kernel
theorem d_Model_isRowWord_23 : decode prog_11_method_41_code 23 = .ok (.iload_n 1, 1) := by decide +kernel
theorem d_Model_isRowWord_24 : decode prog_11_method_41_code 24 = .ok (.iaload, 1) := by decide +kernel
theorem d_Model_isRowWord_25 : decode prog_11_method_41_code 25 = .ok (.iconst 1, 1) := by decide +kernel
theorem d_Model_isRowWord_26 : decode prog_11_method_41_code 26 = .ok (.if_icmp .ne 7, 3) := by decide +kernel
theorem d_Model_isRowWord_29 : decode prog_11_method_41_code 29 = .ok (.iconst 1, 1) := by decide +kernel
theorem d_Model_isRowWord_30 : decode prog_11_method_41_code 30 = .ok (.goto 4, 3) := by decide +kernel
theorem d_Model_isRowWord_33 : decode prog_11_method_41_code 33 = .ok (.iconst 0, 1) := by decide +kernel
theorem d_Model_isRowWord_34 : decode prog_11_method_41_code 34 = .ok (.ireturn, 1) := by decide +kernel
theorem d_Model_rowEnd_0 : decode prog_11_method_40_code 0 = .ok (.aload_n 0, 1) := by decide +kernel
theorem d_Model_rowEnd_1 : decode prog_11_method_40_code 1 = .ok (.iload_n 1, 1) := by decide +kernel
theorem d_Model_rowEnd_2 : decode prog_11_method_40_code 2 = .ok (.iload_n 2, 1) := by decide +kernel
theorem d_Model_rowEnd_3 : decode prog_11_method_40_code 3 = .ok (.invokevirtual 197, 3) := by decide +kernel
theorem d_Model_rowEnd_6 : decode prog_11_method_40_code 6 = .ok (.istore 4, 2) := by decide +kernel
theorem d_Model_rowEnd_8 : decode prog_11_method_40_code 8 = .ok (.aload_n 0, 1) := by decide +kernel
theorem d_Model_rowEnd_9 : decode prog_11_method_40_code 9 = .ok (.iload 4, 2) := by decide +kernel
theorem d_Model_rowEnd_11 : decode prog_11_method_40_code 11 = .ok (.iload_n 2, 1) := by decide +kernel
theorem d_Model_rowEnd_12 : decode prog_11_method_40_code 12 = .ok (.iload_n 3, 1) := by decide +kernel
theorem d_Model_rowEnd_13 : decode prog_11_method_40_code 13 = .ok (.invokevirtual 213, 3) := by decide +kernel
theorem d_Model_rowEnd_16 : decode prog_11_method_40_code 16 = .ok (.ifCond .ne 5, 3) := by decide +kernel
theorem d_Model_rowEnd_19 : decode prog_11_method_40_code 19 = .ok (.iload_n 1, 1) := by decide +kernel
theorem d_Model_rowEnd_20 : decode prog_11_method_40_code 20 = .ok (.ireturn, 1) := by decide +kernel
theorem d_Model_rowEnd_21 : decode prog_11_method_40_code 21 = .ok (.iinc 4 1, 3) := by decide +kernel
theorem d_Model_rowEnd_24 : decode prog_11_method_40_code 24 = .ok (.iconst 1, 1) := by decide +kernel
theorem d_Model_rowEnd_25 : decode prog_11_method_40_code 25 = .ok (.istore 5, 2) := by decide +kernel
theorem d_Model_rowEnd_27 : decode prog_11_method_40_code 27 = .ok (.iload 5, 2) := by decide +kernel
theorem d_Model_rowEnd_29 : decode prog_11_method_40_code 29 = .ok (.ifCond .eq 93, 3) := by decide +kernel
theorem d_Model_rowEnd_32 : decode prog_11_method_40_code 32 = .ok (.aload_n 0, 1) := by decide +kernel
theorem d_Model_rowEnd_33 : decode prog_11_method_40_code 33 = .ok (.iload 4, 2) := by decide +kernel
theorem d_Model_rowEnd_35 : decode prog_11_method_40_code 35 = .ok (.iload_n 2, 1) := by decide +kernel
theorem d_Model_rowEnd_36 : decode prog_11_method_40_code 36 = .ok (.invokevirtual 197, 3) := by decide +kernel
theorem d_Model_rowEnd_39 : decode prog_11_method_40_code 39 = .ok (.istore 6, 2) := by decide +kernel
theorem d_Model_rowEnd_41 : decode prog_11_method_40_code 41 = .ok (.iload 6, 2) := by decide +kernel
theorem d_Model_rowEnd_43 : decode prog_11_method_40_code 43 = .ok (.iload_n 2, 1) := by decide +kernel
theorem d_Model_rowEnd_44 : decode prog_11_method_40_code 44 = .ok (.if_icmp .ge 26, 3) := by decide +kernel
theorem d_Model_rowEnd_47 : decode prog_11_method_40_code 47 = .ok (.aload_n 0, 1) := by decide +kernel
theorem d_Model_rowEnd_48 : decode prog_11_method_40_code 48 = .ok (.iload 6, 2) := by decide +kernel
theorem d_Model_rowEnd_50 : decode prog_11_method_40_code 50 = .ok (.bipush 46, 2) := by decide +kernel
theorem d_Model_rowEnd_52 : decode prog_11_method_40_code 52 = .ok (.invokevirtual 200, 3) := by decide +kernel
theorem d_Model_rowEnd_55 : decode prog_11_method_40_code 55 = .ok (.ifCond .eq 15, 3) := by decide +kernel
theorem d_Model_rowEnd_58 : decode prog_11_method_40_code 58 = .ok (.aload_n 0, 1) := by decide +kernel
theorem d_Model_rowEnd_59 : decode prog_11_method_40_code 59 = .ok (.iload 6, 2) := by decide +kernel
theorem d_Model_rowEnd_61 : decode prog_11_method_40_code 61 = .ok (.iconst 1, 1) := by decide +kernel
theorem d_Model_rowEnd_62 : decode prog_11_method_40_code 62 = .ok (.iadd, 1) := by decide +kernel
theorem d_Model_rowEnd_63 : decode prog_11_method_40_code 63 = .ok (.iload_n 2, 1) := by decide +kernel
theorem d_Model_rowEnd_64 : decode prog_11_method_40_code 64 = .ok (.invokevirtual 197, 3) := by decide +kernel
theorem d_Model_rowEnd_67 : decode prog_11_method_40_code 67 = .ok (.goto 4, 3) := by decide +kernel
theorem d_Model_rowEnd_70 : decode prog_11_method_40_code 70 = .ok (.iload_n 2, 1) := by decide +kernel
theorem d_Model_rowEnd_71 : decode prog_11_method_40_code 71 = .ok (.istore 7, 2) := by decide +kernel
theorem d_Model_rowEnd_73 : decode prog_11_method_40_code 73 = .ok (.iload 6, 2) := by decide +kernel
theorem d_Model_rowEnd_75 : decode prog_11_method_40_code 75 = .ok (.iload_n 2, 1) := by decide +kernel
theorem d_Model_rowEnd_76 : decode prog_11_method_40_code 76 = .ok (.if_icmp .ge 29, 3) := by decide +kernel
theorem d_Model_rowEnd_79 : decode prog_11_method_40_code 79 = .ok (.aload_n 0, 1) := by decide +kernel
theorem d_Model_rowEnd_80 : decode prog_11_method_40_code 80 = .ok (.iload 6, 2) := by decide +kernel
theorem d_Model_rowEnd_82 : decode prog_11_method_40_code 82 = .ok (.bipush 46, 2) := by decide +kernel
theorem d_Model_rowEnd_84 : decode prog_11_method_40_code 84 = .ok (.invokevirtual 200, 3) := by decide +kernel
theorem d_Model_rowEnd_87 : decode prog_11_method_40_code 87 = .ok (.ifCond .eq 18, 3) := by decide +kernel
theorem d_Model_rowEnd_90 : decode prog_11_method_40_code 90 = .ok (.aload_n 0, 1) := by decide +kernel
theorem d_Model_rowEnd_91 : decode prog_11_method_40_code 91 = .ok (.iload 7, 2) := by decide +kernel
theorem d_Model_rowEnd_93 : decode prog_11_method_40_code 93 = .ok (.iload_n 2, 1) := by decide +kernel
theorem d_Model_rowEnd_94 : decode prog_11_method_40_code 94 = .ok (.iload_n 3, 1) := by decide +kernel
theorem d_Model_rowEnd_95 : decode prog_11_method_40_code 95 = .ok (.invokevirtual 213, 3) := by decide +kernel
theorem d_Model_rowEnd_98 : decode prog_11_method_40_code 98 = .ok (.ifCond .eq 7, 3) := by decide +kernel
theorem d_Model_rowEnd_101 : decode prog_11_method_40_code 101 = .ok (.iconst 1, 1) := by decide +kernel
theorem d_Model_rowEnd_102 : decode prog_11_method_40_code 102 = .ok (.goto 4, 3) := by decide +kernel
theorem d_Model_rowEnd_105 : decode prog_11_method_40_code 105 = .ok (.iconst 0, 1) := by decide +kernel
theorem d_Model_rowEnd_106 : decode prog_11_method_40_code 106 = .ok (.istore 5, 2) := by decide +kernel
theorem d_Model_rowEnd_108 : decode prog_11_method_40_code 108 = .ok (.iload 5, 2) := by decide +kernel
theorem d_Model_rowEnd_110 : decode prog_11_method_40_code 110 = .ok (.ifCond .eq 9, 3) := by decide +kernel
theorem d_Model_rowEnd_113 : decode prog_11_method_40_code 113 = .ok (.iload 7, 2) := by decide +kernel
theorem d_Model_rowEnd_115 : decode prog_11_method_40_code 115 = .ok (.iconst 1, 1) := by decide +kernel
theorem d_Model_rowEnd_116 : decode prog_11_method_40_code 116 = .ok (.iadd, 1) := by decide +kernel
theorem d_Model_rowEnd_117 : decode prog_11_method_40_code 117 = .ok (.istore 4, 2) := by decide +kernel
theorem d_Model_rowEnd_119 : decode prog_11_method_40_code 119 = .ok (.goto (-92), 3) := by decide +kernel
theorem d_Model_rowEnd_122 : decode prog_11_method_40_code 122 = .ok (.iload 4, 2) := by decide +kernel
theorem d_Model_rowEnd_124 : decode prog_11_method_40_code 124 = .ok (.ireturn, 1) := by decide +kernel
theorem d_Model_isSpec_0 : decode prog_11_method_42_code 0 = .ok (.aload_n 0, 1) := by decide +kernel
theorem d_Model_isSpec_1 : decode prog_11_method_42_code 1 = .ok (.aload_n 0, 1) := by decide +kernel
theorem d_Model_isSpec_2 : decode prog_11_method_42_code 2 = .ok (.iload_n 1, 1) := by decide +kernel
theorem d_Model_isSpec_3 : decode prog_11_method_42_code 3 = .ok (.iload_n 2, 1) := by decide +kernel
theorem d_Model_isSpec_4 : decode prog_11_method_42_code 4 = .ok (.iconst 1, 1) := by decide +kernel
theorem d_Model_isSpec_5 : decode prog_11_method_42_code 5 = .ok (.invokevirtual 217, 3) := by decide +kernel
theorem d_Model_isSpec_8 : decode prog_11_method_42_code 8 = .ok (.putfield 221, 3) := by decide +kernel
theorem d_Model_isSpec_11 : decode prog_11_method_42_code 11 = .ok (.aload_n 0, 1) := by decide +kernel
theorem d_Model_isSpec_12 : decode prog_11_method_42_code 12 = .ok (.iload_n 2, 1) := by decide +kernel
theorem d_Model_isSpec_13 : decode prog_11_method_42_code 13 = .ok (.putfield 224, 3) := by decide +kernel
theorem d_Model_isSpec_16 : decode prog_11_method_42_code 16 = .ok (.aload_n 0, 1) := by decide +kernel
theorem d_Model_isSpec_17 : decode prog_11_method_42_code 17 = .ok (.getfield 221, 3) := by decide +kernel
theorem d_Model_isSpec_20 : decode prog_11_method_42_code 20 = .ok (.iload_n 1, 1) := by decide +kernel
theorem d_Model_isSpec_21 : decode prog_11_method_42_code 21 = .ok (.if_icmp .ne 5, 3) := by decide +kernel
theorem d_Model_isSpec_24 : decode prog_11_method_42_code 24 = .ok (.iconst 0, 1) := by decide +kernel
theorem d_Model_isSpec_25 : decode prog_11_method_42_code 25 = .ok (.ireturn, 1) := by decide +kernel
theorem d_Model_isSpec_26 : decode prog_11_method_42_code 26 = .ok (.aload_n 0, 1) := by decide +kernel
theorem d_Model_isSpec_27 : decode prog_11_method_42_code 27 = .ok (.aload_n 0, 1) := by decide +kernel
theorem d_Model_isSpec_28 : decode prog_11_method_42_code 28 = .ok (.getfield 221, 3) := by decide +kernel
theorem d_Model_isSpec_31 : decode prog_11_method_42_code 31 = .ok (.iload_n 2, 1) := by decide +kernel
theorem d_Model_isSpec_32 : decode prog_11_method_42_code 32 = .ok (.invokevirtual 197, 3) := by decide +kernel
theorem d_Model_isSpec_35 : decode prog_11_method_42_code 35 = .ok (.istore_n 3, 1) := by decide +kernel
theorem d_Model_isSpec_36 : decode prog_11_method_42_code 36 = .ok (.iload_n 3, 1) := by decide +kernel
theorem d_Model_isSpec_37 : decode prog_11_method_42_code 37 = .ok (.iload_n 2, 1) := by decide +kernel
theorem d_Model_isSpec_38 : decode prog_11_method_42_code 38 = .ok (.if_icmp .ne 5, 3) := by decide +kernel
theorem d_Model_isSpec_41 : decode prog_11_method_42_code 41 = .ok (.iconst 1, 1) := by decide +kernel
theorem d_Model_isSpec_42 : decode prog_11_method_42_code 42 = .ok (.ireturn, 1) := by decide +kernel
theorem d_Model_isSpec_43 : decode prog_11_method_42_code 43 = .ok (.aload_n 0, 1) := by decide +kernel
theorem d_Model_isSpec_44 : decode prog_11_method_42_code 44 = .ok (.iload_n 3, 1) := by decide +kernel
theorem d_Model_isSpec_45 : decode prog_11_method_42_code 45 = .ok (.bipush 64, 2) := by decide +kernel
theorem d_Model_isSpec_47 : decode prog_11_method_42_code 47 = .ok (.invokevirtual 200, 3) := by decide +kernel
theorem d_Model_isSpec_50 : decode prog_11_method_42_code 50 = .ok (.ifCond .ne 5, 3) := by decide +kernel
theorem d_Model_isSpec_53 : decode prog_11_method_42_code 53 = .ok (.iconst 0, 1) := by decide +kernel
theorem d_Model_isSpec_54 : decode prog_11_method_42_code 54 = .ok (.ireturn, 1) := by decide +kernel
theorem d_Model_isSpec_55 : decode prog_11_method_42_code 55 = .ok (.aload_n 0, 1) := by decide +kernel
theorem d_Model_isSpec_56 : decode prog_11_method_42_code 56 = .ok (.iload_n 3, 1) := by decide +kernel
theorem d_Model_isSpec_57 : decode prog_11_method_42_code 57 = .ok (.iconst 1, 1) := by decide +kernel
theorem d_Model_isSpec_58 : decode prog_11_method_42_code 58 = .ok (.iadd, 1) := by decide +kernel
theorem d_Model_isSpec_59 : decode prog_11_method_42_code 59 = .ok (.putfield 224, 3) := by decide +kernel
theorem d_Model_isSpec_62 : decode prog_11_method_42_code 62 = .ok (.aload_n 0, 1) := by decide +kernel
theorem d_Model_isSpec_63 : decode prog_11_method_42_code 63 = .ok (.aload_n 0, 1) := by decide +kernel
theorem d_Model_isSpec_64 : decode prog_11_method_42_code 64 = .ok (.getfield 224, 3) := by decide +kernel
theorem d_Model_isSpec_67 : decode prog_11_method_42_code 67 = .ok (.iload_n 2, 1) := by decide +kernel
theorem d_Model_isSpec_68 : decode prog_11_method_42_code 68 = .ok (.invokevirtual 197, 3) := by decide +kernel
theorem d_Model_isSpec_71 : decode prog_11_method_42_code 71 = .ok (.istore 4, 2) := by decide +kernel
theorem d_Model_isSpec_73 : decode prog_11_method_42_code 73 = .ok (.iload 4, 2) := by decide +kernel
theorem d_Model_isSpec_75 : decode prog_11_method_42_code 75 = .ok (.iload_n 2, 1) := by decide +kernel
theorem d_Model_isSpec_76 : decode prog_11_method_42_code 76 = .ok (.if_icmp .ge 33, 3) := by decide +kernel
theorem d_Model_isSpec_79 : decode prog_11_method_42_code 79 = .ok (.aload_n 0, 1) := by decide +kernel
theorem d_Model_isSpec_80 : decode prog_11_method_42_code 80 = .ok (.getfield 31, 3) := by decide +kernel
theorem d_Model_isSpec_83 : decode prog_11_method_42_code 83 = .ok (.iload 4, 2) := by decide +kernel
theorem d_Model_isSpec_85 : decode prog_11_method_42_code 85 = .ok (.iaload, 1) := by decide +kernel
theorem d_Model_isSpec_86 : decode prog_11_method_42_code 86 = .ok (.iconst 2, 1) := by decide +kernel
theorem d_Model_isSpec_87 : decode prog_11_method_42_code 87 = .ok (.if_icmp .ne 22, 3) := by decide +kernel
theorem d_Model_isSpec_90 : decode prog_11_method_42_code 90 = .ok (.aload_n 0, 1) := by decide +kernel
theorem d_Model_isSpec_91 : decode prog_11_method_42_code 91 = .ok (.iload 4, 2) := by decide +kernel
theorem d_Model_isSpec_93 : decode prog_11_method_42_code 93 = .ok (.iconst 1, 1) := by decide +kernel
theorem d_Model_isSpec_94 : decode prog_11_method_42_code 94 = .ok (.iadd, 1) := by decide +kernel
theorem d_Model_isSpec_95 : decode prog_11_method_42_code 95 = .ok (.iload_n 2, 1) := by decide +kernel
theorem d_Model_isSpec_96 : decode prog_11_method_42_code 96 = .ok (.invokevirtual 197, 3) := by decide +kernel
theorem d_Model_isSpec_99 : decode prog_11_method_42_code 99 = .ok (.iload_n 2, 1) := by decide +kernel
theorem d_Model_isSpec_100 : decode prog_11_method_42_code 100 = .ok (.if_icmp .ne 7, 3) := by decide +kernel
theorem d_Model_isSpec_103 : decode prog_11_method_42_code 103 = .ok (.iconst 1, 1) := by decide +kernel
theorem d_Model_isSpec_104 : decode prog_11_method_42_code 104 = .ok (.goto 4, 3) := by decide +kernel
theorem d_Model_isSpec_107 : decode prog_11_method_42_code 107 = .ok (.iconst 0, 1) := by decide +kernel
theorem d_Model_isSpec_108 : decode prog_11_method_42_code 108 = .ok (.ireturn, 1) := by decide +kernel
theorem d_Model_isSpec_109 : decode prog_11_method_42_code 109 = .ok (.aload_n 0, 1) := by decide +kernel
theorem d_Model_isSpec_110 : decode prog_11_method_42_code 110 = .ok (.aload_n 0, 1) := by decide +kernel
theorem d_Model_isSpec_111 : decode prog_11_method_42_code 111 = .ok (.getfield 224, 3) := by decide +kernel
theorem d_Model_isSpec_114 : decode prog_11_method_42_code 114 = .ok (.iload_n 2, 1) := by decide +kernel
theorem d_Model_isSpec_115 : decode prog_11_method_42_code 115 = .ok (.iconst 0, 1) := by decide +kernel
theorem d_Model_isSpec_116 : decode prog_11_method_42_code 116 = .ok (.invokevirtual 217, 3) := by decide +kernel
theorem d_Model_isSpec_119 : decode prog_11_method_42_code 119 = .ok (.istore 5, 2) := by decide +kernel
theorem d_Model_isSpec_121 : decode prog_11_method_42_code 121 = .ok (.iload 5, 2) := by decide +kernel
theorem d_Model_isSpec_123 : decode prog_11_method_42_code 123 = .ok (.aload_n 0, 1) := by decide +kernel
theorem d_Model_isSpec_124 : decode prog_11_method_42_code 124 = .ok (.getfield 224, 3) := by decide +kernel
theorem d_Model_isSpec_127 : decode prog_11_method_42_code 127 = .ok (.if_icmp .le 18, 3) := by decide +kernel
theorem d_Model_isSpec_130 : decode prog_11_method_42_code 130 = .ok (.aload_n 0, 1) := by decide +kernel
theorem d_Model_isSpec_131 : decode prog_11_method_42_code 131 = .ok (.iload 5, 2) := by decide +kernel
theorem d_Model_isSpec_133 : decode prog_11_method_42_code 133 = .ok (.iload_n 2, 1) := by decide +kernel
theorem d_Model_isSpec_134 : decode prog_11_method_42_code 134 = .ok (.invokevirtual 197, 3) := by decide +kernel
theorem d_Model_isSpec_137 : decode prog_11_method_42_code 137 = .ok (.iload_n 2, 1) := by decide +kernel
theorem d_Model_isSpec_138 : decode prog_11_method_42_code 138 = .ok (.if_icmp .ne 7, 3) := by decide +kernel
theorem d_Model_isSpec_141 : decode prog_11_method_42_code 141 = .ok (.iconst 1, 1) := by decide +kernel
theorem d_Model_isSpec_142 : decode prog_11_method_42_code 142 = .ok (.goto 4, 3) := by decide +kernel
theorem d_Model_isSpec_145 : decode prog_11_method_42_code 145 = .ok (.iconst 0, 1) := by decide +kernel
theorem d_Model_isSpec_146 : decode prog_11_method_42_code 146 = .ok (.ireturn, 1) := by decide +kernel
theorem d_Model_behindRoute_0 : decode prog_11_method_45_code 0 = .ok (.aload_n 0, 1) := by decide +kernel
theorem d_Model_behindRoute_1 : decode prog_11_method_45_code 1 = .ok (.iload_n 1, 1) := by decide +kernel
theorem d_Model_behindRoute_2 : decode prog_11_method_45_code 2 = .ok (.iload_n 2, 1) := by decide +kernel
theorem d_Model_behindRoute_3 : decode prog_11_method_45_code 3 = .ok (.invokevirtual 197, 3) := by decide +kernel
theorem d_Model_behindRoute_6 : decode prog_11_method_45_code 6 = .ok (.istore_n 3, 1) := by decide +kernel
theorem d_Model_behindRoute_7 : decode prog_11_method_45_code 7 = .ok (.iload_n 3, 1) := by decide +kernel
theorem d_Model_behindRoute_8 : decode prog_11_method_45_code 8 = .ok (.iload_n 2, 1) := by decide +kernel
theorem d_Model_behindRoute_9 : decode prog_11_method_45_code 9 = .ok (.if_icmp .ge 71, 3) := by decide +kernel
theorem d_Model_behindRoute_12 : decode prog_11_method_45_code 12 = .ok (.aload_n 0, 1) := by decide +kernel
theorem d_Model_behindRoute_13 : decode prog_11_method_45_code 13 = .ok (.iload_n 3, 1) := by decide +kernel
theorem d_Model_behindRoute_14 : decode prog_11_method_45_code 14 = .ok (.bipush 58, 2) := by decide +kernel
theorem d_Model_behindRoute_16 : decode prog_11_method_45_code 16 = .ok (.invokevirtual 200, 3) := by decide +kernel
theorem d_Model_behindRoute_19 : decode prog_11_method_45_code 19 = .ok (.ifCond .eq 7, 3) := by decide +kernel
theorem d_Model_behindRoute_22 : decode prog_11_method_45_code 22 = .ok (.iload_n 3, 1) := by decide +kernel
theorem d_Model_behindRoute_23 : decode prog_11_method_45_code 23 = .ok (.iconst 1, 1) := by decide +kernel
theorem d_Model_behindRoute_24 : decode prog_11_method_45_code 24 = .ok (.iadd, 1) := by decide +kernel
theorem d_Model_behindRoute_25 : decode prog_11_method_45_code 25 = .ok (.ireturn, 1) := by decide +kernel
theorem d_Model_behindRoute_26 : decode prog_11_method_45_code 26 = .ok (.aload_n 0, 1) := by decide +kernel
theorem d_Model_behindRoute_27 : decode prog_11_method_45_code 27 = .ok (.getfield 31, 3) := by decide +kernel
theorem d_Model_behindRoute_30 : decode prog_11_method_45_code 30 = .ok (.iload_n 3, 1) := by decide +kernel
theorem d_Model_behindRoute_31 : decode prog_11_method_45_code 31 = .ok (.iaload, 1) := by decide +kernel
theorem d_Model_behindRoute_32 : decode prog_11_method_45_code 32 = .ok (.iconst 4, 1) := by decide +kernel
theorem d_Model_behindRoute_33 : decode prog_11_method_45_code 33 = .ok (.if_icmp .eq 35, 3) := by decide +kernel
theorem d_Model_behindRoute_36 : decode prog_11_method_45_code 36 = .ok (.aload_n 0, 1) := by decide +kernel
theorem d_Model_behindRoute_37 : decode prog_11_method_45_code 37 = .ok (.iload_n 3, 1) := by decide +kernel
theorem d_Model_behindRoute_38 : decode prog_11_method_45_code 38 = .ok (.bipush 64, 2) := by decide +kernel
theorem d_Model_behindRoute_40 : decode prog_11_method_45_code 40 = .ok (.invokevirtual 200, 3) := by decide +kernel
theorem d_Model_behindRoute_43 : decode prog_11_method_45_code 43 = .ok (.ifCond .ne 25, 3) := by decide +kernel
theorem d_Model_behindRoute_46 : decode prog_11_method_45_code 46 = .ok (.aload_n 0, 1) := by decide +kernel
theorem d_Model_behindRoute_47 : decode prog_11_method_45_code 47 = .ok (.iload_n 3, 1) := by decide +kernel
theorem d_Model_behindRoute_48 : decode prog_11_method_45_code 48 = .ok (.bipush 44, 2) := by decide +kernel
theorem d_Model_behindRoute_50 : decode prog_11_method_45_code 50 = .ok (.invokevirtual 200, 3) := by decide +kernel
theorem d_Model_behindRoute_53 : decode prog_11_method_45_code 53 = .ok (.ifCond .ne 15, 3) := by decide +kernel
theorem d_Model_behindRoute_56 : decode prog_11_method_45_code 56 = .ok (.aload_n 0, 1) := by decide +kernel
theorem d_Model_behindRoute_57 : decode prog_11_method_45_code 57 = .ok (.iload_n 3, 1) := by decide +kernel
theorem d_Model_behindRoute_58 : decode prog_11_method_45_code 58 = .ok (.bipush 46, 2) := by decide +kernel
theorem d_Model_behindRoute_60 : decode prog_11_method_45_code 60 = .ok (.invokevirtual 200, 3) := by decide +kernel
theorem d_Model_behindRoute_63 : decode prog_11_method_45_code 63 = .ok (.ifCond .ne 5, 3) := by decide +kernel
theorem d_Model_behindRoute_66 : decode prog_11_method_45_code 66 = .ok (.iload_n 1, 1) := by decide +kernel
theorem d_Model_behindRoute_67 : decode prog_11_method_45_code 67 = .ok (.ireturn, 1) := by decide +kernel
theorem d_Model_behindRoute_68 : decode prog_11_method_45_code 68 = .ok (.aload_n 0, 1) := by decide +kernel
theorem d_Model_behindRoute_69 : decode prog_11_method_45_code 69 = .ok (.iload_n 3, 1) := by decide +kernel
theorem d_Model_behindRoute_70 : decode prog_11_method_45_code 70 = .ok (.iconst 1, 1) := by decide +kernel
theorem d_Model_behindRoute_71 : decode prog_11_method_45_code 71 = .ok (.iadd, 1) := by decide +kernel
theorem d_Model_behindRoute_72 : decode prog_11_method_45_code 72 = .ok (.iload_n 2, 1) := by decide +kernel
theorem d_Model_behindRoute_73 : decode prog_11_method_45_code 73 = .ok (.invokevirtual 197, 3) := by decide +kernel
theorem d_Model_behindRoute_76 : decode prog_11_method_45_code 76 = .ok (.istore_n 3, 1) := by decide +kernel
theorem d_Model_behindRoute_77 : decode prog_11_method_45_code 77 = .ok (.goto (-70), 3) := by decide +kernel
theorem d_Model_behindRoute_80 : decode prog_11_method_45_code 80 = .ok (.iload_n 1, 1) := by decide +kernel
theorem d_Model_behindRoute_81 : decode prog_11_method_45_code 81 = .ok (.ireturn, 1) := by decide +kernel
theorem d_Model_makeWords_0 : decode prog_11_method_43_code 0 = .ok (.aload_n 0, 1) := by decide +kernel
theorem d_Model_makeWords_1 : decode prog_11_method_43_code 1 = .ok (.iload_n 1, 1) := by decide +kernel
theorem d_Model_makeWords_2 : decode prog_11_method_43_code 2 = .ok (.invokevirtual 204, 3) := by decide +kernel
theorem d_Model_makeWords_5 : decode prog_11_method_43_code 5 = .ok (.aload_n 0, 1) := by decide +kernel
theorem d_Model_makeWords_6 : decode prog_11_method_43_code 6 = .ok (.iload_n 2, 1) := by decide +kernel
theorem d_Model_makeWords_7 : decode prog_11_method_43_code 7 = .ok (.iload_n 3, 1) := by decide +kernel
theorem d_Model_makeWords_8 : decode prog_11_method_43_code 8 = .ok (.invokevirtual 197, 3) := by decide +kernel
theorem d_Model_makeWords_11 : decode prog_11_method_43_code 11 = .ok (.istore 4, 2) := by decide +kernel
theorem d_Model_makeWords_13 : decode prog_11_method_43_code 13 = .ok (.iload 4, 2) := by decide +kernel
theorem d_Model_makeWords_15 : decode prog_11_method_43_code 15 = .ok (.iload_n 3, 1) := by decide +kernel
theorem d_Model_makeWords_16 : decode prog_11_method_43_code 16 = .ok (.if_icmp .ge 60, 3) := by decide +kernel
theorem d_Model_makeWords_19 : decode prog_11_method_43_code 19 = .ok (.aload_n 0, 1) := by decide +kernel
theorem d_Model_makeWords_20 : decode prog_11_method_43_code 20 = .ok (.getfield 31, 3) := by decide +kernel
theorem d_Model_makeWords_23 : decode prog_11_method_43_code 23 = .ok (.iload 4, 2) := by decide +kernel
theorem d_Model_makeWords_25 : decode prog_11_method_43_code 25 = .ok (.iaload, 1) := by decide +kernel
theorem d_Model_makeWords_26 : decode prog_11_method_43_code 26 = .ok (.iconst 2, 1) := by decide +kernel
theorem d_Model_makeWords_27 : decode prog_11_method_43_code 27 = .ok (.if_icmp .ne 10, 3) := by decide +kernel
theorem d_Model_makeWords_30 : decode prog_11_method_43_code 30 = .ok (.aload_n 0, 1) := by decide +kernel
theorem d_Model_makeWords_31 : decode prog_11_method_43_code 31 = .ok (.iload_n 1, 1) := by decide +kernel
theorem d_Model_makeWords_32 : decode prog_11_method_43_code 32 = .ok (.bipush 91, 2) := by decide +kernel
theorem d_Model_makeWords_34 : decode prog_11_method_43_code 34 = .ok (.invokevirtual 191, 3) := by decide +kernel
theorem d_Model_makeWords_37 : decode prog_11_method_43_code 37 = .ok (.aload_n 0, 1) := by decide +kernel
theorem d_Model_makeWords_38 : decode prog_11_method_43_code 38 = .ok (.iload_n 1, 1) := by decide +kernel
theorem d_Model_makeWords_39 : decode prog_11_method_43_code 39 = .ok (.iload 4, 2) := by decide +kernel
theorem d_Model_makeWords_41 : decode prog_11_method_43_code 41 = .ok (.invokevirtual 207, 3) := by decide +kernel
theorem d_Model_makeWords_44 : decode prog_11_method_43_code 44 = .ok (.aload_n 0, 1) := by decide +kernel
theorem d_Model_makeWords_45 : decode prog_11_method_43_code 45 = .ok (.getfield 31, 3) := by decide +kernel
theorem d_Model_makeWords_48 : decode prog_11_method_43_code 48 = .ok (.iload 4, 2) := by decide +kernel
theorem d_Model_makeWords_50 : decode prog_11_method_43_code 50 = .ok (.iaload, 1) := by decide +kernel
theorem d_Model_makeWords_51 : decode prog_11_method_43_code 51 = .ok (.iconst 2, 1) := by decide +kernel
theorem d_Model_makeWords_52 : decode prog_11_method_43_code 52 = .ok (.if_icmp .ne 10, 3) := by decide +kernel
theorem d_Model_makeWords_55 : decode prog_11_method_43_code 55 = .ok (.aload_n 0, 1) := by decide +kernel
theorem d_Model_makeWords_56 : decode prog_11_method_43_code 56 = .ok (.iload_n 1, 1) := by decide +kernel
theorem d_Model_makeWords_57 : decode prog_11_method_43_code 57 = .ok (.bipush 93, 2) := by decide +kernel
theorem d_Model_makeWords_59 : decode prog_11_method_43_code 59 = .ok (.invokevirtual 191, 3) := by decide +kernel
theorem d_Model_makeWords_62 : decode prog_11_method_43_code 62 = .ok (.aload_n 0, 1) := by decide +kernel
theorem d_Model_makeWords_63 : decode prog_11_method_43_code 63 = .ok (.iload 4, 2) := by decide +kernel
theorem d_Model_makeWords_65 : decode prog_11_method_43_code 65 = .ok (.iconst 1, 1) := by decide +kernel
theorem d_Model_makeWords_66 : decode prog_11_method_43_code 66 = .ok (.iadd, 1) := by decide +kernel
theorem d_Model_makeWords_67 : decode prog_11_method_43_code 67 = .ok (.iload_n 3, 1) := by decide +kernel
theorem d_Model_makeWords_68 : decode prog_11_method_43_code 68 = .ok (.invokevirtual 197, 3) := by decide +kernel
theorem d_Model_makeWords_71 : decode prog_11_method_43_code 71 = .ok (.istore 4, 2) := by decide +kernel
theorem d_Model_makeWords_73 : decode prog_11_method_43_code 73 = .ok (.goto (-60), 3) := by decide +kernel
theorem d_Model_makeWords_76 : decode prog_11_method_43_code 76 = .ok (.aload_n 0, 1) := by decide +kernel
theorem d_Model_makeWords_77 : decode prog_11_method_43_code 77 = .ok (.iload_n 1, 1) := by decide +kernel
theorem d_Model_makeWords_78 : decode prog_11_method_43_code 78 = .ok (.invokevirtual 210, 3) := by decide +kernel
theorem d_Model_makeWords_81 : decode prog_11_method_43_code 81 = .ok (.return_, 1) := by decide +kernel
theorem d_Model_makeComment_0 : decode prog_11_method_44_code 0 = .ok (.iconst (-1), 1) := by decide +kernel
theorem d_Model_makeComment_1 : decode prog_11_method_44_code 1 = .ok (.istore_n 3, 1) := by decide +kernel
theorem d_Model_makeComment_2 : decode prog_11_method_44_code 2 = .ok (.aload_n 0, 1) := by decide +kernel
theorem d_Model_makeComment_3 : decode prog_11_method_44_code 3 = .ok (.iload_n 1, 1) := by decide +kernel
theorem d_Model_makeComment_4 : decode prog_11_method_44_code 4 = .ok (.iload_n 2, 1) := by decide +kernel
theorem d_Model_makeComment_5 : decode prog_11_method_44_code 5 = .ok (.invokevirtual 197, 3) := by decide +kernel
theorem d_Model_makeComment_8 : decode prog_11_method_44_code 8 = .ok (.iconst 1, 1) := by decide +kernel
theorem d_Model_makeComment_9 : decode prog_11_method_44_code 9 = .ok (.iadd, 1) := by decide +kernel
theorem d_Model_makeComment_10 : decode prog_11_method_44_code 10 = .ok (.istore 4, 2) := by decide +kernel
theorem d_Model_makeComment_12 : decode prog_11_method_44_code 12 = .ok (.iload 4, 2) := by decide +kernel
theorem d_Model_makeComment_14 : decode prog_11_method_44_code 14 = .ok (.iload_n 2, 1) := by decide +kernel
theorem d_Model_makeComment_15 : decode prog_11_method_44_code 15 = .ok (.if_icmp .ge 22, 3) := by decide +kernel
theorem d_Model_makeComment_18 : decode prog_11_method_44_code 18 = .ok (.aload_n 0, 1) := by decide +kernel
theorem d_Model_makeComment_19 : decode prog_11_method_44_code 19 = .ok (.getfield 31, 3) := by decide +kernel
theorem d_Model_makeComment_22 : decode prog_11_method_44_code 22 = .ok (.iload 4, 2) := by decide +kernel
theorem d_Model_makeComment_24 : decode prog_11_method_44_code 24 = .ok (.iaload, 1) := by decide +kernel
theorem d_Model_makeComment_25 : decode prog_11_method_44_code 25 = .ok (.ifCond .ne 6, 3) := by decide +kernel
theorem d_Model_makeComment_28 : decode prog_11_method_44_code 28 = .ok (.iload 4, 2) := by decide +kernel
theorem d_Model_makeComment_30 : decode prog_11_method_44_code 30 = .ok (.istore_n 3, 1) := by decide +kernel
theorem d_Model_makeComment_31 : decode prog_11_method_44_code 31 = .ok (.iinc 4 1, 3) := by decide +kernel
theorem d_Model_makeComment_34 : decode prog_11_method_44_code 34 = .ok (.goto (-22), 3) := by decide +kernel
theorem d_Model_makeComment_37 : decode prog_11_method_44_code 37 = .ok (.aload_n 0, 1) := by decide +kernel
theorem d_Model_makeComment_38 : decode prog_11_method_44_code 38 = .ok (.iconst 0, 1) := by decide +kernel
theorem d_Model_makeComment_39 : decode prog_11_method_44_code 39 = .ok (.invokevirtual 204, 3) := by decide +kernel
theorem d_Model_makeComment_42 : decode prog_11_method_44_code 42 = .ok (.iload_n 3, 1) := by decide +kernel
theorem d_Model_makeComment_43 : decode prog_11_method_44_code 43 = .ok (.iconst (-1), 1) := by decide +kernel
theorem d_Model_makeComment_44 : decode prog_11_method_44_code 44 = .ok (.if_icmp .eq 9, 3) := by decide +kernel
theorem d_Model_makeComment_47 : decode prog_11_method_44_code 47 = .ok (.aload_n 0, 1) := by decide +kernel
theorem d_Model_makeComment_48 : decode prog_11_method_44_code 48 = .ok (.iconst 0, 1) := by decide +kernel
theorem d_Model_makeComment_49 : decode prog_11_method_44_code 49 = .ok (.iload_n 3, 1) := by decide +kernel
theorem d_Model_makeComment_50 : decode prog_11_method_44_code 50 = .ok (.invokevirtual 207, 3) := by decide +kernel
theorem d_Model_makeComment_53 : decode prog_11_method_44_code 53 = .ok (.aload_n 0, 1) := by decide +kernel
theorem d_Model_makeComment_54 : decode prog_11_method_44_code 54 = .ok (.iconst 0, 1) := by decide +kernel
theorem d_Model_makeComment_55 : decode prog_11_method_44_code 55 = .ok (.invokevirtual 210, 3) := by decide +kernel
theorem d_Model_makeComment_58 : decode prog_11_method_44_code 58 = .ok (.return_, 1) := by decide +kernel
theorem d_Model_takeMailbox_0 : decode prog_11_method_46_code 0 = .ok (.aload_n 0, 1) := by decide +kernel
theorem d_Model_takeMailbox_1 : decode prog_11_method_46_code 1 = .ok (.iload_n 1, 1) := by decide +kernel
theorem d_Model_takeMailbox_2 : decode prog_11_method_46_code 2 = .ok (.iload_n 2, 1) := by decide +kernel
theorem d_Model_takeMailbox_3 : decode prog_11_method_46_code 3 = .ok (.invokevirtual 197, 3) := by decide +kernel
theorem d_Model_takeMailbox_6 : decode prog_11_method_46_code 6 = .ok (.iload_n 2, 1) := by decide +kernel
theorem d_Model_takeMailbox_7 : decode prog_11_method_46_code 7 = .ok (.if_icmp .ne 4, 3) := by decide +kernel
theorem d_Model_takeMailbox_10 : decode prog_11_method_46_code 10 = .ok (.return_, 1) := by decide +kernel
theorem d_Model_takeMailbox_11 : decode prog_11_method_46_code 11 = .ok (.iload_n 1, 1) := by decide +kernel
theorem d_Model_takeMailbox_12 : decode prog_11_method_46_code 12 = .ok (.istore 5, 2) := by decide +kernel
theorem d_Model_takeMailbox_14 : decode prog_11_method_46_code 14 = .ok (.iload 5, 2) := by decide +kernel
theorem d_Model_takeMailbox_16 : decode prog_11_method_46_code 16 = .ok (.iload_n 2, 1) := by decide +kernel
theorem d_Model_takeMailbox_17 : decode prog_11_method_46_code 17 = .ok (.if_icmp .ge 20, 3) := by decide +kernel
theorem d_Model_takeMailbox_20 : decode prog_11_method_46_code 20 = .ok (.aload_n 0, 1) := by decide +kernel
theorem d_Model_takeMailbox_21 : decode prog_11_method_46_code 21 = .ok (.iload 5, 2) := by decide +kernel
theorem d_Model_takeMailbox_23 : decode prog_11_method_46_code 23 = .ok (.bipush 60, 2) := by decide +kernel
theorem d_Model_takeMailbox_25 : decode prog_11_method_46_code 25 = .ok (.invokevirtual 200, 3) := by decide +kernel
theorem d_Model_takeMailbox_28 : decode prog_11_method_46_code 28 = .ok (.ifCond .ne 9, 3) := by decide +kernel
theorem d_Model_takeMailbox_31 : decode prog_11_method_46_code 31 = .ok (.iinc 5 1, 3) := by decide +kernel
theorem d_Model_takeMailbox_34 : decode prog_11_method_46_code 34 = .ok (.goto (-20), 3) := by decide +kernel
theorem d_Model_takeMailbox_37 : decode prog_11_method_46_code 37 = .ok (.iload_n 3, 1) := by decide +kernel
theorem d_Model_takeMailbox_38 : decode prog_11_method_46_code 38 = .ok (.ifCond .eq 14, 3) := by decide +kernel
theorem d_Model_takeMailbox_41 : decode prog_11_method_46_code 41 = .ok (.aload_n 0, 1) := by decide +kernel
theorem d_Model_takeMailbox_42 : decode prog_11_method_46_code 42 = .ok (.dup, 1) := by decide +kernel
theorem d_Model_takeMailbox_43 : decode prog_11_method_46_code 43 = .ok (.getfield 227, 3) := by decide +kernel
theorem d_Model_takeMailbox_46 : decode prog_11_method_46_code 46 = .ok (.iconst 1, 1) := by decide +kernel
theorem d_Model_takeMailbox_47 : decode prog_11_method_46_code 47 = .ok (.iadd, 1) := by decide +kernel
theorem d_Model_takeMailbox_48 : decode prog_11_method_46_code 48 = .ok (.putfield 227, 3) := by decide +kernel
theorem d_Model_takeMailbox_51 : decode prog_11_method_46_code 51 = .ok (.return_, 1) := by decide +kernel
theorem d_Model_takeMailbox_52 : decode prog_11_method_46_code 52 = .ok (.iload_n 1, 1) := by decide +kernel
theorem d_Model_takeMailbox_53 : decode prog_11_method_46_code 53 = .ok (.istore 6, 2) := by decide +kernel
theorem d_Model_takeMailbox_55 : decode prog_11_method_46_code 55 = .ok (.iload_n 2, 1) := by decide +kernel
theorem d_Model_takeMailbox_56 : decode prog_11_method_46_code 56 = .ok (.istore 7, 2) := by decide +kernel
theorem d_Model_takeMailbox_58 : decode prog_11_method_46_code 58 = .ok (.iconst 1, 1) := by decide +kernel
theorem d_Model_takeMailbox_59 : decode prog_11_method_46_code 59 = .ok (.istore 8, 2) := by decide +kernel
theorem d_Model_takeMailbox_61 : decode prog_11_method_46_code 61 = .ok (.iload 5, 2) := by decide +kernel
theorem d_Model_takeMailbox_63 : decode prog_11_method_46_code 63 = .ok (.iload_n 2, 1) := by decide +kernel
theorem d_Model_takeMailbox_64 : decode prog_11_method_46_code 64 = .ok (.if_icmp .ge 82, 3) := by decide +kernel
theorem d_Model_takeMailbox_67 : decode prog_11_method_46_code 67 = .ok (.iload 5, 2) := by decide +kernel
theorem d_Model_takeMailbox_69 : decode prog_11_method_46_code 69 = .ok (.istore 9, 2) := by decide +kernel
theorem d_Model_takeMailbox_71 : decode prog_11_method_46_code 71 = .ok (.aload_n 0, 1) := by decide +kernel
theorem d_Model_takeMailbox_72 : decode prog_11_method_46_code 72 = .ok (.iload 9, 2) := by decide +kernel
theorem d_Model_takeMailbox_74 : decode prog_11_method_46_code 74 = .ok (.bipush 62, 2) := by decide +kernel
theorem d_Model_takeMailbox_76 : decode prog_11_method_46_code 76 = .ok (.invokevirtual 200, 3) := by decide +kernel
theorem d_Model_takeMailbox_79 : decode prog_11_method_46_code 79 = .ok (.ifCond .ne 9, 3) := by decide +kernel
theorem d_Model_takeMailbox_82 : decode prog_11_method_46_code 82 = .ok (.iinc 9 1, 3) := by decide +kernel
theorem d_Model_takeMailbox_85 : decode prog_11_method_46_code 85 = .ok (.goto (-14), 3) := by decide +kernel
theorem d_Model_takeMailbox_88 : decode prog_11_method_46_code 88 = .ok (.aload_n 0, 1) := by decide +kernel
theorem d_Model_takeMailbox_89 : decode prog_11_method_46_code 89 = .ok (.iload 5, 2) := by decide +kernel
theorem d_Model_takeMailbox_91 : decode prog_11_method_46_code 91 = .ok (.iconst 1, 1) := by decide +kernel
theorem d_Model_takeMailbox_92 : decode prog_11_method_46_code 92 = .ok (.iadd, 1) := by decide +kernel
theorem d_Model_takeMailbox_93 : decode prog_11_method_46_code 93 = .ok (.iload 9, 2) := by decide +kernel
theorem d_Model_takeMailbox_95 : decode prog_11_method_46_code 95 = .ok (.invokevirtual 230, 3) := by decide +kernel
theorem d_Model_takeMailbox_98 : decode prog_11_method_46_code 98 = .ok (.istore 6, 2) := by decide +kernel
theorem d_Model_takeMailbox_100 : decode prog_11_method_46_code 100 = .ok (.iload 9, 2) := by decide +kernel
theorem d_Model_takeMailbox_102 : decode prog_11_method_46_code 102 = .ok (.istore 7, 2) := by decide +kernel
theorem d_Model_takeMailbox_104 : decode prog_11_method_46_code 104 = .ok (.aload_n 0, 1) := by decide +kernel
theorem d_Model_takeMailbox_105 : decode prog_11_method_46_code 105 = .ok (.iload 9, 2) := by decide +kernel
theorem d_Model_takeMailbox_107 : decode prog_11_method_46_code 107 = .ok (.iconst 1, 1) := by decide +kernel
theorem d_Model_takeMailbox_108 : decode prog_11_method_46_code 108 = .ok (.iadd, 1) := by decide +kernel
theorem d_Model_takeMailbox_109 : decode prog_11_method_46_code 109 = .ok (.iload_n 2, 1) := by decide +kernel
theorem d_Model_takeMailbox_110 : decode prog_11_method_46_code 110 = .ok (.invokevirtual 197, 3) := by decide +kernel
theorem d_Model_takeMailbox_113 : decode prog_11_method_46_code 113 = .ok (.iload_n 2, 1) := by decide +kernel
theorem d_Model_takeMailbox_114 : decode prog_11_method_46_code 114 = .ok (.if_icmp .ne 29, 3) := by decide +kernel
theorem d_Model_takeMailbox_117 : decode prog_11_method_46_code 117 = .ok (.aload_n 0, 1) := by decide +kernel
theorem d_Model_takeMailbox_118 : decode prog_11_method_46_code 118 = .ok (.iload_n 1, 1) := by decide +kernel
theorem d_Model_takeMailbox_119 : decode prog_11_method_46_code 119 = .ok (.iload 5, 2) := by decide +kernel
theorem d_Model_takeMailbox_121 : decode prog_11_method_46_code 121 = .ok (.invokevirtual 197, 3) := by decide +kernel
theorem d_Model_takeMailbox_124 : decode prog_11_method_46_code 124 = .ok (.iload 5, 2) := by decide +kernel
theorem d_Model_takeMailbox_126 : decode prog_11_method_46_code 126 = .ok (.if_icmp .eq 13, 3) := by decide +kernel
theorem d_Model_takeMailbox_129 : decode prog_11_method_46_code 129 = .ok (.aload_n 0, 1) := by decide +kernel
theorem d_Model_takeMailbox_130 : decode prog_11_method_46_code 130 = .ok (.iload_n 1, 1) := by decide +kernel
theorem d_Model_takeMailbox_131 : decode prog_11_method_46_code 131 = .ok (.iload 5, 2) := by decide +kernel
theorem d_Model_takeMailbox_133 : decode prog_11_method_46_code 133 = .ok (.invokevirtual 233, 3) := by decide +kernel
theorem d_Model_takeMailbox_136 : decode prog_11_method_46_code 136 = .ok (.ifCond .eq 7, 3) := by decide +kernel
theorem d_Model_takeMailbox_139 : decode prog_11_method_46_code 139 = .ok (.iconst 1, 1) := by decide +kernel
theorem d_Model_takeMailbox_140 : decode prog_11_method_46_code 140 = .ok (.goto 4, 3) := by decide +kernel
theorem d_Model_takeMailbox_143 : decode prog_11_method_46_code 143 = .ok (.iconst 0, 1) := by decide +kernel
theorem d_Model_takeMailbox_144 : decode prog_11_method_46_code 144 = .ok (.istore 8, 2) := by decide +kernel
theorem d_Model_takeMailbox_146 : decode prog_11_method_46_code 146 = .ok (.iload 8, 2) := by decide +kernel
theorem d_Model_takeMailbox_148 : decode prog_11_method_46_code 148 = .ok (.ifCond .eq 14, 3) := by decide +kernel
theorem d_Model_takeMailbox_151 : decode prog_11_method_46_code 151 = .ok (.aload_n 0, 1) := by decide +kernel
theorem d_Model_takeMailbox_152 : decode prog_11_method_46_code 152 = .ok (.iload 6, 2) := by decide +kernel
theorem d_Model_takeMailbox_154 : decode prog_11_method_46_code 154 = .ok (.iload 7, 2) := by decide +kernel
theorem d_Model_takeMailbox_156 : decode prog_11_method_46_code 156 = .ok (.invokevirtual 236, 3) := by decide +kernel
theorem d_Model_takeMailbox_159 : decode prog_11_method_46_code 159 = .ok (.ifCond .ne 14, 3) := by decide +kernel
theorem d_Model_takeMailbox_162 : decode prog_11_method_46_code 162 = .ok (.aload_n 0, 1) := by decide +kernel
theorem d_Model_takeMailbox_163 : decode prog_11_method_46_code 163 = .ok (.dup, 1) := by decide +kernel
theorem d_Model_takeMailbox_164 : decode prog_11_method_46_code 164 = .ok (.getfield 227, 3) := by decide +kernel
theorem d_Model_takeMailbox_167 : decode prog_11_method_46_code 167 = .ok (.iconst 1, 1) := by decide +kernel
theorem d_Model_takeMailbox_168 : decode prog_11_method_46_code 168 = .ok (.iadd, 1) := by decide +kernel
theorem d_Model_takeMailbox_169 : decode prog_11_method_46_code 169 = .ok (.putfield 227, 3) := by decide +kernel
theorem d_Model_takeMailbox_172 : decode prog_11_method_46_code 172 = .ok (.return_, 1) := by decide +kernel
theorem d_Model_takeMailbox_173 : decode prog_11_method_46_code 173 = .ok (.aload_n 0, 1) := by decide +kernel
theorem d_Model_takeMailbox_174 : decode prog_11_method_46_code 174 = .ok (.getfield 221, 3) := by decide +kernel
theorem d_Model_takeMailbox_177 : decode prog_11_method_46_code 177 = .ok (.istore 9, 2) := by decide +kernel
theorem d_Model_takeMailbox_179 : decode prog_11_method_46_code 179 = .ok (.aload_n 0, 1) := by decide +kernel
theorem d_Model_takeMailbox_180 : decode prog_11_method_46_code 180 = .ok (.getfield 224, 3) := by decide +kernel
theorem d_Model_takeMailbox_183 : decode prog_11_method_46_code 183 = .ok (.istore 10, 2) := by decide +kernel
theorem d_Model_takeMailbox_185 : decode prog_11_method_46_code 185 = .ok (.iload 5, 2) := by decide +kernel
theorem d_Model_takeMailbox_187 : decode prog_11_method_46_code 187 = .ok (.iload_n 2, 1) := by decide +kernel
theorem d_Model_takeMailbox_188 : decode prog_11_method_46_code 188 = .ok (.if_icmp .ge 26, 3) := by decide +kernel
theorem d_Model_takeMailbox_191 : decode prog_11_method_46_code 191 = .ok (.aload_n 0, 1) := by decide +kernel
theorem d_Model_takeMailbox_192 : decode prog_11_method_46_code 192 = .ok (.iload_n 1, 1) := by decide +kernel
theorem d_Model_takeMailbox_193 : decode prog_11_method_46_code 193 = .ok (.iload 5, 2) := by decide +kernel
theorem d_Model_takeMailbox_195 : decode prog_11_method_46_code 195 = .ok (.invokevirtual 197, 3) := by decide +kernel
theorem d_Model_takeMailbox_198 : decode prog_11_method_46_code 198 = .ok (.iload 5, 2) := by decide +kernel
theorem d_Model_takeMailbox_200 : decode prog_11_method_46_code 200 = .ok (.if_icmp .ge 14, 3) := by decide +kernel
theorem d_Model_takeMailbox_203 : decode prog_11_method_46_code 203 = .ok (.aload_n 0, 1) := by decide +kernel
theorem d_Model_takeMailbox_204 : decode prog_11_method_46_code 204 = .ok (.iconst 0, 1) := by decide +kernel
theorem d_Model_takeMailbox_205 : decode prog_11_method_46_code 205 = .ok (.iload_n 1, 1) := by decide +kernel
theorem d_Model_takeMailbox_206 : decode prog_11_method_46_code 206 = .ok (.iload 5, 2) := by decide +kernel
theorem d_Model_takeMailbox_208 : decode prog_11_method_46_code 208 = .ok (.invokevirtual 239, 3) := by decide +kernel
theorem d_Model_takeMailbox_211 : decode prog_11_method_46_code 211 = .ok (.goto 9, 3) := by decide +kernel
theorem d_Model_takeMailbox_214 : decode prog_11_method_46_code 214 = .ok (.aload_n 0, 1) := by decide +kernel
theorem d_Model_takeMailbox_215 : decode prog_11_method_46_code 215 = .ok (.iload_n 1, 1) := by decide +kernel
theorem d_Model_takeMailbox_216 : decode prog_11_method_46_code 216 = .ok (.iload_n 2, 1) := by decide +kernel
theorem d_Model_takeMailbox_217 : decode prog_11_method_46_code 217 = .ok (.invokevirtual 242, 3) := by decide +kernel
theorem d_Model_takeMailbox_220 : decode prog_11_method_46_code 220 = .ok (.aload_n 0, 1) := by decide +kernel
theorem d_Model_takeMailbox_221 : decode prog_11_method_46_code 221 = .ok (.getfield 61, 3) := by decide +kernel
theorem d_Model_takeMailbox_224 : decode prog_11_method_46_code 224 = .ok (.aload_n 0, 1) := by decide +kernel
theorem d_Model_takeMailbox_225 : decode prog_11_method_46_code 225 = .ok (.getfield 52, 3) := by decide +kernel
theorem d_Model_takeMailbox_228 : decode prog_11_method_46_code 228 = .ok (.iconst 1, 1) := by decide +kernel
theorem d_Model_takeMailbox_229 : decode prog_11_method_46_code 229 = .ok (.iaload, 1) := by decide +kernel
theorem d_Model_takeMailbox_230 : decode prog_11_method_46_code 230 = .ok (.iload 4, 2) := by decide +kernel
theorem d_Model_takeMailbox_232 : decode prog_11_method_46_code 232 = .ok (.iastore, 1) := by decide +kernel
theorem d_Model_takeMailbox_233 : decode prog_11_method_46_code 233 = .ok (.aload_n 0, 1) := by decide +kernel
theorem d_Model_takeMailbox_234 : decode prog_11_method_46_code 234 = .ok (.iconst 1, 1) := by decide +kernel
theorem d_Model_takeMailbox_235 : decode prog_11_method_46_code 235 = .ok (.iload 6, 2) := by decide +kernel
theorem d_Model_takeMailbox_237 : decode prog_11_method_46_code 237 = .ok (.iload 9, 2) := by decide +kernel
theorem d_Model_takeMailbox_239 : decode prog_11_method_46_code 239 = .ok (.invokevirtual 245, 3) := by decide +kernel
theorem d_Model_takeMailbox_242 : decode prog_11_method_46_code 242 = .ok (.aload_n 0, 1) := by decide +kernel
theorem d_Model_takeMailbox_243 : decode prog_11_method_46_code 243 = .ok (.iconst 2, 1) := by decide +kernel
theorem d_Model_takeMailbox_244 : decode prog_11_method_46_code 244 = .ok (.iload 10, 2) := by decide +kernel
theorem d_Model_takeMailbox_246 : decode prog_11_method_46_code 246 = .ok (.iload 7, 2) := by decide +kernel
theorem d_Model_takeMailbox_248 : decode prog_11_method_46_code 248 = .ok (.invokevirtual 245, 3) := by decide +kernel
theorem d_Model_takeMailbox_251 : decode prog_11_method_46_code 251 = .ok (.return_, 1) := by decide +kernel
theorem d_Model_addresses_0 : decode prog_11_method_48_code 0 = .ok (.aload_n 0, 1) := by decide +kernel
theorem d_Model_addresses_1 : decode prog_11_method_48_code 1 = .ok (.aload_n 0, 1) := by decide +kernel
theorem d_Model_addresses_2 : decode prog_11_method_48_code 2 = .ok (.iload_n 1, 1) := by decide +kernel
theorem d_Model_addresses_3 : decode prog_11_method_48_code 3 = .ok (.invokevirtual 137, 3) := by decide +kernel
theorem d_Model_addresses_6 : decode prog_11_method_48_code 6 = .ok (.ifCond .eq 7, 3) := by decide +kernel
theorem d_Model_addresses_9 : decode prog_11_method_48_code 9 = .ok (.iconst 0, 1) := by decide +kernel
theorem d_Model_addresses_10 : decode prog_11_method_48_code 10 = .ok (.goto 4, 3) := by decide +kernel
theorem d_Model_addresses_13 : decode prog_11_method_48_code 13 = .ok (.iconst 1, 1) := by decide +kernel
theorem d_Model_addresses_14 : decode prog_11_method_48_code 14 = .ok (.putfield 99, 3) := by decide +kernel
theorem d_Model_addresses_17 : decode prog_11_method_48_code 17 = .ok (.aload_n 0, 1) := by decide +kernel
theorem d_Model_addresses_18 : decode prog_11_method_48_code 18 = .ok (.getfield 99, 3) := by decide +kernel
theorem d_Model_addresses_21 : decode prog_11_method_48_code 21 = .ok (.ifCond .eq 5, 3) := by decide +kernel
theorem d_Model_addresses_24 : decode prog_11_method_48_code 24 = .ok (.iconst 0, 1) := by decide +kernel
theorem d_Model_addresses_25 : decode prog_11_method_48_code 25 = .ok (.ireturn, 1) := by decide +kernel
theorem d_Model_addresses_26 : decode prog_11_method_48_code 26 = .ok (.aload_n 0, 1) := by decide +kernel
theorem d_Model_addresses_27 : decode prog_11_method_48_code 27 = .ok (.iload_n 1, 1) := by decide +kernel
theorem d_Model_addresses_28 : decode prog_11_method_48_code 28 = .ok (.iconst 0, 1) := by decide +kernel
theorem d_Model_addresses_29 : decode prog_11_method_48_code 29 = .ok (.invokevirtual 251, 3) := by decide +kernel
theorem d_Model_addresses_32 : decode prog_11_method_48_code 32 = .ok (.aload_n 0, 1) := by decide +kernel
theorem d_Model_addresses_33 : decode prog_11_method_48_code 33 = .ok (.iconst 0, 1) := by decide +kernel
theorem d_Model_addresses_34 : decode prog_11_method_48_code 34 = .ok (.iconst 3, 1) := by decide +kernel
theorem d_Model_addresses_35 : decode prog_11_method_48_code 35 = .ok (.iconst 0, 1) := by decide +kernel
theorem d_Model_addresses_36 : decode prog_11_method_48_code 36 = .ok (.invokevirtual 255, 3) := by decide +kernel
theorem d_Model_addresses_39 : decode prog_11_method_48_code 39 = .ok (.aload_n 0, 1) := by decide +kernel
theorem d_Model_addresses_40 : decode prog_11_method_48_code 40 = .ok (.iconst 0, 1) := by decide +kernel
theorem d_Model_addresses_41 : decode prog_11_method_48_code 41 = .ok (.putfield 248, 3) := by decide +kernel
theorem d_Model_addresses_44 : decode prog_11_method_48_code 44 = .ok (.aload_n 0, 1) := by decide +kernel
theorem d_Model_addresses_45 : decode prog_11_method_48_code 45 = .ok (.iconst 0, 1) := by decide +kernel
theorem d_Model_addresses_46 : decode prog_11_method_48_code 46 = .ok (.putfield 227, 3) := by decide +kernel
theorem d_Model_addresses_49 : decode prog_11_method_48_code 49 = .ok (.iconst (-1), 1) := by decide +kernel
theorem d_Model_addresses_50 : decode prog_11_method_48_code 50 = .ok (.istore_n 2, 1) := by decide +kernel
theorem d_Model_addresses_51 : decode prog_11_method_48_code 51 = .ok (.iconst 0, 1) := by decide +kernel
theorem d_Model_addresses_52 : decode prog_11_method_48_code 52 = .ok (.istore_n 3, 1) := by decide +kernel
theorem d_Model_addresses_53 : decode prog_11_method_48_code 53 = .ok (.iconst 0, 1) := by decide +kernel
theorem d_Model_addresses_54 : decode prog_11_method_48_code 54 = .ok (.istore 4, 2) := by decide +kernel
theorem d_Model_addresses_56 : decode prog_11_method_48_code 56 = .ok (.iconst 0, 1) := by decide +kernel
theorem d_Model_addresses_57 : decode prog_11_method_48_code 57 = .ok (.istore 5, 2) := by decide +kernel
theorem d_Model_addresses_59 : decode prog_11_method_48_code 59 = .ok (.iload 5, 2) := by decide +kernel
theorem d_Model_addresses_61 : decode prog_11_method_48_code 61 = .ok (.aload_n 0, 1) := by decide +kernel
theorem d_Model_addresses_62 : decode prog_11_method_48_code 62 = .ok (.getfield 149, 3) := by decide +kernel
theorem d_Model_addresses_65 : decode prog_11_method_48_code 65 = .ok (.if_icmp .gt 226, 3) := by decide +kernel
theorem d_Model_addresses_68 : decode prog_11_method_48_code 68 = .ok (.iload 5, 2) := by decide +kernel
theorem d_Model_addresses_70 : decode prog_11_method_48_code 70 = .ok (.aload_n 0, 1) := by decide +kernel
theorem d_Model_addresses_71 : decode prog_11_method_48_code 71 = .ok (.getfield 149, 3) := by decide +kernel
theorem d_Model_addresses_74 : decode prog_11_method_48_code 74 = .ok (.if_icmp .ne 7, 3) := by decide +kernel
theorem d_Model_addresses_77 : decode prog_11_method_48_code 77 = .ok (.iconst 1, 1) := by decide +kernel
theorem d_Model_addresses_78 : decode prog_11_method_48_code 78 = .ok (.goto 4, 3) := by decide +kernel
theorem d_Model_addresses_81 : decode prog_11_method_48_code 81 = .ok (.iconst 0, 1) := by decide +kernel
theorem d_Model_addresses_82 : decode prog_11_method_48_code 82 = .ok (.istore 6, 2) := by decide +kernel
theorem d_Model_addresses_84 : decode prog_11_method_48_code 84 = .ok (.iload 6, 2) := by decide +kernel
theorem d_Model_addresses_86 : decode prog_11_method_48_code 86 = .ok (.ifCond .ne 25, 3) := by decide +kernel
theorem d_Model_addresses_89 : decode prog_11_method_48_code 89 = .ok (.aload_n 0, 1) := by decide +kernel
theorem d_Model_addresses_90 : decode prog_11_method_48_code 90 = .ok (.iload 5, 2) := by decide +kernel
theorem d_Model_addresses_92 : decode prog_11_method_48_code 92 = .ok (.bipush 60, 2) := by decide +kernel
theorem d_Model_addresses_94 : decode prog_11_method_48_code 94 = .ok (.invokevirtual 200, 3) := by decide +kernel
theorem d_Model_addresses_97 : decode prog_11_method_48_code 97 = .ok (.ifCond .eq 14, 3) := by decide +kernel
theorem d_Model_addresses_100 : decode prog_11_method_48_code 100 = .ok (.iload 4, 2) := by decide +kernel
theorem d_Model_addresses_102 : decode prog_11_method_48_code 102 = .ok (.ifCond .ne 9, 3) := by decide +kernel
theorem d_Model_addresses_105 : decode prog_11_method_48_code 105 = .ok (.iconst 1, 1) := by decide +kernel
theorem d_Model_addresses_106 : decode prog_11_method_48_code 106 = .ok (.istore 4, 2) := by decide +kernel
theorem d_Model_addresses_108 : decode prog_11_method_48_code 108 = .ok (.goto 22, 3) := by decide +kernel
theorem d_Model_addresses_111 : decode prog_11_method_48_code 111 = .ok (.iload 6, 2) := by decide +kernel
theorem d_Model_addresses_113 : decode prog_11_method_48_code 113 = .ok (.ifCond .ne 17, 3) := by decide +kernel
theorem d_Model_addresses_116 : decode prog_11_method_48_code 116 = .ok (.aload_n 0, 1) := by decide +kernel
theorem d_Model_addresses_117 : decode prog_11_method_48_code 117 = .ok (.iload 5, 2) := by decide +kernel
theorem d_Model_addresses_119 : decode prog_11_method_48_code 119 = .ok (.bipush 62, 2) := by decide +kernel
theorem d_Model_addresses_121 : decode prog_11_method_48_code 121 = .ok (.invokevirtual 200, 3) := by decide +kernel
theorem d_Model_addresses_124 : decode prog_11_method_48_code 124 = .ok (.ifCond .eq 6, 3) := by decide +kernel
theorem d_Model_addresses_127 : decode prog_11_method_48_code 127 = .ok (.iconst 0, 1) := by decide +kernel
theorem d_Model_addresses_128 : decode prog_11_method_48_code 128 = .ok (.istore 4, 2) := by decide +kernel
theorem d_Model_addresses_130 : decode prog_11_method_48_code 130 = .ok (.iload 6, 2) := by decide +kernel
theorem d_Model_addresses_132 : decode prog_11_method_48_code 132 = .ok (.ifCond .ne 23, 3) := by decide +kernel
theorem d_Model_addresses_135 : decode prog_11_method_48_code 135 = .ok (.iload 4, 2) := by decide +kernel
theorem d_Model_addresses_137 : decode prog_11_method_48_code 137 = .ok (.ifCond .ne 18, 3) := by decide +kernel
theorem d_Model_addresses_140 : decode prog_11_method_48_code 140 = .ok (.aload_n 0, 1) := by decide +kernel
theorem d_Model_addresses_141 : decode prog_11_method_48_code 141 = .ok (.iload 5, 2) := by decide +kernel
theorem d_Model_addresses_143 : decode prog_11_method_48_code 143 = .ok (.bipush 58, 2) := by decide +kernel
theorem d_Model_addresses_145 : decode prog_11_method_48_code 145 = .ok (.invokevirtual 200, 3) := by decide +kernel
theorem d_Model_addresses_148 : decode prog_11_method_48_code 148 = .ok (.ifCond .eq 7, 3) := by decide +kernel
theorem d_Model_addresses_151 : decode prog_11_method_48_code 151 = .ok (.iconst 1, 1) := by decide +kernel
theorem d_Model_addresses_152 : decode prog_11_method_48_code 152 = .ok (.goto 4, 3) := by decide +kernel
theorem d_Model_addresses_155 : decode prog_11_method_48_code 155 = .ok (.iconst 0, 1) := by decide +kernel
theorem d_Model_addresses_156 : decode prog_11_method_48_code 156 = .ok (.istore 7, 2) := by decide +kernel
theorem d_Model_addresses_158 : decode prog_11_method_48_code 158 = .ok (.iload 6, 2) := by decide +kernel
theorem d_Model_addresses_160 : decode prog_11_method_48_code 160 = .ok (.ifCond .ne 35, 3) := by decide +kernel
theorem d_Model_addresses_163 : decode prog_11_method_48_code 163 = .ok (.iload 4, 2) := by decide +kernel
theorem d_Model_addresses_165 : decode prog_11_method_48_code 165 = .ok (.ifCond .ne 34, 3) := by decide +kernel
theorem d_Model_addresses_168 : decode prog_11_method_48_code 168 = .ok (.iload 7, 2) := by decide +kernel
theorem d_Model_addresses_170 : decode prog_11_method_48_code 170 = .ok (.ifCond .ne 25, 3) := by decide +kernel
theorem d_Model_addresses_173 : decode prog_11_method_48_code 173 = .ok (.aload_n 0, 1) := by decide +kernel
theorem d_Model_addresses_174 : decode prog_11_method_48_code 174 = .ok (.iload 5, 2) := by decide +kernel
theorem d_Model_addresses_176 : decode prog_11_method_48_code 176 = .ok (.bipush 44, 2) := by decide +kernel
theorem d_Model_addresses_178 : decode prog_11_method_48_code 178 = .ok (.invokevirtual 200, 3) := by decide +kernel
theorem d_Model_addresses_181 : decode prog_11_method_48_code 181 = .ok (.ifCond .ne 14, 3) := by decide +kernel
theorem d_Model_addresses_184 : decode prog_11_method_48_code 184 = .ok (.aload_n 0, 1) := by decide +kernel
theorem d_Model_addresses_185 : decode prog_11_method_48_code 185 = .ok (.iload 5, 2) := by decide +kernel
theorem d_Model_addresses_187 : decode prog_11_method_48_code 187 = .ok (.bipush 59, 2) := by decide +kernel
theorem d_Model_addresses_189 : decode prog_11_method_48_code 189 = .ok (.invokevirtual 200, 3) := by decide +kernel
theorem d_Model_addresses_192 : decode prog_11_method_48_code 192 = .ok (.ifCond .eq 7, 3) := by decide +kernel
theorem d_Model_addresses_195 : decode prog_11_method_48_code 195 = .ok (.iconst 1, 1) := by decide +kernel
theorem d_Model_addresses_196 : decode prog_11_method_48_code 196 = .ok (.goto 4, 3) := by decide +kernel
theorem d_Model_addresses_199 : decode prog_11_method_48_code 199 = .ok (.iconst 0, 1) := by decide +kernel
theorem d_Model_addresses_200 : decode prog_11_method_48_code 200 = .ok (.istore 8, 2) := by decide +kernel
theorem d_Model_addresses_202 : decode prog_11_method_48_code 202 = .ok (.iload 8, 2) := by decide +kernel
theorem d_Model_addresses_204 : decode prog_11_method_48_code 204 = .ok (.ifCond .eq 81, 3) := by decide +kernel
theorem d_Model_addresses_207 : decode prog_11_method_48_code 207 = .ok (.iload 7, 2) := by decide +kernel
theorem d_Model_addresses_209 : decode prog_11_method_48_code 209 = .ok (.ifCond .eq 25, 3) := by decide +kernel
theorem d_Model_addresses_212 : decode prog_11_method_48_code 212 = .ok (.iload_n 2, 1) := by decide +kernel
theorem d_Model_addresses_213 : decode prog_11_method_48_code 213 = .ok (.iconst (-1), 1) := by decide +kernel
theorem d_Model_addresses_214 : decode prog_11_method_48_code 214 = .ok (.if_icmp .ne 20, 3) := by decide +kernel
theorem d_Model_addresses_217 : decode prog_11_method_48_code 217 = .ok (.aload_n 0, 1) := by decide +kernel
theorem d_Model_addresses_218 : decode prog_11_method_48_code 218 = .ok (.iload_n 3, 1) := by decide +kernel
theorem d_Model_addresses_219 : decode prog_11_method_48_code 219 = .ok (.iload 5, 2) := by decide +kernel
theorem d_Model_addresses_221 : decode prog_11_method_48_code 221 = .ok (.invokevirtual 258, 3) := by decide +kernel
theorem d_Model_addresses_224 : decode prog_11_method_48_code 224 = .ok (.aload_n 0, 1) := by decide +kernel
theorem d_Model_addresses_225 : decode prog_11_method_48_code 225 = .ok (.getfield 248, 3) := by decide +kernel
theorem d_Model_addresses_228 : decode prog_11_method_48_code 228 = .ok (.iconst 1, 1) := by decide +kernel
theorem d_Model_addresses_229 : decode prog_11_method_48_code 229 = .ok (.isub, 1) := by decide +kernel
theorem d_Model_addresses_230 : decode prog_11_method_48_code 230 = .ok (.istore_n 2, 1) := by decide +kernel
theorem d_Model_addresses_231 : decode prog_11_method_48_code 231 = .ok (.goto 31, 3) := by decide +kernel
theorem d_Model_addresses_234 : decode prog_11_method_48_code 234 = .ok (.iload 7, 2) := by decide +kernel
theorem d_Model_addresses_236 : decode prog_11_method_48_code 236 = .ok (.ifCond .eq 16, 3) := by decide +kernel
theorem d_Model_addresses_239 : decode prog_11_method_48_code 239 = .ok (.aload_n 0, 1) := by decide +kernel
theorem d_Model_addresses_240 : decode prog_11_method_48_code 240 = .ok (.dup, 1) := by decide +kernel
theorem d_Model_addresses_241 : decode prog_11_method_48_code 241 = .ok (.getfield 227, 3) := by decide +kernel
theorem d_Model_addresses_244 : decode prog_11_method_48_code 244 = .ok (.iconst 1, 1) := by decide +kernel
theorem d_Model_addresses_245 : decode prog_11_method_48_code 245 = .ok (.iadd, 1) := by decide +kernel
theorem d_Model_addresses_246 : decode prog_11_method_48_code 246 = .ok (.putfield 227, 3) := by decide +kernel
theorem d_Model_addresses_249 : decode prog_11_method_48_code 249 = .ok (.goto 13, 3) := by decide +kernel
theorem d_Model_addresses_252 : decode prog_11_method_48_code 252 = .ok (.aload_n 0, 1) := by decide +kernel
theorem d_Model_addresses_253 : decode prog_11_method_48_code 253 = .ok (.iload_n 3, 1) := by decide +kernel
theorem d_Model_addresses_254 : decode prog_11_method_48_code 254 = .ok (.iload 5, 2) := by decide +kernel
theorem d_Model_addresses_256 : decode prog_11_method_48_code 256 = .ok (.iload 4, 2) := by decide +kernel
theorem d_Model_addresses_258 : decode prog_11_method_48_code 258 = .ok (.iload_n 2, 1) := by decide +kernel
theorem d_Model_addresses_259 : decode prog_11_method_48_code 259 = .ok (.invokevirtual 261, 3) := by decide +kernel
theorem d_Model_addresses_262 : decode prog_11_method_48_code 262 = .ok (.iload 6, 2) := by decide +kernel
theorem d_Model_addresses_264 : decode prog_11_method_48_code 264 = .ok (.ifCond .ne 16, 3) := by decide +kernel
theorem d_Model_addresses_267 : decode prog_11_method_48_code 267 = .ok (.aload_n 0, 1) := by decide +kernel
theorem d_Model_addresses_268 : decode prog_11_method_48_code 268 = .ok (.iload 5, 2) := by decide +kernel
theorem d_Model_addresses_270 : decode prog_11_method_48_code 270 = .ok (.bipush 59, 2) := by decide +kernel
theorem d_Model_addresses_272 : decode prog_11_method_48_code 272 = .ok (.invokevirtual 200, 3) := by decide +kernel
theorem d_Model_addresses_275 : decode prog_11_method_48_code 275 = .ok (.ifCond .eq 5, 3) := by decide +kernel
theorem d_Model_addresses_278 : decode prog_11_method_48_code 278 = .ok (.iconst (-1), 1) := by decide +kernel
theorem d_Model_addresses_279 : decode prog_11_method_48_code 279 = .ok (.istore_n 2, 1) := by decide +kernel
theorem d_Model_addresses_280 : decode prog_11_method_48_code 280 = .ok (.iload 5, 2) := by decide +kernel
theorem d_Model_addresses_282 : decode prog_11_method_48_code 282 = .ok (.iconst 1, 1) := by decide +kernel
theorem d_Model_addresses_283 : decode prog_11_method_48_code 283 = .ok (.iadd, 1) := by decide +kernel
theorem d_Model_addresses_284 : decode prog_11_method_48_code 284 = .ok (.istore_n 3, 1) := by decide +kernel
theorem d_Model_addresses_285 : decode prog_11_method_48_code 285 = .ok (.iinc 5 1, 3) := by decide +kernel
theorem d_Model_addresses_288 : decode prog_11_method_48_code 288 = .ok (.goto (-229), 3) := by decide +kernel
theorem d_Model_addresses_291 : decode prog_11_method_48_code 291 = .ok (.aload_n 0, 1) := by decide +kernel
theorem d_Model_addresses_292 : decode prog_11_method_48_code 292 = .ok (.getfield 52, 3) := by decide +kernel
theorem d_Model_addresses_295 : decode prog_11_method_48_code 295 = .ok (.iconst 1, 1) := by decide +kernel
theorem d_Model_addresses_296 : decode prog_11_method_48_code 296 = .ok (.iaload, 1) := by decide +kernel
theorem d_Model_addresses_297 : decode prog_11_method_48_code 297 = .ok (.ireturn, 1) := by decide +kernel
theorem d_Model_group_0 : decode prog_11_method_49_code 0 = .ok (.aload_n 0, 1) := by decide +kernel
theorem d_Model_group_1 : decode prog_11_method_49_code 1 = .ok (.iconst 0, 1) := by decide +kernel
theorem d_Model_group_2 : decode prog_11_method_49_code 2 = .ok (.putfield 99, 3) := by decide +kernel
theorem d_Model_group_5 : decode prog_11_method_49_code 5 = .ok (.iload_n 1, 1) := by decide +kernel
theorem d_Model_group_6 : decode prog_11_method_49_code 6 = .ok (.ifCond .ne 8, 3) := by decide +kernel
theorem d_Model_group_9 : decode prog_11_method_49_code 9 = .ok (.aload_n 0, 1) := by decide +kernel
theorem d_Model_group_10 : decode prog_11_method_49_code 10 = .ok (.getfield 248, 3) := by decide +kernel
theorem d_Model_group_13 : decode prog_11_method_49_code 13 = .ok (.ireturn, 1) := by decide +kernel
theorem d_Model_group_14 : decode prog_11_method_49_code 14 = .ok (.iload_n 1, 1) := by decide +kernel
theorem d_Model_group_15 : decode prog_11_method_49_code 15 = .ok (.iconst 1, 1) := by decide +kernel
theorem d_Model_group_16 : decode prog_11_method_49_code 16 = .ok (.if_icmp .ne 8, 3) := by decide +kernel
theorem d_Model_group_19 : decode prog_11_method_49_code 19 = .ok (.aload_n 0, 1) := by decide +kernel
theorem d_Model_group_20 : decode prog_11_method_49_code 20 = .ok (.getfield 227, 3) := by decide +kernel
theorem d_Model_group_23 : decode prog_11_method_49_code 23 = .ok (.ireturn, 1) := by decide +kernel
theorem d_Model_group_24 : decode prog_11_method_49_code 24 = .ok (.iload_n 1, 1) := by decide +kernel
theorem d_Model_group_25 : decode prog_11_method_49_code 25 = .ok (.iconst 2, 1) := by decide +kernel
theorem d_Model_group_26 : decode prog_11_method_49_code 26 = .ok (.if_icmp .ne 17, 3) := by decide +kernel
theorem d_Model_group_29 : decode prog_11_method_49_code 29 = .ok (.iload_n 2, 1) := by decide +kernel
theorem d_Model_group_30 : decode prog_11_method_49_code 30 = .ok (.ifCond .lt 13, 3) := by decide +kernel
theorem d_Model_group_33 : decode prog_11_method_49_code 33 = .ok (.iload_n 2, 1) := by decide +kernel
theorem d_Model_group_34 : decode prog_11_method_49_code 34 = .ok (.aload_n 0, 1) := by decide +kernel
theorem d_Model_group_35 : decode prog_11_method_49_code 35 = .ok (.getfield 52, 3) := by decide +kernel
theorem d_Model_group_38 : decode prog_11_method_49_code 38 = .ok (.iconst 1, 1) := by decide +kernel
theorem d_Model_group_39 : decode prog_11_method_49_code 39 = .ok (.iaload, 1) := by decide +kernel
theorem d_Model_group_40 : decode prog_11_method_49_code 40 = .ok (.if_icmp .lt 7, 3) := by decide +kernel
theorem d_Model_group_43 : decode prog_11_method_49_code 43 = .ok (.iconst (-1), 1) := by decide +kernel
theorem d_Model_group_44 : decode prog_11_method_49_code 44 = .ok (.goto 9, 3) := by decide +kernel
theorem d_Model_group_47 : decode prog_11_method_49_code 47 = .ok (.aload_n 0, 1) := by decide +kernel
theorem d_Model_group_48 : decode prog_11_method_49_code 48 = .ok (.getfield 61, 3) := by decide +kernel
theorem d_Model_group_51 : decode prog_11_method_49_code 51 = .ok (.iload_n 2, 1) := by decide +kernel
theorem d_Model_group_52 : decode prog_11_method_49_code 52 = .ok (.iaload, 1) := by decide +kernel
theorem d_Model_group_53 : decode prog_11_method_49_code 53 = .ok (.ireturn, 1) := by decide +kernel
end
section
/-! the reference's small functions -/
def sp_blank (c : Int32) : Int32 := if c = 32 ∨ c = 9 then 1 else 0
def sp_small (c : Int32) : Int32 := if ¬ c < 65 ∧ ¬ 90 < c then c + 32 else c
def sp_digit (c : Int32) : Int32 := if ¬ c < 48 ∧ ¬ 57 < c then 1 else 0
def sp_nothing (c : Int32) : Int32 := if c ≤ 32 ∨ c = 127 then 1 else 0
def sp_area (w : Int32) : Int32 := if 4 ≤ w then (if w = 4 then 1 else 2) else 0
section SMALL
variable {G : gl_G} {h : hp_T} {cI cZ : ClassId} {h0 : hp_T} {M : Nat} {I : Nat → Int32} {R : Nat → Nat → Int32}
theorem c_Model_isBlank (c : Int32) : ct_E G m_Model_isBlank [.int c] h (cv (.int (sp_blank c)) h) := by
  refine ct_of (ws' := tb_all) rfl rfl (Nat.le_of_ble_eq_true rfl) ?_
  refine ev_iload_n d_Model_isBlank_0 rfl rfl ?_
  refine ev_bipush (v := 32) d_Model_isBlank_1 (by decide) ?_
  refine ev_icmp_eq (tgt := 12) d_Model_isBlank_3 (by decide) (fun c_3 => ?_) (fun c_3 => ?_)
  · refine ev_iconst (v := 1) d_Model_isBlank_12 (by decide) ?_
    refine ev_goto (tgt := 17) d_Model_isBlank_13 (by decide) ?_
    refine ev_zret d_Model_isBlank_17 rfl rfl ?_
    rw [sp_blank, if_pos (Or.inl c_3)]
    exact ⟨rfl, rfl⟩
  · refine ev_iload_n d_Model_isBlank_6 rfl rfl ?_
    refine ev_bipush (v := 9) d_Model_isBlank_7 (by decide) ?_
    refine ev_icmp_ne (tgt := 16) d_Model_isBlank_9 (by decide) (fun c_9 => ?_) (fun c_9 => ?_)
    · refine ev_iconst (v := 0) d_Model_isBlank_16 (by decide) ?_
      refine ev_zret d_Model_isBlank_17 rfl rfl ?_
      rw [sp_blank, if_neg (fun z => z.elim c_3 c_9)]
      exact ⟨rfl, rfl⟩
    · refine ev_iconst (v := 1) d_Model_isBlank_12 (by decide) ?_
      refine ev_goto (tgt := 17) d_Model_isBlank_13 (by decide) ?_
      refine ev_zret d_Model_isBlank_17 rfl rfl ?_
      rw [sp_blank, if_pos (Or.inr c_9)]
      exact ⟨rfl, rfl⟩
theorem c_Model_small (c : Int32) : ct_E G m_Model_small [.int c] h (cv (.int (sp_small c)) h) := by
  refine ct_of (ws' := tb_all) rfl rfl (Nat.le_of_ble_eq_true rfl) ?_
  refine ev_iload_n d_Model_small_0 rfl rfl ?_
  refine ev_bipush (v := 65) d_Model_small_1 (by decide) ?_
  refine ev_icmp_lt (tgt := 19) d_Model_small_3 (by decide) (fun c_3 => ?_) (fun c_3 => ?_)
  · refine ev_iload_n d_Model_small_19 rfl rfl ?_
    refine ev_iret d_Model_small_20 rfl ?_
    rw [sp_small, if_neg (fun z => z.1 c_3)]
    exact ⟨rfl, rfl⟩
  · refine ev_iload_n d_Model_small_6 rfl rfl ?_
    refine ev_bipush (v := 90) d_Model_small_7 (by decide) ?_
    refine ev_icmp_gt (tgt := 19) d_Model_small_9 (by decide) (fun c_9 => ?_) (fun c_9 => ?_)
    · refine ev_iload_n d_Model_small_19 rfl rfl ?_
      refine ev_iret d_Model_small_20 rfl ?_
      rw [sp_small, if_neg (fun z => z.2 c_9)]
      exact ⟨rfl, rfl⟩
    · refine ev_iload_n d_Model_small_12 rfl rfl ?_
      refine ev_bipush (v := 32) d_Model_small_13 (by decide) ?_
      refine ev_iadd d_Model_small_15 ?_
      refine ev_goto (tgt := 20) d_Model_small_16 (by decide) ?_
      refine ev_iret d_Model_small_20 rfl ?_
      rw [sp_small, if_pos ⟨c_3, c_9⟩]
      exact ⟨rfl, rfl⟩
theorem c_Model_isDigit (c : Int32) : ct_E G m_Model_isDigit [.int c] h (cv (.int (sp_digit c)) h) := by
  refine ct_of (ws' := tb_all) rfl rfl (Nat.le_of_ble_eq_true rfl) ?_
  refine ev_iload_n d_Model_isDigit_0 rfl rfl ?_
  refine ev_bipush (v := 48) d_Model_isDigit_1 (by decide) ?_
  refine ev_icmp_lt (tgt := 16) d_Model_isDigit_3 (by decide) (fun c_3 => ?_) (fun c_3 => ?_)
  · refine ev_iconst (v := 0) d_Model_isDigit_16 (by decide) ?_
    refine ev_zret d_Model_isDigit_17 rfl rfl ?_
    rw [sp_digit, if_neg (fun z => z.1 c_3)]
    exact ⟨rfl, rfl⟩
  · refine ev_iload_n d_Model_isDigit_6 rfl rfl ?_
    refine ev_bipush (v := 57) d_Model_isDigit_7 (by decide) ?_
    refine ev_icmp_gt (tgt := 16) d_Model_isDigit_9 (by decide) (fun c_9 => ?_) (fun c_9 => ?_)
    · refine ev_iconst (v := 0) d_Model_isDigit_16 (by decide) ?_
      refine ev_zret d_Model_isDigit_17 rfl rfl ?_
      rw [sp_digit, if_neg (fun z => z.2 c_9)]
      exact ⟨rfl, rfl⟩
    · refine ev_iconst (v := 1) d_Model_isDigit_12 (by decide) ?_
      refine ev_goto (tgt := 17) d_Model_isDigit_13 (by decide) ?_
      refine ev_zret d_Model_isDigit_17 rfl rfl ?_
      rw [sp_digit, if_pos ⟨c_3, c_9⟩]
      exact ⟨rfl, rfl⟩
theorem c_Model_isNothing (c : Int32) : ct_E G m_Model_isNothing [.int c] h (cv (.int (sp_nothing c)) h) := by
  refine ct_of (ws' := tb_all) rfl rfl (Nat.le_of_ble_eq_true rfl) ?_
  refine ev_iload_n d_Model_isNothing_0 rfl rfl ?_
  refine ev_bipush (v := 32) d_Model_isNothing_1 (by decide) ?_
  refine ev_icmp_le (tgt := 12) d_Model_isNothing_3 (by decide) (fun c_3 => ?_) (fun c_3 => ?_)
  · refine ev_iconst (v := 1) d_Model_isNothing_12 (by decide) ?_
    refine ev_goto (tgt := 17) d_Model_isNothing_13 (by decide) ?_
    refine ev_zret d_Model_isNothing_17 rfl rfl ?_
    rw [sp_nothing, if_pos (Or.inl c_3)]
    exact ⟨rfl, rfl⟩
  · refine ev_iload_n d_Model_isNothing_6 rfl rfl ?_
    refine ev_bipush (v := 127) d_Model_isNothing_7 (by decide) ?_
    refine ev_icmp_ne (tgt := 16) d_Model_isNothing_9 (by decide) (fun c_9 => ?_) (fun c_9 => ?_)
    · refine ev_iconst (v := 0) d_Model_isNothing_16 (by decide) ?_
      refine ev_zret d_Model_isNothing_17 rfl rfl ?_
      rw [sp_nothing, if_neg (fun z => z.elim c_3 c_9)]
      exact ⟨rfl, rfl⟩
    · refine ev_iconst (v := 1) d_Model_isNothing_12 (by decide) ?_
      refine ev_goto (tgt := 17) d_Model_isNothing_13 (by decide) ?_
      refine ev_zret d_Model_isNothing_17 rfl rfl ?_
      rw [sp_nothing, if_pos (Or.inr c_9)]
      exact ⟨rfl, rfl⟩
theorem c_Model_areaOf (w : Int32) : ct_E G m_Model_areaOf [.int w] h (cv (.int (sp_area w)) h) := by
  refine ct_of (ws' := tb_all) rfl rfl (Nat.le_of_ble_eq_true rfl) ?_
  refine ev_iload_n d_Model_areaOf_0 rfl rfl ?_
  refine ev_iconst (v := 4) d_Model_areaOf_1 (by decide) ?_
  refine ev_icmp_ge (tgt := 9) d_Model_areaOf_2 (by decide) (fun c_2 => ?_) (fun c_2 => ?_)
  · refine ev_iload_n d_Model_areaOf_9 rfl rfl ?_
    refine ev_iconst (v := 4) d_Model_areaOf_10 (by decide) ?_
    refine ev_icmp_ne (tgt := 18) d_Model_areaOf_11 (by decide) (fun c_11 => ?_) (fun c_11 => ?_)
    · refine ev_iconst (v := 2) d_Model_areaOf_18 (by decide) ?_
      refine ev_iret d_Model_areaOf_19 rfl ?_
      rw [sp_area, if_pos c_2, if_neg c_11]
      exact ⟨rfl, rfl⟩
    · refine ev_iconst (v := 1) d_Model_areaOf_14 (by decide) ?_
      refine ev_goto (tgt := 19) d_Model_areaOf_15 (by decide) ?_
      refine ev_iret d_Model_areaOf_19 rfl ?_
      rw [sp_area, if_pos c_2, if_pos c_11]
      exact ⟨rfl, rfl⟩
  · refine ev_iconst (v := 0) d_Model_areaOf_5 (by decide) ?_
    refine ev_goto (tgt := 19) d_Model_areaOf_6 (by decide) ?_
    refine ev_iret d_Model_areaOf_19 rfl ?_
    rw [sp_area, if_neg c_2]
    exact ⟨rfl, rfl⟩
theorem c_Model_thrown : ct_E G m_Model_thrown [.ref M] (mo_ov cI cZ h0 M I R) (cv (.int (I 0)) (mo_ov cI cZ h0 M I R)) := by
  refine ct_of (ws' := tb_all) rfl rfl (Nat.le_of_ble_eq_true rfl) ?_
  refine ev_aload_n d_Model_thrown_0 rfl rfl ?_
  refine mo_get (fa_Model_99 rfl rfl) d_Model_thrown_1 rfl ?_
  refine ev_iret d_Model_thrown_4 rfl ?_
  exact ⟨rfl, rfl⟩
def sp_isField (fields f : Int32) : Int32 := if ¬ f < 0 ∧ ¬ fields ≤ f then 1 else 0
theorem c_Model_isField (f : Int32) : ct_E G m_Model_isField [.ref M, .int f] (mo_ov cI cZ h0 M I R) (cv (.int (sp_isField (I 4) f)) (mo_ov cI cZ h0 M I R)) := by
  refine ct_of (ws' := tb_all) rfl rfl (Nat.le_of_ble_eq_true rfl) ?_
  refine ev_iload_n d_Model_isField_0 rfl rfl ?_
  refine ev_if_lt (tgt := 16) d_Model_isField_1 (by decide) (fun c_1 => ?_) (fun c_1 => ?_)
  · refine ev_iconst (v := 0) d_Model_isField_16 (by decide) ?_
    refine ev_zret d_Model_isField_17 rfl rfl ?_
    rw [sp_isField, if_neg (fun z => z.1 c_1)]
    exact ⟨rfl, rfl⟩
  · refine ev_iload_n d_Model_isField_4 rfl rfl ?_
    refine ev_aload_n d_Model_isField_5 rfl rfl ?_
    refine mo_get (fa_Model_116 rfl rfl) d_Model_isField_6 rfl ?_
    refine ev_icmp_ge (tgt := 16) d_Model_isField_9 (by decide) (fun c_9 => ?_) (fun c_9 => ?_)
    · refine ev_iconst (v := 0) d_Model_isField_16 (by decide) ?_
      refine ev_zret d_Model_isField_17 rfl rfl ?_
      rw [sp_isField, if_neg (fun z => z.2 c_9)]
      exact ⟨rfl, rfl⟩
    · refine ev_iconst (v := 1) d_Model_isField_12 (by decide) ?_
      refine ev_goto (tgt := 17) d_Model_isField_13 (by decide) ?_
      refine ev_zret d_Model_isField_17 rfl rfl ?_
      rw [sp_isField, if_pos ⟨c_1, c_9⟩]
      exact ⟨rfl, rfl⟩
theorem c_Model_bad : ct_E G m_Model_bad [.ref M] (mo_ov cI cZ h0 M I R) (cr (fun v h' => v = .int (I 5) ∧ h' = mo_ov cI cZ h0 M (upd I 0 0) R)) := by
  refine ct_of (ws' := tb_all) rfl rfl (Nat.le_of_ble_eq_true rfl) ?_
  refine ev_aload_n d_Model_bad_0 rfl rfl ?_
  refine ev_iconst (v := 0) d_Model_bad_1 (by decide) ?_
  refine mo_put (fp_Model_99 rfl rfl) d_Model_bad_2 (Nat.le_of_ble_eq_true rfl) rfl rfl rfl ?_
  refine ev_aload_n d_Model_bad_5 rfl rfl ?_
  refine mo_get (fa_Model_122 rfl rfl) d_Model_bad_6 rfl ?_
  refine ev_iret d_Model_bad_9 rfl ?_
  exact ⟨_, rfl, rfl, rfl⟩
end SMALL
end
section
/-! the reference's tape: feed, end -/
/-- byte k of x, the highest first -/
def by8 (x k : Int32) : Int32 := (x.toUInt32 >>> ((24 - 8 * k).toUInt32 &&& Int32.toUInt32 31)).toInt32 &&& 255
def rdy (f : Nat → Int32) (a : Nat) (x : Int32) (k : Nat) : Nat → Int32 := fun j => if a ≤ j ∧ j < a + k then by8 x (nI (j - a)) else f j
theorem rdy_0 (f : Nat → Int32) (a : Nat) (x : Int32) : rdy f a x 0 = f := by
  funext j
  exact if_neg (by omega)
theorem rdy_s (f : Nat → Int32) (a : Nat) (x : Int32) (k : Nat) : upd (rdy f a x k) (a + k) (by8 x (nI k)) = rdy f a x (k + 1) := by
  funext j
  unfold upd rdy
  by_cases hj : j = a + k
  · subst hj
    rw [if_pos rfl, if_pos (by omega), Nat.add_sub_cancel_left]
  · rw [if_neg hj]
    by_cases h : a ≤ j ∧ j < a + k
    · rw [if_pos h, if_pos (by omega)]
    · rw [if_neg h, if_neg (by omega)]
section TAPE
variable {G : gl_G} {cI cZ : ClassId} {h0 : hp_T} {M : Nat} {I : Nat → Int32}
theorem l_Model_readyWord (hT : (gl_t G)[0]? = some (cI, .int)) (R : Nat → Nat → Int32) {a : Nat} (ha : a ≤ 16) (x : Int32) : ∀ (n k : Nat), k + n = 4 →
    ev_E G m_Model_readyWord 2 [(0, .ref M), (1, .int (nI a)), (2, .int x), (3, .int (nI k))] [] (mo_ov cI cZ h0 M I (va_up R 1 (rdy (R 1) a x k))) (cn (fun h' => h' = mo_ov cI cZ h0 M I (va_up R 1 (rdy (R 1) a x 4)))) := by
  intro n
  induction n with
  | zero =>
    intro k hk
    have hk4 : k = 4 := by omega
    subst hk4
    refine ev_iload_n d_Model_readyWord_2 rfl rfl ?_
    refine ev_iconst (v := 4) d_Model_readyWord_3 (by decide) ?_
    refine ev_icmp_ge (tgt := 34) d_Model_readyWord_4 (by decide) (fun c_4 => ?_) (fun c_4 => ?_)
    · refine ev_vret d_Model_readyWord_34 rfl ?_
      exact ⟨rfl, rfl⟩
    · exact absurd (by decide) c_4
  | succ n ih =>
    intro k hk
    refine ev_iload_n d_Model_readyWord_2 rfl rfl ?_
    refine ev_iconst (v := 4) d_Model_readyWord_3 (by decide) ?_
    refine ev_icmp_ge (tgt := 34) d_Model_readyWord_4 (by decide) (fun c_4 => ?_) (fun c_4 => ?_)
    · exact absurd c_4 (nI_ge (a := k) (b := 4) (by omega) (by omega))
    · have hin : vp_in (nI a + nI k) (mo_len 1) := by rw [nI_add]; exact vp_in_nI (show a + k < 20 by omega) (by decide)
      refine ev_aload_n d_Model_readyWord_7 rfl rfl ?_
      refine mo_get (fa_Model_7 rfl rfl) d_Model_readyWord_8 rfl ?_
      refine ev_iload_n d_Model_readyWord_11 rfl rfl ?_
      refine ev_iload_n d_Model_readyWord_12 rfl rfl ?_
      refine ev_iadd d_Model_readyWord_13 ?_
      refine ev_iload_n d_Model_readyWord_14 rfl rfl ?_
      refine ev_bipush (v := 24) d_Model_readyWord_15 (by decide) ?_
      refine ev_bipush (v := 8) d_Model_readyWord_17 (by decide) ?_
      refine ev_iload_n d_Model_readyWord_19 rfl rfl ?_
      refine ev_imul d_Model_readyWord_20 ?_
      refine ev_isub d_Model_readyWord_21 ?_
      refine ev_iushr d_Model_readyWord_22 ?_
      refine ev_sipush (v := 255) d_Model_readyWord_23 (by decide) ?_
      refine ev_iand d_Model_readyWord_26 ?_
      refine mo_ast hT d_Model_readyWord_27 (by decide) hin ?_
      refine ev_iinc d_Model_readyWord_28 rfl (by decide) ?_
      rw [nI_add, nI_clamp (by omega), va_up_self, bx_uu]
      show ev_E G m_Model_readyWord 31 _ _ (mo_ov cI cZ h0 M I (va_up R 1 (upd (rdy (R 1) a x k) (a + k) (by8 x (nI k))))) _
      rw [rdy_s]
      refine ev_goto (tgt := 2) d_Model_readyWord_31 (by decide) ?_
      refine ev_as [(0, .ref M), (1, .int (nI a)), (2, .int x), (3, .int (nI (k + 1)))] ⟨rfl, rfl, rfl, ?_, trivial⟩ (ih (k + 1) (by omega))
      show some (Value.int (nI k + 1)) = _
      rw [nI_succ]
theorem c_Model_readyWord (hT : (gl_t G)[0]? = some (cI, .int)) (R : Nat → Nat → Int32) {a : Nat} (ha : a ≤ 16) (x : Int32) : ct_E G m_Model_readyWord [.ref M, .int (nI a), .int x] (mo_ov cI cZ h0 M I R) (cn (fun h' => h' = mo_ov cI cZ h0 M I (va_up R 1 (rdy (R 1) a x 4)))) := by
  refine ct_of (ws' := tb_all) rfl rfl (Nat.le_of_ble_eq_true rfl) ?_
  refine ev_iconst (v := 0) d_Model_readyWord_0 (by decide) ?_
  refine ev_istore_n d_Model_readyWord_1 rfl (by decide) ?_
  have e : R = va_up R 1 (rdy (R 1) a x 0) := by
    rw [rdy_0]
    funext j
    by_cases hj : j = 1
    · rw [hj, va_up_self]
    · rw [va_up_ne _ _ hj]
  have k := l_Model_readyWord (G := G) (cZ := cZ) (h0 := h0) (M := M) (I := I) hT R ha x 4 0 rfl
  rw [← e] at k
  exact ev_as [(0, .ref M), (1, .int (nI a)), (2, .int x), (3, .int (nI 0))] ⟨rfl, rfl, rfl, rfl, trivial⟩ k
end TAPE
end
section
/-! the reference: feed, end -/
def fed (f : Nat → Int32) (a b c d e : Int32) : Nat → Int32 := rdy (rdy (rdy (rdy (rdy f 0 a 4) 4 b 4) 8 c 4) 12 d 4) 16 e 4
def cpr (f g : Nat → Int32) (o m : Nat) : Nat → Int32 := fun j => if o ≤ j ∧ j < o + m then g (j - o) else f j
def zrr (f : Nat → Int32) (m : Nat) : Nat → Int32 := fun j => if j < m then 0 else f j
theorem cpr_0 (f g : Nat → Int32) (o : Nat) : cpr f g o 0 = f := by
  funext j
  exact if_neg (by omega)
theorem cpr_s (f g : Nat → Int32) (o m : Nat) : upd (cpr f g o m) (o + m) (g m) = cpr f g o (m + 1) := by
  funext j
  unfold upd cpr
  by_cases hj : j = o + m
  · subst hj
    rw [if_pos rfl, if_pos (by omega), Nat.add_sub_cancel_left]
  · rw [if_neg hj]
    by_cases h : o ≤ j ∧ j < o + m
    · rw [if_pos h, if_pos (by omega)]
    · rw [if_neg h, if_neg (by omega)]
theorem zrr_0 (f : Nat → Int32) : zrr f 0 = f := by
  funext j
  exact if_neg (by omega)
theorem zrr_s (f : Nat → Int32) (m : Nat) : upd (zrr f m) m 0 = zrr f (m + 1) := by
  funext j
  unfold upd zrr
  by_cases hj : j = m
  · subst hj
    rw [if_pos rfl, if_pos (by omega)]
  · rw [if_neg hj]
    by_cases h : j < m
    · rw [if_pos h, if_pos (by omega)]
    · rw [if_neg h, if_neg (by omega)]
theorem up_same {α : Type} (R : Nat → α) (k : Nat) : va_up R k (R k) = R := by
  funext j
  by_cases hj : j = k
  · rw [hj, va_up_self]
  · rw [va_up_ne _ _ hj]
theorem up_ne {α : Type} {R : Nat → α} {k j : Nat} {v : α} (h : j ≠ k) : va_up R k v j = R j := va_up_ne _ _ h
section TAPE2
variable {G : gl_G} {cI cZ : ClassId} {h0 : hp_T} {M : Nat} {I : Nat → Int32}
theorem c_Model_feed (hT : (gl_t G)[0]? = some (cI, .int)) (R : Nat → Nat → Int32) (a b c d e : Int32) : ct_E G m_Model_feed [.ref M, .int a, .int b, .int c, .int d, .int e] (mo_ov cI cZ h0 M I R) (cn (fun h' => h' = mo_ov cI cZ h0 M (upd I 0 0) (va_up R 1 (fed (R 1) a b c d e)))) := by
  refine ct_of (ws' := tb_all) rfl rfl (Nat.le_of_ble_eq_true rfl) ?_
  refine ev_aload_n d_Model_feed_0 rfl rfl ?_
  refine ev_iconst (v := 0) d_Model_feed_1 (by decide) ?_
  refine mo_put (fp_Model_99 rfl rfl) d_Model_feed_2 (Nat.le_of_ble_eq_true rfl) rfl rfl rfl ?_
  refine ev_aload_n d_Model_feed_5 rfl rfl ?_
  refine ev_iconst (v := 0) d_Model_feed_6 (by decide) ?_
  refine ev_iload_n d_Model_feed_7 rfl rfl ?_
  refine mo_Vn [.int (nI 0), .int a] [] ca_Model_feed_102 d_Model_feed_8 rfl (Nat.le_of_ble_eq_true rfl) (c_Model_readyWord hT R (a := 0) (by decide) a) (fun h1 z => ?_)
  subst z
  refine ev_aload_n d_Model_feed_11 rfl rfl ?_
  refine ev_iconst (v := 4) d_Model_feed_12 (by decide) ?_
  refine ev_iload_n d_Model_feed_13 rfl rfl ?_
  refine mo_Vn [.int (nI 4), .int b] [] ca_Model_feed_102 d_Model_feed_14 rfl (Nat.le_of_ble_eq_true rfl) (c_Model_readyWord hT _ (a := 4) (by decide) b) (fun h1 z => ?_)
  subst z
  rw [bx_uu, va_up_self]
  refine ev_aload_n d_Model_feed_17 rfl rfl ?_
  refine ev_bipush (v := 8) d_Model_feed_18 (by decide) ?_
  refine ev_iload_n d_Model_feed_20 rfl rfl ?_
  refine mo_Vn [.int (nI 8), .int c] [] ca_Model_feed_102 d_Model_feed_21 rfl (Nat.le_of_ble_eq_true rfl) (c_Model_readyWord hT _ (a := 8) (by decide) c) (fun h1 z => ?_)
  subst z
  rw [bx_uu, va_up_self]
  refine ev_aload_n d_Model_feed_24 rfl rfl ?_
  refine ev_bipush (v := 12) d_Model_feed_25 (by decide) ?_
  refine ev_iload d_Model_feed_27 rfl ?_
  refine mo_Vn [.int (nI 12), .int d] [] ca_Model_feed_102 d_Model_feed_29 rfl (Nat.le_of_ble_eq_true rfl) (c_Model_readyWord hT _ (a := 12) (by decide) d) (fun h1 z => ?_)
  subst z
  rw [bx_uu, va_up_self]
  refine ev_aload_n d_Model_feed_32 rfl rfl ?_
  refine ev_bipush (v := 16) d_Model_feed_33 (by decide) ?_
  refine ev_iload d_Model_feed_35 rfl ?_
  refine mo_Vn [.int (nI 16), .int e] [] ca_Model_feed_102 d_Model_feed_37 rfl (Nat.le_of_ble_eq_true rfl) (c_Model_readyWord hT _ (a := 16) (by decide) e) (fun h1 z => ?_)
  subst z
  rw [bx_uu, va_up_self]
  refine ev_vret d_Model_feed_40 rfl ?_
  exact ⟨rfl, rfl⟩
theorem l_Model_end2 (hT : (gl_t G)[0]? = some (cI, .int)) (R : Nat → Nat → Int32) (x : Int32) : ∀ (n k : Nat), k + n = 20 →
    ev_E G m_Model_end 71 [(0, .ref M), (1, .int x), (2, .int (nI k))] [] (mo_ov cI cZ h0 M I (va_up R 1 (zrr (R 1) k))) (cr (fun v h' => v = .int (I 3) ∧ h' = mo_ov cI cZ h0 M I (va_up R 1 (zrr (R 1) 20)))) := by
  intro n
  induction n with
  | zero =>
    intro k hk
    have hk4 : k = 20 := by omega
    subst hk4
    refine ev_iload_n d_Model_end_71 rfl rfl ?_
    refine ev_bipush (v := 20) d_Model_end_72 (by decide) ?_
    refine ev_icmp_ge (tgt := 90) d_Model_end_74 (by decide) (fun c_74 => ?_) (fun c_74 => ?_)
    · refine ev_aload_n d_Model_end_90 rfl rfl ?_
      refine mo_get (fa_Model_106 rfl rfl) d_Model_end_91 rfl ?_
      refine ev_iret d_Model_end_94 rfl ?_
      exact ⟨_, rfl, rfl, rfl⟩
    · exact absurd (by decide) c_74
  | succ n ih =>
    intro k hk
    refine ev_iload_n d_Model_end_71 rfl rfl ?_
    refine ev_bipush (v := 20) d_Model_end_72 (by decide) ?_
    refine ev_icmp_ge (tgt := 90) d_Model_end_74 (by decide) (fun c_74 => ?_) (fun c_74 => ?_)
    · exact absurd c_74 (nI_ge (a := k) (b := 20) (by omega) (by omega))
    · have hin : vp_in (nI k) (mo_len 1) := vp_in_nI (show k < 20 by omega) (by decide)
      refine ev_aload_n d_Model_end_77 rfl rfl ?_
      refine mo_get (fa_Model_7 rfl rfl) d_Model_end_78 rfl ?_
      refine ev_iload_n d_Model_end_81 rfl rfl ?_
      refine ev_iconst (v := 0) d_Model_end_82 (by decide) ?_
      refine mo_ast hT d_Model_end_83 (by decide) hin ?_
      rw [nI_clamp (by omega), va_up_self, bx_uu, zrr_s]
      refine ev_iinc d_Model_end_84 rfl (by decide) ?_
      refine ev_goto (tgt := 71) d_Model_end_87 (by decide) ?_
      refine ev_as [(0, .ref M), (1, .int x), (2, .int (nI (k + 1)))] ⟨rfl, rfl, ?_, trivial⟩ (ih (k + 1) (by omega))
      show some (Value.int (nI k + 1)) = _
      rw [nI_succ]
theorem l_Model_end1 (hT : (gl_t G)[0]? = some (cI, .int)) (R : Nat → Nat → Int32) {tl m : Nat} (hI : I 3 = nI tl) (htl : tl + m ≤ 1500) (hm : m ≤ 20) : ∀ (n k : Nat), k + n = m →
    ev_E G m_Model_end 31 [(0, .ref M), (1, .int (nI m)), (2, .int (nI k))] [] (mo_ov cI cZ h0 M I (va_up R 2 (cpr (R 2) (R 1) tl k))) (cr (fun v h' => v = .int (nI (tl + m)) ∧ h' = mo_ov cI cZ h0 M (upd I 3 (nI (tl + m))) (va_up (va_up R 2 (cpr (R 2) (R 1) tl m)) 1 (zrr (R 1) 20)))) := by
  intro n
  induction n with
  | zero =>
    intro k hk
    have hk4 : k = m := by omega
    subst hk4
    refine ev_iload_n d_Model_end_31 rfl rfl ?_
    refine ev_iload_n d_Model_end_32 rfl rfl ?_
    refine ev_icmp_ge (tgt := 59) d_Model_end_33 (by decide) (fun c_33 => ?_) (fun c_33 => ?_)
    · refine ev_aload_n d_Model_end_59 rfl rfl ?_
      refine ev_dup d_Model_end_60 rfl ?_
      refine mo_get (fa_Model_106 rfl rfl) d_Model_end_61 rfl ?_
      refine ev_iload_n d_Model_end_64 rfl rfl ?_
      refine ev_iadd d_Model_end_65 ?_
      refine mo_put (fp_Model_106 rfl rfl) d_Model_end_66 (Nat.le_of_ble_eq_true rfl) rfl rfl rfl ?_
      refine ev_iconst (v := 0) d_Model_end_69 (by decide) ?_
      refine ev_istore_n d_Model_end_70 rfl (by decide) ?_
      rw [hI, nI_add]
      refine ev_as [(0, .ref M), (1, .int (nI k)), (2, .int (nI 0))] ⟨rfl, rfl, rfl, trivial⟩ ?_
      have e := l_Model_end2 (G := G) (cZ := cZ) (h0 := h0) (M := M) (I := upd I 3 (nI (tl + k))) hT (va_up R 2 (cpr (R 2) (R 1) tl k)) (nI k) 20 0 rfl
      rw [zrr_0, up_same] at e
      exact e
    · exact absurd (nI_le (Nat.le_refl _) (by omega)) c_33
  | succ n ih =>
    intro k hk
    refine ev_iload_n d_Model_end_31 rfl rfl ?_
    refine ev_iload_n d_Model_end_32 rfl rfl ?_
    refine ev_icmp_ge (tgt := 59) d_Model_end_33 (by decide) (fun c_33 => ?_) (fun c_33 => ?_)
    · exact absurd c_33 (nI_ge (a := k) (b := m) (by omega) (by omega))
    · have hin : vp_in (nI k) (mo_len 1) := vp_in_nI (show k < 20 by omega) (by decide)
      have hin2 : vp_in (I 3 + nI k) (mo_len 2) := by rw [hI, nI_add]; exact vp_in_nI (show tl + k < 1500 by omega) (by decide)
      refine ev_aload_n d_Model_end_36 rfl rfl ?_
      refine mo_get (fa_Model_13 rfl rfl) d_Model_end_37 rfl ?_
      refine ev_aload_n d_Model_end_40 rfl rfl ?_
      refine mo_get (fa_Model_106 rfl rfl) d_Model_end_41 rfl ?_
      refine ev_iload_n d_Model_end_44 rfl rfl ?_
      refine ev_iadd d_Model_end_45 ?_
      refine ev_aload_n d_Model_end_46 rfl rfl ?_
      refine mo_get (fa_Model_7 rfl rfl) d_Model_end_47 rfl ?_
      refine ev_iload_n d_Model_end_50 rfl rfl ?_
      refine mo_ald hT d_Model_end_51 (by decide) hin ?_
      refine mo_ast hT d_Model_end_52 (by decide) hin2 ?_
      rw [hI, nI_add, nI_clamp (by omega), nI_clamp (by omega), va_up_self, bx_uu, up_ne (by decide), cpr_s]
      refine ev_iinc d_Model_end_53 rfl (by decide) ?_
      refine ev_goto (tgt := 31) d_Model_end_56 (by decide) ?_
      refine ev_as [(0, .ref M), (1, .int (nI m)), (2, .int (nI (k + 1)))] ⟨rfl, rfl, ?_, trivial⟩ (ih (k + 1) (by omega))
      show some (Value.int (nI k + 1)) = _
      rw [nI_succ]
/-- end: whether the bytes are taken -/
def okE (tl : Nat) (n : Int32) : Prop := ∃ m : Nat, m ≤ 20 ∧ tl + m ≤ 1500 ∧ n = nI m
theorem c_Model_end (hT : (gl_t G)[0]? = some (cI, .int)) (R : Nat → Nat → Int32) {tl : Nat} (hI : I 3 = nI tl) (htl : tl ≤ 1500) (x : Int32) : ct_E G m_Model_end [.ref M, .int x] (mo_ov cI cZ h0 M I R) (cr (fun v h' => (¬ okE tl x ∧ v = .int (-1) ∧ h' = mo_ov cI cZ h0 M (upd I 0 0) R) ∨ ∃ m : Nat, m ≤ 20 ∧ tl + m ≤ 1500 ∧ x = nI m ∧ v = .int (nI (tl + m)) ∧ h' = mo_ov cI cZ h0 M (upd (upd I 0 0) 3 (nI (tl + m))) (va_up (va_up R 2 (cpr (R 2) (R 1) tl m)) 1 (zrr (R 1) 20)))) := by
  refine ct_of (ws' := tb_all) rfl rfl (Nat.le_of_ble_eq_true rfl) ?_
  refine ev_aload_n d_Model_end_0 rfl rfl ?_
  refine ev_iconst (v := 0) d_Model_end_1 (by decide) ?_
  refine mo_put (fp_Model_99 rfl rfl) d_Model_end_2 (Nat.le_of_ble_eq_true rfl) rfl rfl rfl ?_
  refine ev_iload_n d_Model_end_5 rfl rfl ?_
  refine ev_if_lt (tgt := 27) d_Model_end_6 (by decide) (fun c_6 => ?_) (fun c_6 => ?_)
  · refine ev_iconst (v := (-1)) d_Model_end_27 (by decide) ?_
    refine ev_iret d_Model_end_28 rfl ?_
    refine ⟨_, rfl, Or.inl ⟨?_, rfl, rfl⟩⟩
    rintro ⟨m, h1, h2, rfl⟩
    exact nI_pos (by omega) c_6
  · obtain ⟨m, hm, rfl⟩ := nI_of c_6
    refine ev_iload_n d_Model_end_9 rfl rfl ?_
    refine ev_bipush (v := 20) d_Model_end_10 (by decide) ?_
    refine ev_icmp_gt (tgt := 27) d_Model_end_12 (by decide) (fun c_12 => ?_) (fun c_12 => ?_)
    · refine ev_iconst (v := (-1)) d_Model_end_27 (by decide) ?_
      refine ev_iret d_Model_end_28 rfl ?_
      refine ⟨_, rfl, Or.inl ⟨?_, rfl, rfl⟩⟩
      rintro ⟨m', h1, h2, e⟩
      have e2 := (nI_eq hm (by omega)).mp e
      exact absurd c_12 (nI_nlt (a := 20) (b := m) (by omega) (by omega))
    · have hm20 : m ≤ 20 := by
        rcases Nat.lt_or_ge 20 m with q | q
        · exact absurd (nI_lt q hm) c_12
        · exact q
      refine ev_aload_n d_Model_end_15 rfl rfl ?_
      refine mo_get (fa_Model_106 rfl rfl) d_Model_end_16 rfl ?_
      refine ev_iload_n d_Model_end_19 rfl rfl ?_
      refine ev_iadd d_Model_end_20 ?_
      refine ev_sipush (v := 1500) d_Model_end_21 (by decide) ?_
      have e3 : upd I 0 0 3 + nI m = nI (tl + m) := by
        show I 3 + nI m = _
        rw [hI, nI_add]
      rw [e3]
      refine ev_icmp_le (tgt := 29) d_Model_end_24 (by decide) (fun c_24 => ?_) (fun c_24 => ?_)
      · have hle : tl + m ≤ 1500 := (nI_leI (by omega) (by omega)).mp c_24
        refine ev_iconst (v := 0) d_Model_end_29 (by decide) ?_
        refine ev_istore_n d_Model_end_30 rfl (by decide) ?_
        have e := l_Model_end1 (G := G) (cZ := cZ) (h0 := h0) (M := M) (I := upd I 0 0) hT R (tl := tl) (m := m) hI hle hm20 m 0 (by omega)
        rw [cpr_0, up_same] at e
        refine ev_as [(0, .ref M), (1, .int (nI m)), (2, .int (nI 0))] ⟨rfl, rfl, rfl, trivial⟩ (ev_to e ?_)
        rintro o h' ⟨v, rfl, rfl, rfl⟩
        exact ⟨_, rfl, Or.inr ⟨m, hm20, hle, rfl, rfl, rfl⟩⟩
      · refine ev_iconst (v := (-1)) d_Model_end_27 (by decide) ?_
        refine ev_iret d_Model_end_28 rfl ?_
        refine ⟨_, rfl, Or.inl ⟨?_, rfl, rfl⟩⟩
        rintro ⟨m', h1, h2, e⟩
        have e2 := (nI_eq hm (by omega)).mp e
        exact c_24 (nI_le (a := tl + m) (b := 1500) (by omega) (by omega))
end TAPE2
end
section
/-! lists of bytes, and rows that hold them -/
def isNm (b : Int32) : Bool := decide (¬ b < 33 ∧ ¬ 126 < b ∧ ¬ b = 58)
def isBl (b : Int32) : Bool := decide (b = 32 ∨ b = 9)
/-- how many of the first are so -/
def cnt (p : Int32 → Bool) : List Int32 → Nat
  | [] => 0
  | x :: t => if p x = true then cnt p t + 1 else 0
theorem cnt_le (p : Int32 → Bool) : ∀ l : List Int32, cnt p l ≤ l.length
  | [] => Nat.le_refl _
  | x :: t => by
    have := cnt_le p t
    unfold cnt
    split <;> simp <;> omega
theorem cnt_all (p : Int32 → Bool) : ∀ (l : List Int32) (j : Nat) (x : Int32), j < cnt p l → l[j]? = some x → p x = true
  | [], j, x, h, _ => by simp [cnt] at h
  | y :: t, j, x, h, hx => by
    unfold cnt at h
    split at h
    · rename_i hy
      cases j with
      | zero => simp at hx; rw [← hx]; exact hy
      | succ j => exact cnt_all p t j x (by omega) (by simpa using hx)
    · omega
theorem cnt_stop (p : Int32 → Bool) : ∀ (l : List Int32) (x : Int32), l[cnt p l]? = some x → p x = false
  | [], x, h => by simp [cnt] at h
  | y :: t, x, h => by
    unfold cnt at h
    split at h
    · exact cnt_stop p t x (by simpa using h)
    · rename_i hy
      simp at h
      rw [← h]
      simpa using hy
/-- a row holds a list from a place on -/
def hol (f : Nat → Int32) (o : Nat) (xs : List Int32) : Prop := ∀ (j : Nat) (x : Int32), xs[j]? = some x → f (o + j) = x
theorem hol_nil (f : Nat → Int32) (o : Nat) : hol f o [] := fun j x h => by simp at h
theorem hol_cons {f : Nat → Int32} {o : Nat} {x : Int32} {t : List Int32} (h : hol f o (x :: t)) : f o = x ∧ hol f (o + 1) t :=
  ⟨h 0 x rfl, fun j y hy => by have := h (j + 1) y (by simpa using hy); rw [show o + 1 + j = o + (j + 1) by omega]; exact this⟩
theorem hol_drop {f : Nat → Int32} {o : Nat} {xs : List Int32} (h : hol f o xs) (k : Nat) : hol f (o + k) (xs.drop k) := fun j x hx => by
  rw [List.getElem?_drop] at hx
  rw [show o + k + j = o + (k + j) by omega]
  exact h _ x hx
theorem hol_take {f : Nat → Int32} {o : Nat} {xs : List Int32} (h : hol f o xs) (k : Nat) : hol f o (xs.take k) := fun j x hx => by
  rw [List.getElem?_take] at hx
  split at hx
  · exact h j x hx
  · cases hx
theorem hol_app {f : Nat → Int32} {o : Nat} {xs ys : List Int32} (h1 : hol f o xs) (h2 : hol f (o + xs.length) ys) : hol f o (xs ++ ys) := fun j x hx => by
  by_cases hj : j < xs.length
  · rw [List.getElem?_append_left hj] at hx
    exact h1 j x hx
  · rw [List.getElem?_append_right (by omega)] at hx
    have := h2 _ x hx
    rw [show o + j = o + xs.length + (j - xs.length) by omega]
    exact this
theorem hol_left {f : Nat → Int32} {o : Nat} {xs ys : List Int32} (h : hol f o (xs ++ ys)) : hol f o xs := fun j x hx => by
  have hj : j < xs.length := (List.getElem?_eq_some_iff.mp hx).1
  exact h j x (by rw [List.getElem?_append_left hj]; exact hx)
theorem hol_right {f : Nat → Int32} {o : Nat} {xs ys : List Int32} (h : hol f o (xs ++ ys)) : hol f (o + xs.length) ys := fun j x hx => by
  rw [show o + xs.length + j = o + (xs.length + j) by omega]
  exact h _ x (by rw [List.getElem?_append_right (by omega), Nat.add_sub_cancel_left]; exact hx)
theorem hol_at {f : Nat → Int32} {o : Nat} {xs : List Int32} (h : hol f o xs) {j : Nat} (hj : j < xs.length) : xs[j]? = some (f (o + j)) := by
  have e : xs[j]? = some xs[j] := List.getElem?_eq_getElem hj
  rw [e, h j _ e]
theorem hol_same {f g : Nat → Int32} {o : Nat} {xs : List Int32} (h : hol f o xs) (hg : ∀ j, o ≤ j → j < o + xs.length → g j = f j) : hol g o xs := fun j x hx => by
  have hj : j < xs.length := (List.getElem?_eq_some_iff.mp hx).1
  rw [hg _ (by omega) (by omega)]
  exact h j x hx
theorem hol_snoc {f : Nat → Int32} {o : Nat} {xs : List Int32} (h : hol f o xs) (v : Int32) : hol (upd f (o + xs.length) v) o (xs ++ [v]) := by
  refine hol_app (hol_same h (fun j h1 h2 => if_neg (by omega))) (fun j x hx => ?_)
  cases j with
  | zero => simp at hx; rw [← hx]; exact if_pos rfl
  | succ j => simp at hx
theorem hol_of (f : Nat → Int32) (o n : Nat) : hol f o ((List.range n).map (fun j => f (o + j))) := fun j x hx => by
  rw [List.getElem?_map] at hx
  by_cases hj : j < n
  · rw [List.getElem?_range hj] at hx
    exact Option.some.inj hx
  · rw [List.getElem?_eq_none (by simp; omega)] at hx
    cases hx
/-- where the : of a FIELD's line stands -/
def clp (l : List Int32) : Option Nat := if cnt isNm l = 0 then none else if l[cnt isNm l + cnt isBl (l.drop (cnt isNm l))]? = some 58 then some (cnt isNm l + cnt isBl (l.drop (cnt isNm l))) else none
theorem clp_lt {l : List Int32} {c : Nat} (h : clp l = some c) : c < l.length ∧ cnt isNm l ≤ c ∧ 0 < cnt isNm l ∧ l[c]? = some 58 := by
  unfold clp at h
  split at h
  · cases h
  · split at h
    · rename_i h1 h2
      cases h
      exact ⟨(List.getElem?_eq_some_iff.mp h2).1, by omega, by omega, h2⟩
    · cases h
end
section
/-! the reference: a line's name and colon, what is kept -/
theorem cnt_no {p : Int32 → Bool} {x : Int32} {t : List Int32} (h : p x = false) : cnt p (x :: t) = 0 := by
  unfold cnt
  rw [if_neg (by rw [h]; decide)]
theorem cnt_yes {p : Int32 → Bool} {x : Int32} {t : List Int32} (h : p x = true) : cnt p (x :: t) = cnt p t + 1 := by
  show (if p x = true then _ else _) = _
  rw [if_pos h]
theorem bl_of {b : Int32} (h : ¬ sp_blank b = 0) : isBl b = true := by
  unfold sp_blank at h
  unfold isBl
  split at h
  · rename_i z; exact decide_eq_true z
  · exact absurd rfl h
theorem bl_no {b : Int32} (h : sp_blank b = 0) : isBl b = false := by
  unfold sp_blank at h
  unfold isBl
  split at h
  · exact absurd h (by decide)
  · rename_i z; exact decide_eq_false z
/-- a row's list laid down from a place on -/
def cpl (f : Nat → Int32) (o : Nat) (xs : List Int32) : Nat → Int32 := fun j => if o ≤ j ∧ j < o + xs.length then xs.getD (j - o) 0 else f j
theorem cpl_nil (f : Nat → Int32) (o : Nat) : cpl f o [] = f := by
  funext j
  exact if_neg (by simp only [List.length_nil]; omega)
theorem cpl_cons (f : Nat → Int32) (o : Nat) (x : Int32) (t : List Int32) : cpl (upd f o x) (o + 1) t = cpl f o (x :: t) := by
  funext j
  unfold cpl upd
  by_cases h : o + 1 ≤ j ∧ j < o + 1 + t.length
  · rw [if_pos h, if_pos (by simp; omega), show j - o = (j - (o + 1)) + 1 by omega]
    rfl
  · rw [if_neg h]
    by_cases hj : j = o
    · subst hj
      rw [if_pos rfl, if_pos (by simp), Nat.sub_self]
      rfl
    · rw [if_neg hj, if_neg (by simp; omega)]
theorem cpl_hol (f : Nat → Int32) (o : Nat) (xs : List Int32) : hol (cpl f o xs) o xs := fun j x hx => by
  have hj : j < xs.length := (List.getElem?_eq_some_iff.mp hx).1
  unfold cpl
  rw [if_pos (by omega), Nat.add_sub_cancel_left, List.getD_eq_getElem?_getD, hx]
  rfl
theorem cpl_out {f : Nat → Int32} {o o2 : Nat} {xs ys : List Int32} (h : hol f o2 ys) (ho : o2 + ys.length ≤ o) : hol (cpl f o xs) o2 ys := hol_same h (fun j h1 h2 => if_neg (by omega))
section FIELD
variable {G : gl_G} {cI cZ : ClassId} {h0 : hp_T} {M : Nat} {I : Nat → Int32} {R : Nat → Nat → Int32}
theorem l_Model_colonOf1 (hT : (gl_t G)[0]? = some (cI, .int)) {b e : Nat} (he : e ≤ 1500) {Z : Option Value → hp_T → Prop} : ∀ (t : List Int32) (k : Nat), hol (R 2) k t → k + t.length = e →
    ev_E G m_Model_colonOf 46 [(0, .ref M), (1, .int (nI b)), (2, .int (nI e)), (3, .int (nI (k + cnt isNm t)))] [] (mo_ov cI cZ h0 M I R) Z →
    ev_E G m_Model_colonOf 2 [(0, .ref M), (1, .int (nI b)), (2, .int (nI e)), (3, .int (nI k))] [] (mo_ov cI cZ h0 M I R) Z := by
  intro t
  induction t with
  | nil =>
    intro k hh hl K
    refine ev_iload_n d_Model_colonOf_2 rfl rfl ?_
    refine ev_iload_n d_Model_colonOf_3 rfl rfl ?_
    refine ev_icmp_ge (tgt := 46) d_Model_colonOf_4 (by decide) (fun c_4 => ?_) (fun c_4 => ?_)
    · exact K
    · exact absurd (nI_le (a := e) (b := k) (by simp at hl; omega) (by simp at hl; omega)) c_4
  | cons x t ih =>
    intro k hh hl K
    simp only [List.length_cons] at hl
    obtain ⟨hx, ht⟩ := hol_cons hh
    have hx' : R 2 (nI k).toNatClampNeg = x := by rw [nI_clamp (by omega)]; exact hx
    have hin : vp_in (nI k) (mo_len 2) := vp_in_nI (show k < 1500 by omega) (by decide)
    refine ev_iload_n d_Model_colonOf_2 rfl rfl ?_
    refine ev_iload_n d_Model_colonOf_3 rfl rfl ?_
    refine ev_icmp_ge (tgt := 46) d_Model_colonOf_4 (by decide) (fun c_4 => ?_) (fun c_4 => ?_)
    · exact absurd c_4 (nI_ge (a := k) (b := e) (by omega) (by omega))
    · refine ev_aload_n d_Model_colonOf_7 rfl rfl ?_
      refine mo_get (fa_Model_13 rfl rfl) d_Model_colonOf_8 rfl ?_
      refine ev_iload_n d_Model_colonOf_11 rfl rfl ?_
      refine mo_ald hT d_Model_colonOf_12 (by decide) hin ?_
      refine ev_bipush (v := 33) d_Model_colonOf_13 (by decide) ?_
      rw [hx']
      refine ev_icmp_lt (tgt := 46) d_Model_colonOf_15 (by decide) (fun c_15 => ?_) (fun c_15 => ?_)
      · rw [cnt_no (show isNm x = false from decide_eq_false (fun z => z.1 c_15))] at K
        exact K
      · refine ev_aload_n d_Model_colonOf_18 rfl rfl ?_
        refine mo_get (fa_Model_13 rfl rfl) d_Model_colonOf_19 rfl ?_
        refine ev_iload_n d_Model_colonOf_22 rfl rfl ?_
        refine mo_ald hT d_Model_colonOf_23 (by decide) hin ?_
        refine ev_bipush (v := 126) d_Model_colonOf_24 (by decide) ?_
        rw [hx']
        refine ev_icmp_gt (tgt := 46) d_Model_colonOf_26 (by decide) (fun c_26 => ?_) (fun c_26 => ?_)
        · rw [cnt_no (show isNm x = false from decide_eq_false (fun z => z.2.1 c_26))] at K
          exact K
        · refine ev_aload_n d_Model_colonOf_29 rfl rfl ?_
          refine mo_get (fa_Model_13 rfl rfl) d_Model_colonOf_30 rfl ?_
          refine ev_iload_n d_Model_colonOf_33 rfl rfl ?_
          refine mo_ald hT d_Model_colonOf_34 (by decide) hin ?_
          refine ev_bipush (v := 58) d_Model_colonOf_35 (by decide) ?_
          rw [hx']
          refine ev_icmp_eq (tgt := 46) d_Model_colonOf_37 (by decide) (fun c_37 => ?_) (fun c_37 => ?_)
          · rw [cnt_no (show isNm x = false from decide_eq_false (fun z => z.2.2 c_37))] at K
            exact K
          · refine ev_iinc d_Model_colonOf_40 rfl (by decide) ?_
            refine ev_goto (tgt := 2) d_Model_colonOf_43 (by decide) ?_
            rw [cnt_yes (show isNm x = true from decide_eq_true ⟨c_15, c_26, c_37⟩), show k + (cnt isNm t + 1) = k + 1 + cnt isNm t by omega] at K
            refine ev_as [(0, .ref M), (1, .int (nI b)), (2, .int (nI e)), (3, .int (nI (k + 1)))] ⟨rfl, rfl, rfl, ?_, trivial⟩ (ih (k + 1) ht (by omega) K)
            show some (Value.int (nI k + 1)) = _
            rw [nI_succ]
theorem l_Model_colonOf2 (hT : (gl_t G)[0]? = some (cI, .int)) {b e : Nat} (he : e ≤ 1500) {Z : Option Value → hp_T → Prop} : ∀ (t : List Int32) (k : Nat), hol (R 2) k t → k + t.length = e →
    ev_E G m_Model_colonOf 76 [(0, .ref M), (1, .int (nI b)), (2, .int (nI e)), (3, .int (nI (k + cnt isBl t)))] [] (mo_ov cI cZ h0 M I R) Z →
    ev_E G m_Model_colonOf 53 [(0, .ref M), (1, .int (nI b)), (2, .int (nI e)), (3, .int (nI k))] [] (mo_ov cI cZ h0 M I R) Z := by
  intro t
  induction t with
  | nil =>
    intro k hh hl K
    refine ev_iload_n d_Model_colonOf_53 rfl rfl ?_
    refine ev_iload_n d_Model_colonOf_54 rfl rfl ?_
    refine ev_icmp_ge (tgt := 76) d_Model_colonOf_55 (by decide) (fun c_55 => ?_) (fun c_55 => ?_)
    · exact K
    · exact absurd (nI_le (a := e) (b := k) (by simp at hl; omega) (by simp at hl; omega)) c_55
  | cons x t ih =>
    intro k hh hl K
    simp only [List.length_cons] at hl
    obtain ⟨hx, ht⟩ := hol_cons hh
    have hx' : R 2 (nI k).toNatClampNeg = x := by rw [nI_clamp (by omega)]; exact hx
    have hin : vp_in (nI k) (mo_len 2) := vp_in_nI (show k < 1500 by omega) (by decide)
    refine ev_iload_n d_Model_colonOf_53 rfl rfl ?_
    refine ev_iload_n d_Model_colonOf_54 rfl rfl ?_
    refine ev_icmp_ge (tgt := 76) d_Model_colonOf_55 (by decide) (fun c_55 => ?_) (fun c_55 => ?_)
    · exact absurd c_55 (nI_ge (a := k) (b := e) (by omega) (by omega))
    · refine ev_aload_n d_Model_colonOf_58 rfl rfl ?_
      refine mo_get (fa_Model_13 rfl rfl) d_Model_colonOf_59 rfl ?_
      refine ev_iload_n d_Model_colonOf_62 rfl rfl ?_
      refine mo_ald hT d_Model_colonOf_63 (by decide) hin ?_
      rw [hx']
      refine ev_Sv [.int x] [] ca_Model_colonOf_109 d_Model_colonOf_64 rfl (Nat.le_of_ble_eq_true rfl) (c_Model_isBlank x) ?_
      refine ev_if_eq (tgt := 76) d_Model_colonOf_67 (by decide) (fun c_67 => ?_) (fun c_67 => ?_)
      · rw [cnt_no (bl_no c_67)] at K
        exact K
      · refine ev_iinc d_Model_colonOf_70 rfl (by decide) ?_
        refine ev_goto (tgt := 53) d_Model_colonOf_73 (by decide) ?_
        rw [cnt_yes (bl_of c_67), show k + (cnt isBl t + 1) = k + 1 + cnt isBl t by omega] at K
        refine ev_as [(0, .ref M), (1, .int (nI b)), (2, .int (nI e)), (3, .int (nI (k + 1)))] ⟨rfl, rfl, rfl, ?_, trivial⟩ (ih (k + 1) ht (by omega) K)
        show some (Value.int (nI k + 1)) = _
        rw [nI_succ]
/-- what colonOf answers for a line at b -/
def cla (b : Nat) (l : List Int32) : Int32 := match clp l with
  | none => -1
  | some c => nI (b + c)
theorem c_Model_colonOf (hT : (gl_t G)[0]? = some (cI, .int)) {b : Nat} {l : List Int32} (hh : hol (R 2) b l) (he : b + l.length ≤ 1500) : ct_E G m_Model_colonOf [.ref M, .int (nI b), .int (nI (b + l.length))] (mo_ov cI cZ h0 M I R) (cv (.int (cla b l)) (mo_ov cI cZ h0 M I R)) := by
  have hn := cnt_le isNm l
  have hb := cnt_le isBl (l.drop (cnt isNm l))
  rw [List.length_drop] at hb
  refine ct_of (ws' := tb_all) rfl rfl (Nat.le_of_ble_eq_true rfl) ?_
  refine ev_iload_n d_Model_colonOf_0 rfl rfl ?_
  refine ev_istore_n d_Model_colonOf_1 rfl (by decide) ?_
  refine ev_as [(0, .ref M), (1, .int (nI b)), (2, .int (nI (b + l.length))), (3, .int (nI b))] ⟨rfl, rfl, rfl, rfl, trivial⟩ ?_
  refine l_Model_colonOf1 hT he l b hh rfl ?_
  refine ev_iload_n d_Model_colonOf_46 rfl rfl ?_
  refine ev_iload_n d_Model_colonOf_47 rfl rfl ?_
  refine ev_icmp_ne (tgt := 53) d_Model_colonOf_48 (by decide) (fun c_48 => ?_) (fun c_48 => ?_)
  · have hc0 : ¬ cnt isNm l = 0 := fun z => c_48 (by rw [z, Nat.add_zero])
    refine l_Model_colonOf2 hT he (l.drop (cnt isNm l)) (b + cnt isNm l) (hol_drop hh _) (by rw [List.length_drop]; omega) ?_
    refine ev_iload_n d_Model_colonOf_76 rfl rfl ?_
    refine ev_iload_n d_Model_colonOf_77 rfl rfl ?_
    refine ev_icmp_ge (tgt := 96) d_Model_colonOf_78 (by decide) (fun c_78 => ?_) (fun c_78 => ?_)
    · refine ev_iconst (v := (-1)) d_Model_colonOf_96 (by decide) ?_
      refine ev_iret d_Model_colonOf_97 rfl ?_
      have hle := (nI_leI (by omega) (by omega)).mp c_78
      have e : clp l = none := by
        unfold clp
        rw [if_neg hc0, if_neg (by rw [List.getElem?_eq_none (by omega)]; intro z; cases z)]
      rw [cla, e]
      exact ⟨rfl, rfl⟩
    · have hlt : b + cnt isNm l + cnt isBl (l.drop (cnt isNm l)) < b + l.length := by
        rcases Nat.lt_or_ge (b + cnt isNm l + cnt isBl (l.drop (cnt isNm l))) (b + l.length) with q | q
        · exact q
        · exact absurd (nI_le q (by omega)) c_78
      have hin : vp_in (nI (b + cnt isNm l + cnt isBl (l.drop (cnt isNm l)))) (mo_len 2) := vp_in_nI (show _ < 1500 by omega) (by decide)
      have hat := hol_at hh (j := cnt isNm l + cnt isBl (l.drop (cnt isNm l))) (by omega)
      refine ev_aload_n d_Model_colonOf_81 rfl rfl ?_
      refine mo_get (fa_Model_13 rfl rfl) d_Model_colonOf_82 rfl ?_
      refine ev_iload_n d_Model_colonOf_85 rfl rfl ?_
      refine mo_ald hT d_Model_colonOf_86 (by decide) hin ?_
      refine ev_bipush (v := 58) d_Model_colonOf_87 (by decide) ?_
      rw [nI_clamp (by omega)]
      rw [← Nat.add_assoc] at hat
      refine ev_icmp_ne (tgt := 96) d_Model_colonOf_89 (by decide) (fun c_89 => ?_) (fun c_89 => ?_)
      · refine ev_iconst (v := (-1)) d_Model_colonOf_96 (by decide) ?_
        refine ev_iret d_Model_colonOf_97 rfl ?_
        have e : clp l = none := by
          unfold clp
          rw [if_neg hc0, if_neg (by rw [hat]; intro z; exact c_89 (Option.some.inj z))]
        rw [cla, e]
        exact ⟨rfl, rfl⟩
      · refine ev_iload_n d_Model_colonOf_92 rfl rfl ?_
        refine ev_goto (tgt := 97) d_Model_colonOf_93 (by decide) ?_
        refine ev_iret d_Model_colonOf_97 rfl ?_
        have e : clp l = some (cnt isNm l + cnt isBl (l.drop (cnt isNm l))) := by
          unfold clp
          rw [if_neg hc0, if_pos (by rw [hat, c_89])]
        rw [cla, e]
        refine ⟨?_, rfl⟩
        show some (Value.int (nI _)) = some (Value.int (nI _))
        rw [Nat.add_assoc]
  · refine ev_iconst (v := (-1)) d_Model_colonOf_51 (by decide) ?_
    refine ev_iret d_Model_colonOf_52 rfl ?_
    have hc0 : cnt isNm l = 0 := by
      have := (nI_eq (by omega) (by omega)).mp c_48
      omega
    have e : clp l = none := by
      unfold clp
      rw [if_pos hc0]
    rw [cla, e]
    exact ⟨rfl, rfl⟩
theorem l_Model_keep (hT : (gl_t G)[0]? = some (cI, .int)) {b e : Nat} (he : e ≤ 1500) : ∀ (t : List Int32) (k kl : Nat) (I : Nat → Int32) (R : Nat → Nat → Int32), hol (R 2) k t → k + t.length = e → I 11 = nI kl → kl + t.length ≤ 1600 →
    ev_E G m_Model_keep 2 [(0, .ref M), (1, .int (nI b)), (2, .int (nI e)), (3, .int (nI k))] [] (mo_ov cI cZ h0 M I R) (cn (fun h' => h' = mo_ov cI cZ h0 M (upd I 11 (nI (kl + t.length))) (va_up R 7 (cpl (R 7) kl t)))) := by
  intro t
  induction t with
  | nil =>
    intro k kl I R hh hl hI hkl
    refine ev_iload_n d_Model_keep_2 rfl rfl ?_
    refine ev_iload_n d_Model_keep_3 rfl rfl ?_
    refine ev_icmp_ge (tgt := 38) d_Model_keep_4 (by decide) (fun c_4 => ?_) (fun c_4 => ?_)
    · refine ev_vret d_Model_keep_38 rfl ?_
      refine ⟨rfl, ?_⟩
      rw [cpl_nil, up_same]
      congr 1
      funext j
      unfold upd
      by_cases hj : j = 11
      · rw [if_pos hj, hj, hI]; rfl
      · rw [if_neg hj]
    · exact absurd (nI_le (a := e) (b := k) (by simp at hl; omega) (by simp at hl; omega)) c_4
  | cons x t ih =>
    intro k kl I R hh hl hI hkl
    simp only [List.length_cons] at hl hkl
    obtain ⟨hx, ht⟩ := hol_cons hh
    have hx' : R 2 (nI k).toNatClampNeg = x := by rw [nI_clamp (by omega)]; exact hx
    have hin : vp_in (nI k) (mo_len 2) := vp_in_nI (show k < 1500 by omega) (by decide)
    have hin2 : vp_in (I 11) (mo_len 7) := by rw [hI]; exact vp_in_nI (show kl < 1600 by omega) (by decide)
    refine ev_iload_n d_Model_keep_2 rfl rfl ?_
    refine ev_iload_n d_Model_keep_3 rfl rfl ?_
    refine ev_icmp_ge (tgt := 38) d_Model_keep_4 (by decide) (fun c_4 => ?_) (fun c_4 => ?_)
    · exact absurd c_4 (nI_ge (a := k) (b := e) (by omega) (by omega))
    · refine ev_aload_n d_Model_keep_7 rfl rfl ?_
      refine mo_get (fa_Model_28 rfl rfl) d_Model_keep_8 rfl ?_
      refine ev_aload_n d_Model_keep_11 rfl rfl ?_
      refine mo_get (fa_Model_113 rfl rfl) d_Model_keep_12 rfl ?_
      refine ev_aload_n d_Model_keep_15 rfl rfl ?_
      refine mo_get (fa_Model_13 rfl rfl) d_Model_keep_16 rfl ?_
      refine ev_iload_n d_Model_keep_19 rfl rfl ?_
      refine mo_ald hT d_Model_keep_20 (by decide) hin ?_
      refine mo_ast hT d_Model_keep_21 (by decide) hin2 ?_
      refine ev_aload_n d_Model_keep_22 rfl rfl ?_
      refine ev_dup d_Model_keep_23 rfl ?_
      refine mo_get (fa_Model_113 rfl rfl) d_Model_keep_24 rfl ?_
      refine ev_iconst (v := 1) d_Model_keep_27 (by decide) ?_
      refine ev_iadd d_Model_keep_28 ?_
      refine mo_put (fp_Model_113 rfl rfl) d_Model_keep_29 (Nat.le_of_ble_eq_true rfl) rfl rfl rfl ?_
      refine ev_iinc d_Model_keep_32 rfl (by decide) ?_
      refine ev_goto (tgt := 2) d_Model_keep_35 (by decide) ?_
      rw [hx', hI, nI_clamp (by omega)]
      refine ev_as [(0, .ref M), (1, .int (nI b)), (2, .int (nI e)), (3, .int (nI (k + 1)))] ⟨rfl, rfl, rfl, ?_, trivial⟩ ?_
      · show some (Value.int (nI k + 1)) = _
        rw [nI_succ]
      · refine ev_to (ih (k + 1) (kl + 1) (upd I 11 (nI kl + 1)) (va_up R 7 (upd (R 7) kl x)) (by rw [up_ne (by decide)]; exact ht) (by omega) (by show (nI kl + 1 : Int32) = _; rw [nI_succ]) (by omega)) ?_
        rintro o h' ⟨rfl, rfl⟩
        refine ⟨rfl, ?_⟩
        rw [va_up_self, bx_uu, cpl_cons]
        congr 1
        funext j
        unfold upd
        by_cases hj : j = 11
        · rw [if_pos hj, if_pos hj, List.length_cons, show kl + 1 + t.length = kl + (t.length + 1) by omega]
        · rw [if_neg hj, if_neg hj, if_neg hj]
theorem c_Model_keep (hT : (gl_t G)[0]? = some (cI, .int)) {b kl : Nat} {t : List Int32} (hh : hol (R 2) b t) (hl : b + t.length ≤ 1500) (hI : I 11 = nI kl) (hkl : kl + t.length ≤ 1600) : ct_E G m_Model_keep [.ref M, .int (nI b), .int (nI (b + t.length))] (mo_ov cI cZ h0 M I R) (cn (fun h' => h' = mo_ov cI cZ h0 M (upd I 11 (nI (kl + t.length))) (va_up R 7 (cpl (R 7) kl t)))) := by
  refine ct_of (ws' := tb_all) rfl rfl (Nat.le_of_ble_eq_true rfl) ?_
  refine ev_iload_n d_Model_keep_0 rfl rfl ?_
  refine ev_istore_n d_Model_keep_1 rfl (by decide) ?_
  exact ev_as [(0, .ref M), (1, .int (nI b)), (2, .int (nI (b + t.length))), (3, .int (nI b))] ⟨rfl, rfl, rfl, rfl, trivial⟩ (l_Model_keep hT hl t b kl I R hh rfl hI hkl)
end FIELD
end
section
/-! the reference: fields, read -/
theorem upd_same {f : Nat → Int32} {k : Nat} {x y : Int32} : upd (upd f k x) k y = upd f k y := by
  funext j
  unfold upd
  by_cases h : j = k
  · rw [if_pos h, if_pos h]
  · rw [if_neg h, if_neg h, if_neg h]
theorem upd_comm {f : Nat → Int32} {k l : Nat} {x y : Int32} (h : k ≠ l) : upd (upd f k x) l y = upd (upd f l y) k x := by
  funext j
  unfold upd
  by_cases h1 : j = l
  · by_cases h2 : j = k
    · omega
    · rw [if_pos h1, if_neg h2, if_pos h1]
  · by_cases h2 : j = k
    · rw [if_neg h1, if_pos h2, if_pos h2]
    · rw [if_neg h1, if_neg h2, if_neg h2, if_neg h1]
theorem upd_id {f : Nat → Int32} {k : Nat} {x : Int32} (h : f k = x) : upd f k x = f := by
  funext j
  unfold upd
  by_cases hj : j = k
  · rw [if_pos hj, hj, h]
  · rw [if_neg hj]
theorem upd_at {f : Nat → Int32} {k : Nat} {x : Int32} : upd f k x k = x := if_pos rfl
theorem upd_ne {f : Nat → Int32} {k j : Nat} {x : Int32} (h : j ≠ k) : upd f k x j = f j := if_neg h
abbrev Flds : Type := List (List Int32 × List Int32)
/-- all that is kept: names and values one behind the other -/
def fK (F : Flds) : List Int32 := F.flatMap (fun q => q.1 ++ q.2)
theorem fK_snoc (F : Flds) (q : List Int32 × List Int32) : fK (F ++ [q]) = fK F ++ (q.1 ++ q.2) := by simp [fK]
/-- the rows hold the fields -/
def flds (F : Flds) (R : Nat → Nat → Int32) : Prop := hol (R 7) 0 (fK F) ∧ ∀ (i : Nat) (q : List Int32 × List Int32), F[i]? = some q → R 3 i = nI (fK (F.take i)).length ∧ R 4 i = nI q.1.length ∧ R 5 i = nI ((fK (F.take i)).length + q.1.length) ∧ R 6 i = nI q.2.length
theorem flds_nil (R : Nat → Nat → Int32) : flds [] R := ⟨hol_nil _ _, fun i q h => by simp at h⟩
theorem flds_same {F : Flds} {R R' : Nat → Nat → Int32} (h : flds F R) (h3 : R' 3 = R 3) (h4 : R' 4 = R 4) (h5 : R' 5 = R 5) (h6 : R' 6 = R 6) (h7 : R' 7 = R 7) : flds F R' := by
  refine ⟨by rw [h7]; exact h.1, fun i q hq => ?_⟩
  rw [h3, h4, h5, h6]
  exact h.2 i q hq
/-- a field more -/
theorem flds_add {F : Flds} {R R' : Nat → Nat → Int32} {nm vl : List Int32} (h : flds F R) (h3 : R' 3 = upd (R 3) F.length (nI (fK F).length)) (h4 : R' 4 = upd (R 4) F.length (nI nm.length)) (h5 : R' 5 = upd (R 5) F.length (nI ((fK F).length + nm.length))) (h6 : R' 6 = upd (R 6) F.length (nI vl.length)) (h7 : R' 7 = cpl (cpl (R 7) (fK F).length nm) ((fK F).length + nm.length) vl) : flds (F ++ [(nm, vl)]) R' := by
  refine ⟨?_, fun i q hq => ?_⟩
  · rw [h7, fK_snoc]
    refine hol_app (cpl_out (cpl_out h.1 (by omega)) (by omega)) (hol_app ?_ ?_)
    · rw [Nat.zero_add]
      exact cpl_out (cpl_hol _ _ _) (Nat.le_refl _)
    · rw [Nat.zero_add]
      exact cpl_hol _ _ _
  · rw [h3, h4, h5, h6]
    by_cases hi : i < F.length
    · rw [List.getElem?_append_left hi] at hq
      rw [List.take_append_of_le_length (by omega), upd_ne (by omega), upd_ne (by omega), upd_ne (by omega), upd_ne (by omega)]
      exact h.2 i q hq
    · have hi2 : i = F.length := by
        have := (List.getElem?_eq_some_iff.mp hq).1
        simp at this
        omega
      subst hi2
      rw [List.getElem?_append_right (Nat.le_refl _), Nat.sub_self] at hq
      cases hq
      rw [List.take_left', upd_at, upd_at, upd_at, upd_at]
      · exact ⟨rfl, rfl, rfl, rfl⟩
      · rfl
/-- more comes to the last value -/
theorem flds_more {F : Flds} {R R' : Nat → Nat → Int32} {nm vl xs : List Int32} (h : flds (F ++ [(nm, vl)]) R) (h3 : R' 3 = R 3) (h4 : R' 4 = R 4) (h5 : R' 5 = R 5) (h6 : R' 6 = upd (R 6) F.length (nI (vl.length + xs.length))) (h7 : R' 7 = cpl (R 7) (fK (F ++ [(nm, vl)])).length xs) : flds (F ++ [(nm, vl ++ xs)]) R' := by
  have e : fK (F ++ [(nm, vl ++ xs)]) = fK (F ++ [(nm, vl)]) ++ xs := by simp [fK]
  refine ⟨?_, fun i q hq => ?_⟩
  · rw [h7, e]
    refine hol_app (cpl_out h.1 (by omega)) ?_
    rw [Nat.zero_add]
    exact cpl_hol _ _ _
  · rw [h3, h4, h5, h6]
    by_cases hi : i < F.length
    · rw [List.getElem?_append_left hi] at hq
      have g := h.2 i q (by rw [List.getElem?_append_left hi]; exact hq)
      rw [List.take_append_of_le_length (by omega)] at g ⊢
      rw [upd_ne (by omega)]
      exact g
    · have hi2 : i = F.length := by
        have := (List.getElem?_eq_some_iff.mp hq).1
        simp at this
        omega
      subst hi2
      have g := h.2 F.length (nm, vl) (by rw [List.getElem?_append_right (Nat.le_refl _), Nat.sub_self]; rfl)
      rw [List.getElem?_append_right (Nat.le_refl _), Nat.sub_self] at hq
      cases hq
      rw [List.take_left' rfl] at g ⊢
      rw [upd_at]
      exact ⟨g.1, g.2.1, g.2.2.1, by rw [List.length_append]⟩
theorem mo_ex {cI cZ : ClassId} {h0 : hp_T} {M : Nat} {J J' : Nat → Int32} {R : Nat → Nat → Int32} {P : (Nat → Nat → Int32) → Prop} (hJ : J = J') (hP : P R) : ∃ R', mo_ov cI cZ h0 M J R = mo_ov cI cZ h0 M J' R' ∧ P R' := ⟨R, by rw [hJ], hP⟩
section READ
variable {G : gl_G} {cI cZ : ClassId} {h0 : hp_T} {M : Nat}
theorem l_Model_addField (hT : (gl_t G)[0]? = some (cI, .int)) {I : Nat → Int32} {R : Nat → Nat → Int32} {x y z : Int32} {Z : Option Value → hp_T → Prop} : ∀ (t : List Int32) (k : Nat), hol (R 2) k t → k + t.length ≤ 1500 → cnt isNm t < t.length →
    ev_E G m_Model_addField 45 [(0, .ref M), (1, .int x), (2, .int y), (3, .int z), (4, .int (nI (k + cnt isNm t)))] [] (mo_ov cI cZ h0 M I R) Z →
    ev_E G m_Model_addField 3 [(0, .ref M), (1, .int x), (2, .int y), (3, .int z), (4, .int (nI k))] [] (mo_ov cI cZ h0 M I R) Z := by
  intro t
  induction t with
  | nil => intro k hh hl hc K; simp [cnt] at hc
  | cons c t ih =>
    intro k hh hl hc K
    simp only [List.length_cons] at hl hc
    obtain ⟨hx, ht⟩ := hol_cons hh
    have hx' : R 2 (nI k).toNatClampNeg = c := by rw [nI_clamp (by omega)]; exact hx
    have hin : vp_in (nI k) (mo_len 2) := vp_in_nI (show k < 1500 by omega) (by decide)
    refine ev_aload_n d_Model_addField_3 rfl rfl ?_
    refine mo_get (fa_Model_13 rfl rfl) d_Model_addField_4 rfl ?_
    refine ev_iload d_Model_addField_7 rfl ?_
    refine mo_ald hT d_Model_addField_9 (by decide) hin ?_
    refine ev_bipush (v := 33) d_Model_addField_10 (by decide) ?_
    rw [hx']
    refine ev_icmp_lt (tgt := 45) d_Model_addField_12 (by decide) (fun c_12 => ?_) (fun c_12 => ?_)
    · rw [cnt_no (show isNm c = false from decide_eq_false (fun z => z.1 c_12))] at K
      exact K
    · refine ev_aload_n d_Model_addField_15 rfl rfl ?_
      refine mo_get (fa_Model_13 rfl rfl) d_Model_addField_16 rfl ?_
      refine ev_iload d_Model_addField_19 rfl ?_
      refine mo_ald hT d_Model_addField_21 (by decide) hin ?_
      refine ev_bipush (v := 126) d_Model_addField_22 (by decide) ?_
      rw [hx']
      refine ev_icmp_gt (tgt := 45) d_Model_addField_24 (by decide) (fun c_24 => ?_) (fun c_24 => ?_)
      · rw [cnt_no (show isNm c = false from decide_eq_false (fun z => z.2.1 c_24))] at K
        exact K
      · refine ev_aload_n d_Model_addField_27 rfl rfl ?_
        refine mo_get (fa_Model_13 rfl rfl) d_Model_addField_28 rfl ?_
        refine ev_iload d_Model_addField_31 rfl ?_
        refine mo_ald hT d_Model_addField_33 (by decide) hin ?_
        refine ev_bipush (v := 58) d_Model_addField_34 (by decide) ?_
        rw [hx']
        refine ev_icmp_eq (tgt := 45) d_Model_addField_36 (by decide) (fun c_36 => ?_) (fun c_36 => ?_)
        · rw [cnt_no (show isNm c = false from decide_eq_false (fun z => z.2.2 c_36))] at K
          exact K
        · refine ev_iinc d_Model_addField_39 rfl (by decide) ?_
          refine ev_goto (tgt := 3) d_Model_addField_42 (by decide) ?_
          have hy : isNm c = true := decide_eq_true ⟨c_12, c_24, c_36⟩
          rw [cnt_yes hy] at hc
          rw [cnt_yes hy, show k + (cnt isNm t + 1) = k + 1 + cnt isNm t by omega] at K
          refine ev_as [(0, .ref M), (1, .int x), (2, .int y), (3, .int z), (4, .int (nI (k + 1)))] ⟨rfl, rfl, rfl, rfl, ?_, trivial⟩ (ih (k + 1) ht (by omega) (by omega) K)
          show some (Value.int (nI k + 1)) = _
          rw [nI_succ]
/-- the field that a line tells -/
def lfd (l : List Int32) (c : Nat) : List Int32 × List Int32 := (l.take (cnt isNm l), l.drop (c + 1))
theorem c_Model_addField (hT : (gl_t G)[0]? = some (cI, .int)) {I : Nat → Int32} {R : Nat → Nat → Int32} {F : Flds} (hF : flds F R) {b c : Nat} {l : List Int32} (hh : hol (R 2) b l) (hl : b + l.length ≤ 1500) (hc : clp l = some c) (hI4 : I 4 = nI F.length) (hn : F.length < 40) (hI11 : I 11 = nI (fK F).length) (hkl : (fK F).length + l.length ≤ 1600) :
    ct_E G m_Model_addField [.ref M, .int (nI b), .int (nI (b + c)), .int (nI (b + l.length))] (mo_ov cI cZ h0 M I R) (cn (fun h' => ∃ R', h' = mo_ov cI cZ h0 M (upd (upd I 11 (nI (fK (F ++ [lfd l c])).length)) 4 (nI (F.length + 1))) R' ∧ flds (F ++ [lfd l c]) R' ∧ ∀ k, k ≠ 3 → k ≠ 4 → k ≠ 5 → k ≠ 6 → k ≠ 7 → R' k = R k)) := by
  obtain ⟨c1, c2, c3, c4⟩ := clp_lt hc
  have hlt : (l.take (cnt isNm l)).length = cnt isNm l := by rw [List.length_take]; omega
  have hld : (l.drop (c + 1)).length = l.length - (c + 1) := List.length_drop
  refine ct_of (ws' := tb_all) rfl rfl (Nat.le_of_ble_eq_true rfl) ?_
  refine ev_iload_n d_Model_addField_0 rfl rfl ?_
  refine ev_istore d_Model_addField_1 (by decide) ?_
  refine ev_as [(0, .ref M), (1, .int (nI b)), (2, .int (nI (b + c))), (3, .int (nI (b + l.length))), (4, .int (nI b))] ⟨rfl, rfl, rfl, rfl, rfl, trivial⟩ ?_
  refine l_Model_addField hT l b hh hl (by omega) ?_
  have hin3 : vp_in (I 4) (mo_len 3) := by rw [hI4]; exact vp_in_nI (show F.length < 40 by omega) (by decide)
  have cl4 : (I 4).toNatClampNeg = F.length := by rw [hI4, nI_clamp (by omega)]
  refine ev_aload_n d_Model_addField_45 rfl rfl ?_
  refine mo_get (fa_Model_16 rfl rfl) d_Model_addField_46 rfl ?_
  refine ev_aload_n d_Model_addField_49 rfl rfl ?_
  refine mo_get (fa_Model_116 rfl rfl) d_Model_addField_50 rfl ?_
  refine ev_aload_n d_Model_addField_53 rfl rfl ?_
  refine mo_get (fa_Model_113 rfl rfl) d_Model_addField_54 rfl ?_
  refine mo_ast hT d_Model_addField_57 (by decide) hin3 ?_
  rw [cl4]
  refine ev_aload_n d_Model_addField_58 rfl rfl ?_
  refine mo_get (fa_Model_19 rfl rfl) d_Model_addField_59 rfl ?_
  refine ev_aload_n d_Model_addField_62 rfl rfl ?_
  refine mo_get (fa_Model_116 rfl rfl) d_Model_addField_63 rfl ?_
  refine ev_iload d_Model_addField_66 rfl ?_
  refine ev_iload_n d_Model_addField_68 rfl rfl ?_
  refine ev_isub d_Model_addField_69 ?_
  refine mo_ast hT d_Model_addField_70 (by decide) hin3 ?_
  rw [cl4, pk_sub (by omega), show b + cnt isNm l - b = cnt isNm l by omega]
  refine ev_aload_n d_Model_addField_71 rfl rfl ?_
  refine ev_iload_n d_Model_addField_72 rfl rfl ?_
  refine ev_iload d_Model_addField_73 rfl ?_
  refine mo_Vn [.int (nI b), .int (nI (b + cnt isNm l))] [] ca_Model_addField_119 d_Model_addField_75 rfl (Nat.le_of_ble_eq_true rfl) (hlt ▸ c_Model_keep (t := l.take (cnt isNm l)) (b := b) hT (by rw [up_ne (by decide), up_ne (by decide)]; exact hol_take hh _) (by rw [hlt]; omega) hI11 (by rw [hlt]; omega)) (fun h1 z => ?_)
  subst z
  refine ev_aload_n d_Model_addField_78 rfl rfl ?_
  refine mo_get (fa_Model_22 rfl rfl) d_Model_addField_79 rfl ?_
  refine ev_aload_n d_Model_addField_82 rfl rfl ?_
  refine mo_get (fa_Model_116 rfl rfl) d_Model_addField_83 rfl ?_
  refine ev_aload_n d_Model_addField_86 rfl rfl ?_
  refine mo_get (fa_Model_113 rfl rfl) d_Model_addField_87 rfl ?_
  refine mo_ast hT d_Model_addField_90 (by decide) hin3 ?_
  rw [show (upd I 11 (nI ((fK F).length + cnt isNm l))) 4 = I 4 from rfl, cl4]
  refine ev_aload_n d_Model_addField_91 rfl rfl ?_
  refine mo_get (fa_Model_25 rfl rfl) d_Model_addField_92 rfl ?_
  refine ev_aload_n d_Model_addField_95 rfl rfl ?_
  refine mo_get (fa_Model_116 rfl rfl) d_Model_addField_96 rfl ?_
  refine ev_iload_n d_Model_addField_99 rfl rfl ?_
  refine ev_iload_n d_Model_addField_100 rfl rfl ?_
  refine ev_isub d_Model_addField_101 ?_
  refine ev_iconst (v := 1) d_Model_addField_102 (by decide) ?_
  refine ev_isub d_Model_addField_103 ?_
  refine mo_ast hT d_Model_addField_104 (by decide) hin3 ?_
  rw [show (upd I 11 (nI ((fK F).length + cnt isNm l))) 4 = I 4 from rfl, cl4, pk_sub (by omega), show nI (b + l.length - (b + c)) - 1 = nI (l.length - (c + 1)) by rw [show b + l.length - (b + c) = (l.length - (c + 1)) + 1 by omega, nI_pred]]
  refine ev_aload_n d_Model_addField_105 rfl rfl ?_
  refine ev_iload_n d_Model_addField_106 rfl rfl ?_
  refine ev_iconst (v := 1) d_Model_addField_107 (by decide) ?_
  refine ev_iadd d_Model_addField_108 ?_
  refine ev_iload_n d_Model_addField_109 rfl rfl ?_
  rw [show nI (b + c) + 1 = nI (b + (c + 1)) by rw [← nI_succ]; rfl]
  have hhv : hol (R 2) (b + (c + 1)) (l.drop (c + 1)) := hol_drop hh _
  have ee : b + l.length = b + (c + 1) + (l.drop (c + 1)).length := by rw [hld]; omega
  refine mo_Vn [.int (nI (b + (c + 1))), .int (nI (b + l.length))] [] ca_Model_addField_119 d_Model_addField_110 rfl (Nat.le_of_ble_eq_true rfl) (ee ▸ c_Model_keep (t := l.drop (c + 1)) (b := b + (c + 1)) (kl := (fK F).length + cnt isNm l) hT (by exact hhv) (by rw [hld]; omega) (by rfl) (by rw [hld]; omega)) (fun h1 z => ?_)
  subst z
  refine ev_aload_n d_Model_addField_113 rfl rfl ?_
  refine ev_dup d_Model_addField_114 rfl ?_
  refine mo_get (fa_Model_116 rfl rfl) d_Model_addField_115 rfl ?_
  refine ev_iconst (v := 1) d_Model_addField_118 (by decide) ?_
  refine ev_iadd d_Model_addField_119 ?_
  refine mo_put (fp_Model_116 rfl rfl) d_Model_addField_120 (Nat.le_of_ble_eq_true rfl) rfl rfl rfl ?_
  refine ev_vret d_Model_addField_123 rfl ?_
  refine ⟨rfl, mo_ex ?_ ⟨?_, ?_⟩⟩
  · rw [hld]
    rw [upd_same]
    have e9 : (fK (F ++ [lfd l c])).length = (fK F).length + cnt isNm l + (l.length - (c + 1)) := by
      rw [fK_snoc, List.length_append, List.length_append]
      show _ + ((l.take (cnt isNm l)).length + (l.drop (c + 1)).length) = _
      rw [hlt, hld]
      omega
    rw [e9]
    have e10 : (upd I 11 (nI ((fK F).length + cnt isNm l + (l.length - (c + 1))))) 4 + 1 = nI (F.length + 1) := by
      show I 4 + 1 = _
      rw [hI4, nI_succ]
    rw [e10]
  · refine flds_add hF ?_ ?_ ?_ ?_ ?_
    · show upd (R 3) F.length (I 11) = _
      rw [hI11]
    · show upd (R 4) F.length (nI (cnt isNm l)) = _
      rw [hlt]
    · show upd (R 5) F.length (nI ((fK F).length + cnt isNm l)) = _
      rw [hlt]
    · show upd (R 6) F.length (nI (l.length - (c + 1))) = _
      rw [hld]
    · show cpl (cpl (R 7) (fK F).length (l.take (cnt isNm l))) ((fK F).length + cnt isNm l) (l.drop (c + 1)) = _
      rw [hlt]
  · intro k k3 k4 k5 k6 k7
    rw [up_ne k7, up_ne k6, up_ne k5, up_ne k7, up_ne k4, up_ne k3]
end READ
end
section
/-! the reference: read -/
def nNL (b : Int32) : Bool := decide (¬ b = 10)
/-- where a line's text ends -/
def eL (l : List Int32) : Nat := if cnt nNL l < l.length ∧ 0 < cnt nNL l ∧ l[cnt nNL l - 1]? = some 13 then cnt nNL l - 1 else cnt nNL l
def isBlH : List Int32 → Bool
  | [] => false
  | x :: _ => isBl x
def addLast (F : Flds) (xs : List Int32) : Flds := match F.getLast? with
  | none => F
  | some q => F.dropLast ++ [(q.1, q.2 ++ xs)]
theorem addLast_snoc (F : Flds) (q : List Int32 × List Int32) (xs : List Int32) : addLast (F ++ [q]) xs = F ++ [(q.1, q.2 ++ xs)] := by
  unfold addLast
  simp
/-- the lines of what is left, with what has been read so far -/
def rdS : Nat → List Int32 → Flds → Nat → Bool → Flds × Nat
  | 0, _, F, b, _ => (F, b)
  | n + 1, l, F, b, g =>
    if l = [] then (F, b)
    else if isBlH (l.take (eL l)) = true then (if g = true then rdS n (l.drop (cnt nNL l + 1)) (addLast F (l.take (eL l))) b g else rdS n (l.drop (cnt nNL l + 1)) F (b + 1) g)
    else match clp (l.take (eL l)) with
      | none => rdS n (l.drop (cnt nNL l + 1)) F (b + 1) false
      | some c => if F.length = 40 then (F, b) else rdS n (l.drop (cnt nNL l + 1)) (F ++ [lfd (l.take (eL l)) c]) b true
def bI (g : Bool) : Int32 := bif g then 1 else 0
def rI (I : Nat → Int32) (a b c : Int32) : Nat → Int32 := upd (upd (upd (upd (upd I 0 0) 3 0) 4 a) 5 b) 11 c
theorem rI_5 (I : Nat → Int32) (a b c x : Int32) : upd (rI I a b c) 5 x = rI I a x c := by
  unfold rI
  rw [upd_comm (by decide), upd_same]
theorem rI_11 (I : Nat → Int32) (a b c x : Int32) : upd (rI I a b c) 11 x = rI I a b x := by
  unfold rI
  rw [upd_same]
theorem rI_4 (I : Nat → Int32) (a b c x : Int32) : upd (rI I a b c) 4 x = rI I x b c := by
  unfold rI
  rw [upd_comm (by decide), upd_comm (f := upd (upd (upd I 0 0) 3 0) 4 a) (by decide), upd_same]
theorem eL_le (l : List Int32) : eL l ≤ cnt nNL l := by
  unfold eL
  split <;> omega
section READ2
variable {G : gl_G} {cI cZ : ClassId} {h0 : hp_T} {M : Nat}
theorem l_Model_read1 (hT : (gl_t G)[0]? = some (cI, .int)) {I : Nat → Int32} {R : Nat → Nat → Int32} {n b : Nat} {g : Int32} (hn : n ≤ 1500) {Z : Option Value → hp_T → Prop} : ∀ (t : List Int32) (k : Nat), hol (R 2) k t → k + t.length = n →
    ev_E G m_Model_read 66 [(0, .ref M), (1, .int (nI n)), (2, .int g), (3, .int (nI b)), (4, .int (nI (k + cnt nNL t)))] [] (mo_ov cI cZ h0 M I R) Z →
    ev_E G m_Model_read 42 [(0, .ref M), (1, .int (nI n)), (2, .int g), (3, .int (nI b)), (4, .int (nI k))] [] (mo_ov cI cZ h0 M I R) Z := by
  intro t
  induction t with
  | nil =>
    intro k hh hl K
    refine ev_iload d_Model_read_42 rfl ?_
    refine ev_iload_n d_Model_read_44 rfl rfl ?_
    refine ev_icmp_ge (tgt := 66) d_Model_read_45 (by decide) (fun c_45 => ?_) (fun c_45 => ?_)
    · exact K
    · exact absurd (nI_le (a := n) (b := k) (by simp at hl; omega) (by simp at hl; omega)) c_45
  | cons x t ih =>
    intro k hh hl K
    simp only [List.length_cons] at hl
    obtain ⟨hx, ht⟩ := hol_cons hh
    have hx' : R 2 (nI k).toNatClampNeg = x := by rw [nI_clamp (by omega)]; exact hx
    have hin : vp_in (nI k) (mo_len 2) := vp_in_nI (show k < 1500 by omega) (by decide)
    refine ev_iload d_Model_read_42 rfl ?_
    refine ev_iload_n d_Model_read_44 rfl rfl ?_
    refine ev_icmp_ge (tgt := 66) d_Model_read_45 (by decide) (fun c_45 => ?_) (fun c_45 => ?_)
    · exact absurd c_45 (nI_ge (a := k) (b := n) (by omega) (by omega))
    · refine ev_aload_n d_Model_read_48 rfl rfl ?_
      refine mo_get (fa_Model_13 rfl rfl) d_Model_read_49 rfl ?_
      refine ev_iload d_Model_read_52 rfl ?_
      refine mo_ald hT d_Model_read_54 (by decide) hin ?_
      refine ev_bipush (v := 10) d_Model_read_55 (by decide) ?_
      rw [hx']
      refine ev_icmp_eq (tgt := 66) d_Model_read_57 (by decide) (fun c_57 => ?_) (fun c_57 => ?_)
      · rw [cnt_no (show nNL x = false from decide_eq_false (fun z => z c_57))] at K
        exact K
      · refine ev_iinc d_Model_read_60 rfl (by decide) ?_
        refine ev_goto (tgt := 42) d_Model_read_63 (by decide) ?_
        rw [cnt_yes (show nNL x = true from decide_eq_true c_57), show k + (cnt nNL t + 1) = k + 1 + cnt nNL t by omega] at K
        refine ev_as [(0, .ref M), (1, .int (nI n)), (2, .int g), (3, .int (nI b)), (4, .int (nI (k + 1)))] ⟨rfl, rfl, rfl, rfl, ?_, trivial⟩ (ih (k + 1) ht (by omega) K)
        show some (Value.int (nI k + 1)) = _
        rw [nI_succ]
theorem l_Model_read2 (hT : (gl_t G)[0]? = some (cI, .int)) {I : Nat → Int32} {R : Nat → Nat → Int32} {n b : Nat} {g : Int32} (hn : n ≤ 1500) {Z : Option Value → hp_T → Prop} {l : List Int32} (hh : hol (R 2) b l) (hl : b + l.length = n)
    (K : ev_E G m_Model_read 103 [(0, .ref M), (1, .int (nI n)), (2, .int g), (3, .int (nI b)), (4, .int (nI (b + cnt nNL l))), (5, .int (nI (b + eL l)))] [] (mo_ov cI cZ h0 M I R) Z) :
    ev_E G m_Model_read 66 [(0, .ref M), (1, .int (nI n)), (2, .int g), (3, .int (nI b)), (4, .int (nI (b + cnt nNL l)))] [] (mo_ov cI cZ h0 M I R) Z := by
  have hs := cnt_le nNL l
  refine ev_iload d_Model_read_66 rfl ?_
  refine ev_iload_n d_Model_read_68 rfl rfl ?_
  refine ev_icmp_ge (tgt := 99) d_Model_read_69 (by decide) (fun c_69 => ?_) (fun c_69 => ?_)
  · refine ev_iload d_Model_read_99 rfl ?_
    refine ev_istore d_Model_read_101 (by decide) ?_
    have e : eL l = cnt nNL l := by
      unfold eL
      rw [if_neg]
      rintro ⟨h1, -⟩
      have := (nI_leI (by omega) (by omega)).mp c_69
      omega
    rw [e] at K
    exact K
  · refine ev_iload d_Model_read_72 rfl ?_
    refine ev_iload_n d_Model_read_74 rfl rfl ?_
    refine ev_icmp_le (tgt := 99) d_Model_read_75 (by decide) (fun c_75 => ?_) (fun c_75 => ?_)
    · refine ev_iload d_Model_read_99 rfl ?_
      refine ev_istore d_Model_read_101 (by decide) ?_
      have e : eL l = cnt nNL l := by
        unfold eL
        rw [if_neg]
        rintro ⟨-, h1, -⟩
        have := (nI_leI (by omega) (by omega)).mp c_75
        omega
      rw [e] at K
      exact K
    · have h1 : cnt nNL l < l.length := by
        rcases Nat.lt_or_ge (cnt nNL l) l.length with q | q
        · exact q
        · exact absurd (nI_le (by omega) (by omega)) c_69
      have h2 : 0 < cnt nNL l := by
        rcases Nat.eq_zero_or_pos (cnt nNL l) with q | q
        · exact absurd (nI_le (by omega) (by omega)) c_75
        · exact q
      have e1 : nI (b + cnt nNL l) - 1 = nI (b + (cnt nNL l - 1)) := by
        rw [show b + cnt nNL l = (b + (cnt nNL l - 1)) + 1 by omega, nI_pred]
      have hin : vp_in (nI (b + cnt nNL l) - 1) (mo_len 2) := by rw [e1]; exact vp_in_nI (show _ < 1500 by omega) (by decide)
      have hat := hol_at hh (j := cnt nNL l - 1) (by omega)
      refine ev_aload_n d_Model_read_78 rfl rfl ?_
      refine mo_get (fa_Model_13 rfl rfl) d_Model_read_79 rfl ?_
      refine ev_iload d_Model_read_82 rfl ?_
      refine ev_iconst (v := 1) d_Model_read_84 (by decide) ?_
      refine ev_isub d_Model_read_85 ?_
      refine mo_ald hT d_Model_read_86 (by decide) hin ?_
      refine ev_bipush (v := 13) d_Model_read_87 (by decide) ?_
      rw [e1, nI_clamp (by omega)]
      refine ev_icmp_ne (tgt := 99) d_Model_read_89 (by decide) (fun c_89 => ?_) (fun c_89 => ?_)
      · refine ev_iload d_Model_read_99 rfl ?_
        refine ev_istore d_Model_read_101 (by decide) ?_
        have e : eL l = cnt nNL l := by
          unfold eL
          rw [if_neg]
          rintro ⟨-, -, h3⟩
          rw [hat] at h3
          exact c_89 (Option.some.inj h3)
        rw [e] at K
        exact K
      · refine ev_iload d_Model_read_92 rfl ?_
        refine ev_iconst (v := 1) d_Model_read_94 (by decide) ?_
        refine ev_isub d_Model_read_95 ?_
        refine ev_goto (tgt := 101) d_Model_read_96 (by decide) ?_
        refine ev_istore d_Model_read_101 (by decide) ?_
        have e : eL l = cnt nNL l - 1 := by
          unfold eL
          rw [if_pos ⟨h1, h2, by rw [hat, c_89]⟩]
        rw [e] at K
        refine ev_as [(0, .ref M), (1, .int (nI n)), (2, .int g), (3, .int (nI b)), (4, .int (nI (b + cnt nNL l))), (5, .int (nI (b + (cnt nNL l - 1))))] ⟨rfl, rfl, rfl, rfl, rfl, ?_, trivial⟩ K
        show some (Value.int (nI (b + cnt nNL l) - 1)) = _
        rw [e1]
def rdP (cI cZ : ClassId) (h0 : hp_T) (M : Nat) (I : Nat → Int32) (R : Nat → Nat → Int32) (S : Flds × Nat) : Value → hp_T → Prop := fun v h' => v = .int (nI S.1.length) ∧ S.1.length ≤ 40 ∧ (fK S.1).length ≤ 1501 ∧ S.2 ≤ 1501 ∧ ∃ R', h' = mo_ov cI cZ h0 M (rI I (nI S.1.length) (nI S.2) (nI (fK S.1).length)) R' ∧ flds S.1 R' ∧ ∀ k, k ≠ 3 → k ≠ 4 → k ≠ 5 → k ≠ 6 → k ≠ 7 → R' k = R k
theorem l_Model_read (hT : (gl_t G)[0]? = some (cI, .int)) {I : Nat → Int32} {n : Nat} (hn : n ≤ 1500) : ∀ (fu : Nat) (l : List Int32) (b : Nat) (F : Flds) (bd : Nat) (g : Bool) (R : Nat → Nat → Int32), l.length ≤ fu → hol (R 2) b l → (b + l.length = n ∨ (l = [] ∧ n ≤ b)) → flds F R → F.length ≤ 40 → (fK F).length ≤ b → bd ≤ b → b ≤ 1501 → (g = true → F ≠ []) →
    ev_E G m_Model_read 34 [(0, .ref M), (1, .int (nI n)), (2, .int (bI g)), (3, .int (nI b))] [] (mo_ov cI cZ h0 M (rI I (nI F.length) (nI bd) (nI (fK F).length)) R) (cr (rdP cI cZ h0 M I R (rdS fu l F bd g))) := by
  intro fu
  induction fu with
  | zero =>
    intro l b F bd g R hfu hh hl hF hF40 hk hbd hb hg
    have hl0 : l = [] := List.length_eq_zero_iff.mp (by omega)
    subst hl0
    refine ev_iload_n d_Model_read_34 rfl rfl ?_
    refine ev_iload_n d_Model_read_35 rfl rfl ?_
    refine ev_icmp_ge (tgt := 229) d_Model_read_36 (by decide) (fun c_36 => ?_) (fun c_36 => ?_)
    · refine ev_aload_n d_Model_read_229 rfl rfl ?_
      refine mo_get (fa_Model_116 rfl rfl) d_Model_read_230 rfl ?_
      refine ev_iret d_Model_read_233 rfl ?_
      exact ⟨_, rfl, rfl, hF40, by show (fK F).length ≤ _; omega, by show bd ≤ _; omega, R, rfl, hF, fun _ _ _ _ _ _ => rfl⟩
    · exact absurd (nI_le (a := n) (b := b) (by simp at hl; omega) (by omega)) c_36
  | succ fu ih =>
    intro l b F bd g R hfu hh hl hF hF40 hk hbd hb hg
    refine ev_iload_n d_Model_read_34 rfl rfl ?_
    refine ev_iload_n d_Model_read_35 rfl rfl ?_
    refine ev_icmp_ge (tgt := 229) d_Model_read_36 (by decide) (fun c_36 => ?_) (fun c_36 => ?_)
    · have hl0 : l = [] := by
        have := (nI_leI (by omega) (by omega)).mp c_36
        rcases hl with q | q
        · exact List.length_eq_zero_iff.mp (by omega)
        · exact q.1
      subst hl0
      refine ev_aload_n d_Model_read_229 rfl rfl ?_
      refine mo_get (fa_Model_116 rfl rfl) d_Model_read_230 rfl ?_
      refine ev_iret d_Model_read_233 rfl ?_
      refine ⟨_, rfl, ?_⟩
      unfold rdS
      rw [if_pos rfl]
      exact ⟨rfl, hF40, by show (fK F).length ≤ _; omega, by show bd ≤ _; omega, R, rfl, hF, fun _ _ _ _ _ _ => rfl⟩
    · have hlt : b < n := by
        rcases Nat.lt_or_ge b n with q | q
        · exact q
        · exact absurd (nI_le q (by omega)) c_36
      have hl1 : b + l.length = n := by
        rcases hl with q | q
        · exact q
        · omega
      have hne : l ≠ [] := fun z => by rw [z] at hl1; simp at hl1; omega
      have hs := cnt_le nNL l
      have he := eL_le l
      have hlen : (l.take (eL l)).length = eL l := by rw [List.length_take]; omega
      have hhl : hol (R 2) b (l.take (eL l)) := hol_take hh _
      have hrest : hol (R 2) (b + (cnt nNL l + 1)) (l.drop (cnt nNL l + 1)) := hol_drop hh _
      have hfu2 : (l.drop (cnt nNL l + 1)).length ≤ fu := by rw [List.length_drop]; omega
      have hl2 : b + (cnt nNL l + 1) + (l.drop (cnt nNL l + 1)).length = n ∨ (l.drop (cnt nNL l + 1) = [] ∧ n ≤ b + (cnt nNL l + 1)) := by
        rw [List.length_drop]
        by_cases q : cnt nNL l + 1 ≤ l.length
        · left; omega
        · right
          exact ⟨List.drop_eq_nil_iff.mpr (by omega), by omega⟩
      -- back to the head
      have back : ∀ (F2 : Flds) (bd2 : Nat) (g2 : Bool) (R2 : Nat → Nat → Int32) (y6 : Int32), rdS (fu + 1) l F bd g = rdS fu (l.drop (cnt nNL l + 1)) F2 bd2 g2 → R2 2 = R 2 → flds F2 R2 → F2.length ≤ 40 → (fK F2).length ≤ b + (cnt nNL l + 1) → bd2 ≤ b + (cnt nNL l + 1) → (g2 = true → F2 ≠ []) → (∀ k, k ≠ 3 → k ≠ 4 → k ≠ 5 → k ≠ 6 → k ≠ 7 → R2 k = R k) →
          ev_E G m_Model_read 221 [(0, .ref M), (1, .int (nI n)), (2, .int (bI g2)), (3, .int (nI b)), (4, .int (nI (b + cnt nNL l))), (5, .int (nI (b + eL l))), (6, .int y6)] [] (mo_ov cI cZ h0 M (rI I (nI F2.length) (nI bd2) (nI (fK F2).length)) R2) (cr (rdP cI cZ h0 M I R (rdS (fu + 1) l F bd g))) := by
        intro F2 bd2 g2 R2 y6 e0 e2 hF2 hF240 hk2 hbd2 hg2 hR2
        refine ev_iload d_Model_read_221 rfl ?_
        refine ev_iconst (v := 1) d_Model_read_223 (by decide) ?_
        refine ev_iadd d_Model_read_224 ?_
        refine ev_istore_n d_Model_read_225 rfl (by decide) ?_
        refine ev_goto (tgt := 34) d_Model_read_226 (by decide) ?_
        rw [e0]
        refine ev_as [(0, .ref M), (1, .int (nI n)), (2, .int (bI g2)), (3, .int (nI (b + (cnt nNL l + 1))))] ⟨rfl, rfl, rfl, ?_, trivial⟩ (ev_to (ih (l.drop (cnt nNL l + 1)) (b + (cnt nNL l + 1)) F2 bd2 g2 R2 hfu2 (by rw [e2]; exact hrest) hl2 hF2 hF240 hk2 hbd2 (by omega) hg2) ?_)
        · show some (Value.int (nI (b + cnt nNL l) + 1)) = _
          rw [← nI_succ, Nat.add_assoc]
        · rintro o h' ⟨v, rfl, hv, q1, q2, q3, R', hh', hf', hr'⟩
          exact ⟨v, rfl, hv, q1, q2, q3, R', hh', hf', fun k a1 a2 a3 a4 a5 => (hr' k a1 a2 a3 a4 a5).trans (hR2 k a1 a2 a3 a4 a5)⟩
      refine ev_iload_n d_Model_read_39 rfl rfl ?_
      refine ev_istore d_Model_read_40 (by decide) ?_
      refine ev_as [(0, .ref M), (1, .int (nI n)), (2, .int (bI g)), (3, .int (nI b)), (4, .int (nI b))] ⟨rfl, rfl, rfl, rfl, rfl, trivial⟩ ?_
      refine l_Model_read1 hT hn l b hh hl1 ?_
      refine l_Model_read2 hT hn hh hl1 ?_
      refine ev_aload_n d_Model_read_103 rfl rfl ?_
      refine ev_iload_n d_Model_read_104 rfl rfl ?_
      refine ev_iload d_Model_read_105 rfl ?_
      have ce := c_Model_colonOf (G := G) (cZ := cZ) (h0 := h0) (M := M) (I := rI I (nI F.length) (nI bd) (nI (fK F).length)) hT hhl (by rw [hlen]; omega)
      rw [hlen] at ce
      refine mo_Vv [.int (nI b), .int (nI (b + eL l))] [] ca_Model_read_125 d_Model_read_107 rfl (Nat.le_of_ble_eq_true rfl) (ce) ?_
      refine ev_istore d_Model_read_110 (by decide) ?_
      refine ev_iload d_Model_read_112 rfl ?_
      refine ev_iload_n d_Model_read_114 rfl rfl ?_
      have other : isBlH (l.take (eL l)) = false → ev_E G m_Model_read 175 [(0, .ref M), (1, .int (nI n)), (2, .int (bI g)), (3, .int (nI b)), (4, .int (nI (b + cnt nNL l))), (5, .int (nI (b + eL l))), (6, .int (cla b (l.take (eL l))))] [] (mo_ov cI cZ h0 M (rI I (nI F.length) (nI bd) (nI (fK F).length)) R) (cr (rdP cI cZ h0 M I R (rdS (fu + 1) l F bd g))) := by
        intro hbl
        refine ev_iload d_Model_read_175 rfl ?_
        refine ev_iconst (v := (-1)) d_Model_read_177 (by decide) ?_
        refine ev_icmp_ne (tgt := 196) d_Model_read_178 (by decide) (fun c_178 => ?_) (fun c_178 => ?_)
        · obtain ⟨c, hc⟩ : ∃ c, clp (l.take (eL l)) = some c := by
            cases hc : clp (l.take (eL l)) with
            | none => exact absurd (by unfold cla; rw [hc]) c_178
            | some c => exact ⟨c, rfl⟩
          have hcl := clp_lt hc
          refine ev_aload_n d_Model_read_196 rfl rfl ?_
          refine mo_get (fa_Model_116 rfl rfl) d_Model_read_197 rfl ?_
          refine ev_bipush (v := 40) d_Model_read_200 (by decide) ?_
          refine ev_icmp_ne (tgt := 210) d_Model_read_202 (by decide) (fun c_202 => ?_) (fun c_202 => ?_)
          · have hlt40 : F.length < 40 := by
              rcases Nat.lt_or_ge F.length 40 with q | q
              · exact q
              · exact absurd (show nI F.length = 40 by rw [show F.length = 40 by omega]; rfl) c_202
            have eS : rdS (fu + 1) l F bd g = rdS fu (l.drop (cnt nNL l + 1)) (F ++ [lfd (l.take (eL l)) c]) bd true := by
              rw [rdS, if_neg hne, if_neg (by rw [hbl]; decide), hc]
              show (if F.length = 40 then _ else _) = _
              rw [if_neg (by omega)]
            have ecl : cla b (l.take (eL l)) = nI (b + c) := by unfold cla; rw [hc]
            rw [ecl]
            refine ev_aload_n d_Model_read_210 rfl rfl ?_
            refine ev_iload_n d_Model_read_211 rfl rfl ?_
            refine ev_iload d_Model_read_212 rfl ?_
            refine ev_iload d_Model_read_214 rfl ?_
            have ca := c_Model_addField (G := G) (cZ := cZ) (h0 := h0) (M := M) (I := rI I (nI F.length) (nI bd) (nI (fK F).length)) hT hF hhl (by rw [hlen]; omega) hc rfl hlt40 rfl (by rw [hlen]; omega)
            rw [hlen] at ca
            refine mo_Vn [.int (nI b), .int (nI (b + c)), .int (nI (b + eL l))] [] ca_Model_read_129 d_Model_read_216 rfl (Nat.le_of_ble_eq_true rfl) (ca) (fun h1 z => ?_)
            obtain ⟨R2, rfl, hF2, hR2⟩ := z
            refine ev_iconst (v := 1) d_Model_read_219 (by decide) ?_
            refine ev_istore_n d_Model_read_220 rfl (by decide) ?_
            rw [rI_11, rI_4]
            have hfk : (fK (F ++ [lfd (l.take (eL l)) c])).length ≤ (fK F).length + eL l := by
              rw [fK_snoc, List.length_append, List.length_append]
              show _ + (((l.take (eL l)).take (cnt isNm (l.take (eL l)))).length + ((l.take (eL l)).drop (c + 1)).length) ≤ _
              rw [List.length_take, List.length_drop, hlen]
              omega
            have k9 := back (F ++ [lfd (l.take (eL l)) c]) bd true R2 (nI (b + c)) eS (hR2 2 (by decide) (by decide) (by decide) (by decide) (by decide)) hF2 (by simp; omega) (by omega) (by omega) (fun _ => by simp) hR2
            rw [show (F ++ [lfd (l.take (eL l)) c]).length = F.length + 1 by simp] at k9
            exact k9
          · refine ev_aload_n d_Model_read_205 rfl rfl ?_
            refine mo_get (fa_Model_116 rfl rfl) d_Model_read_206 rfl ?_
            refine ev_iret d_Model_read_209 rfl ?_
            have h40 : F.length = 40 := (nI_eq (by omega) (by omega)).mp (show nI F.length = nI 40 from c_202)
            have eS : rdS (fu + 1) l F bd g = (F, bd) := by
              rw [rdS, if_neg hne, if_neg (by rw [hbl]; decide), hc]
              show (if F.length = 40 then _ else _) = _
              rw [if_pos h40]
            rw [eS]
            exact ⟨_, rfl, rfl, hF40, by show (fK F).length ≤ _; omega, by show bd ≤ _; omega, R, rfl, hF, fun _ _ _ _ _ _ => rfl⟩
        · have hc : clp (l.take (eL l)) = none := by
            cases hc : clp (l.take (eL l)) with
            | none => rfl
            | some c =>
              have h1 : cla b (l.take (eL l)) = nI (b + c) := by unfold cla; rw [hc]
              have h2 := (clp_lt hc).1
              rw [h1] at c_178
              exact absurd (show nI (b + c) < 0 by rw [c_178]; decide) (nI_pos (by omega))
          have eS : rdS (fu + 1) l F bd g = rdS fu (l.drop (cnt nNL l + 1)) F (bd + 1) false := by
            rw [rdS, if_neg hne, if_neg (by rw [hbl]; decide), hc]
          refine ev_aload_n d_Model_read_181 rfl rfl ?_
          refine ev_dup d_Model_read_182 rfl ?_
          refine mo_get (fa_Model_122 rfl rfl) d_Model_read_183 rfl ?_
          refine ev_iconst (v := 1) d_Model_read_186 (by decide) ?_
          refine ev_iadd d_Model_read_187 ?_
          refine mo_put (fp_Model_122 rfl rfl) d_Model_read_188 (Nat.le_of_ble_eq_true rfl) rfl rfl rfl ?_
          refine ev_iconst (v := 0) d_Model_read_191 (by decide) ?_
          refine ev_istore_n d_Model_read_192 rfl (by decide) ?_
          refine ev_goto (tgt := 221) d_Model_read_193 (by decide) ?_
          rw [rI_5, show (rI I (nI F.length) (nI bd) (nI (fK F).length)) 5 + 1 = nI (bd + 1) from (nI_succ bd).symm]
          exact back F (bd + 1) false R _ eS rfl hF hF40 (by omega) (by omega) (fun z => by cases z) (fun _ _ _ _ _ _ => rfl)
      refine ev_icmp_le (tgt := 175) d_Model_read_115 (by decide) (fun c_115 => ?_) (fun c_115 => ?_)
      · have e0 : eL l = 0 := by
          have := (nI_leI (by omega) (by omega)).mp c_115
          omega
        exact other (by rw [e0]; rfl)
      · have e1 : 0 < eL l := by
          rcases Nat.eq_zero_or_pos (eL l) with q | q
          · exact absurd (nI_le (by omega) (by omega)) c_115
          · exact q
        obtain ⟨x, t, hxt⟩ : ∃ x t, l.take (eL l) = x :: t := by
          cases hh9 : l.take (eL l) with
          | nil => rw [hh9] at hlen; simp at hlen; omega
          | cons x t => exact ⟨x, t, rfl⟩
        have hx : R 2 b = x := by
          rw [hxt] at hhl
          exact (hol_cons hhl).1
        have hin : vp_in (nI b) (mo_len 2) := vp_in_nI (show b < 1500 by omega) (by decide)
        refine ev_aload_n d_Model_read_118 rfl rfl ?_
        refine mo_get (fa_Model_13 rfl rfl) d_Model_read_119 rfl ?_
        refine ev_iload_n d_Model_read_122 rfl rfl ?_
        refine mo_ald hT d_Model_read_123 (by decide) hin ?_
        rw [nI_clamp (by omega), hx]
        refine ev_Sv [.int x] [] ca_Model_read_109 d_Model_read_124 rfl (Nat.le_of_ble_eq_true rfl) (c_Model_isBlank x) ?_
        refine ev_if_eq (tgt := 175) d_Model_read_127 (by decide) (fun c_127 => ?_) (fun c_127 => ?_)
        · exact other (by rw [hxt]; exact bl_no c_127)
        · have hbl : isBlH (l.take (eL l)) = true := by rw [hxt]; exact bl_of c_127
          refine ev_iload_n d_Model_read_130 rfl rfl ?_
          refine ev_if_eq (tgt := 162) d_Model_read_131 (by decide) (fun c_131 => ?_) (fun c_131 => ?_)
          · have hg0 : g = false := by
              cases g with
              | false => rfl
              | true => exact absurd c_131 (by decide)
            subst hg0
            have eS : rdS (fu + 1) l F bd false = rdS fu (l.drop (cnt nNL l + 1)) F (bd + 1) false := by
              rw [rdS, if_neg hne, if_pos hbl]
              rfl
            refine ev_aload_n d_Model_read_162 rfl rfl ?_
            refine ev_dup d_Model_read_163 rfl ?_
            refine mo_get (fa_Model_122 rfl rfl) d_Model_read_164 rfl ?_
            refine ev_iconst (v := 1) d_Model_read_167 (by decide) ?_
            refine ev_iadd d_Model_read_168 ?_
            refine mo_put (fp_Model_122 rfl rfl) d_Model_read_169 (Nat.le_of_ble_eq_true rfl) rfl rfl rfl ?_
            refine ev_goto (tgt := 221) d_Model_read_172 (by decide) ?_
            rw [rI_5, show (rI I (nI F.length) (nI bd) (nI (fK F).length)) 5 + 1 = nI (bd + 1) from (nI_succ bd).symm]
            exact back F (bd + 1) false R _ eS rfl hF hF40 (by omega) (by omega) (fun z => by cases z) (fun _ _ _ _ _ _ => rfl)
          · have hg1 : g = true := by
              cases g with
              | false => exact absurd rfl c_131
              | true => rfl
            subst hg1
            have eS : rdS (fu + 1) l F bd true = rdS fu (l.drop (cnt nNL l + 1)) (addLast F (l.take (eL l))) bd true := by
              rw [rdS, if_neg hne, if_pos hbl]
              rfl
            obtain ⟨F0, q, rfl⟩ : ∃ F0 q, F = F0 ++ [q] := by
              rcases List.eq_nil_or_concat F with z | ⟨F0, q, z⟩
              · exact absurd z (hg rfl)
              · exact ⟨F0, q, by rw [z]; simp⟩
            obtain ⟨nm, vl⟩ := q
            rw [addLast_snoc] at eS
            have hlenF : (F0 ++ [(nm, vl)]).length = F0.length + 1 := by simp
            refine ev_aload_n d_Model_read_134 rfl rfl ?_
            refine ev_iload_n d_Model_read_135 rfl rfl ?_
            refine ev_iload d_Model_read_136 rfl ?_
            have ck := c_Model_keep (G := G) (cZ := cZ) (h0 := h0) (M := M) (I := rI I (nI (F0 ++ [(nm, vl)]).length) (nI bd) (nI (fK (F0 ++ [(nm, vl)])).length)) (kl := (fK (F0 ++ [(nm, vl)])).length) hT hhl (by rw [hlen]; omega) rfl (by rw [hlen]; omega)
            rw [hlen] at ck
            refine mo_Vn [.int (nI b), .int (nI (b + eL l))] [] ca_Model_read_119 d_Model_read_138 rfl (Nat.le_of_ble_eq_true rfl) (ck) (fun h1 z => ?_)
            subst z
            rw [rI_11]
            have ef : (nI (F0 ++ [(nm, vl)]).length : Int32) - 1 = nI F0.length := by rw [hlenF, nI_pred]
            have hin6 : vp_in (nI (F0 ++ [(nm, vl)]).length - 1) (mo_len 6) := by rw [ef]; exact vp_in_nI (show F0.length < 40 by omega) (by decide)
            have g6 := (hF.2 F0.length (nm, vl) (by rw [List.getElem?_append_right (Nat.le_refl _), Nat.sub_self]; rfl)).2.2.2
            refine ev_aload_n d_Model_read_141 rfl rfl ?_
            refine mo_get (fa_Model_25 rfl rfl) d_Model_read_142 rfl ?_
            refine ev_aload_n d_Model_read_145 rfl rfl ?_
            refine mo_get (fa_Model_116 rfl rfl) d_Model_read_146 rfl ?_
            refine ev_iconst (v := 1) d_Model_read_149 (by decide) ?_
            refine ev_isub d_Model_read_150 ?_
            refine ev_dup2_11 d_Model_read_151 rfl rfl ?_
            refine mo_ald hT d_Model_read_152 (by decide) hin6 ?_
            refine ev_iload d_Model_read_153 rfl ?_
            refine ev_iload_n d_Model_read_155 rfl rfl ?_
            refine ev_isub d_Model_read_156 ?_
            refine ev_iadd d_Model_read_157 ?_
            refine mo_ast hT d_Model_read_158 (by decide) hin6 ?_
            refine ev_goto (tgt := 221) d_Model_read_159 (by decide) ?_
            rw [show (rI I (nI (F0 ++ [(nm, vl)]).length) (nI bd) (nI ((fK (F0 ++ [(nm, vl)])).length + eL l))) 4 - 1 = nI F0.length from ef, nI_clamp (by omega)]
            rw [up_ne (show 6 ≠ 7 by decide), g6, pk_sub (by omega), show b + eL l - b = eL l by omega, nI_add]
            have e9 : fK (F0 ++ [(nm, vl ++ l.take (eL l))]) = fK (F0 ++ [(nm, vl)]) ++ l.take (eL l) := by simp [fK]
            have hfk : (fK (F0 ++ [(nm, vl ++ l.take (eL l))])).length = (fK (F0 ++ [(nm, vl)])).length + eL l := by rw [e9, List.length_append, hlen]
            have k9 := back (F0 ++ [(nm, vl ++ l.take (eL l))]) bd true (va_up (va_up R 7 (cpl (R 7) (fK (F0 ++ [(nm, vl)])).length (l.take (eL l)))) 6 (upd (R 6) F0.length (nI (vl.length + eL l)))) (cla b (l.take (eL l))) eS rfl (flds_more hF rfl rfl rfl (by show upd (R 6) F0.length (nI (vl.length + eL l)) = _; rw [hlen]) rfl) (by simp; omega) (by omega) (by omega) (fun _ => by simp) (fun k _ _ _ k6 k7 => by rw [up_ne k6, up_ne k7])
            rw [hfk, show (F0 ++ [(nm, vl ++ l.take (eL l))]).length = (F0 ++ [(nm, vl)]).length by simp] at k9
            exact k9
theorem c_Model_read (hT : (gl_t G)[0]? = some (cI, .int)) {I : Nat → Int32} {R : Nat → Nat → Int32} {T : List Int32} (hn : T.length ≤ 1500) (hI : I 3 = nI T.length) (hh : hol (R 2) 0 T) : ct_E G m_Model_read [.ref M] (mo_ov cI cZ h0 M I R) (cr (rdP cI cZ h0 M I R (rdS T.length T [] 0 false))) := by
  refine ct_of (ws' := tb_all) rfl rfl (Nat.le_of_ble_eq_true rfl) ?_
  refine ev_aload_n d_Model_read_0 rfl rfl ?_
  refine ev_iconst (v := 0) d_Model_read_1 (by decide) ?_
  refine mo_put (fp_Model_99 rfl rfl) d_Model_read_2 (Nat.le_of_ble_eq_true rfl) rfl rfl rfl ?_
  refine ev_aload_n d_Model_read_5 rfl rfl ?_
  refine mo_get (fa_Model_106 rfl rfl) d_Model_read_6 rfl ?_
  refine ev_istore_n d_Model_read_9 rfl (by decide) ?_
  refine ev_aload_n d_Model_read_10 rfl rfl ?_
  refine ev_iconst (v := 0) d_Model_read_11 (by decide) ?_
  refine mo_put (fp_Model_106 rfl rfl) d_Model_read_12 (Nat.le_of_ble_eq_true rfl) rfl rfl rfl ?_
  refine ev_aload_n d_Model_read_15 rfl rfl ?_
  refine ev_iconst (v := 0) d_Model_read_16 (by decide) ?_
  refine mo_put (fp_Model_116 rfl rfl) d_Model_read_17 (Nat.le_of_ble_eq_true rfl) rfl rfl rfl ?_
  refine ev_aload_n d_Model_read_20 rfl rfl ?_
  refine ev_iconst (v := 0) d_Model_read_21 (by decide) ?_
  refine mo_put (fp_Model_122 rfl rfl) d_Model_read_22 (Nat.le_of_ble_eq_true rfl) rfl rfl rfl ?_
  refine ev_aload_n d_Model_read_25 rfl rfl ?_
  refine ev_iconst (v := 0) d_Model_read_26 (by decide) ?_
  refine mo_put (fp_Model_113 rfl rfl) d_Model_read_27 (Nat.le_of_ble_eq_true rfl) rfl rfl rfl ?_
  refine ev_iconst (v := 0) d_Model_read_30 (by decide) ?_
  refine ev_istore_n d_Model_read_31 rfl (by decide) ?_
  refine ev_iconst (v := 0) d_Model_read_32 (by decide) ?_
  refine ev_istore_n d_Model_read_33 rfl (by decide) ?_
  rw [show (upd I 0 0) 3 = nI T.length from hI]
  refine ev_as [(0, .ref M), (1, .int (nI T.length)), (2, .int (bI false)), (3, .int (nI 0))] ⟨rfl, rfl, rfl, rfl, trivial⟩ ?_
  have k := l_Model_read (G := G) (cZ := cZ) (h0 := h0) (M := M) (I := I) hT hn T.length T 0 [] 0 false R (Nat.le_refl _) hh (Or.inl (Nat.zero_add _)) (flds_nil R) (Nat.zero_le _) (Nat.zero_le _) (Nat.zero_le _) (Nat.zero_le _) (fun z => by cases z)
  exact k
end READ2
end
