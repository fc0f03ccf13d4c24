section
-- ===== PART A: goes FIRST, ahead of the names: the tables' words, and 'selects' of the private methods out of them =====
/-- a private method of a class that the tables say can be made, by its rows of tables_1 -/
def lw_okq (q : MethodName × Nat) : Prop := (q.1.cls ≠ "java/lang/invoke/MethodHandle" ∧ q.1.cls ≠ "java/lang/invoke/VarHandle") ∧ Cond.instantiable q.1.cls q.2 ∈ tables_1 ∧ Cond.privateMethod q.1 ∈ tables_1 ∧ Cond.instanceMethod q.1 ∈ tables_1
theorem lw_p0 : lw_okq (⟨"TariffDesk$Page", "goesOn", "(I)Z"⟩, 2) := ⟨⟨by decide +kernel, by decide +kernel⟩, List.mem_of_getElem? (i := 25) (by decide +kernel), List.mem_of_getElem? (i := 210) (by decide +kernel), List.mem_of_getElem? (i := 211) (by decide +kernel)⟩
theorem lw_p1 : lw_okq (⟨"TariffDesk$Page", "digitAt", "(I)I"⟩, 2) := ⟨⟨by decide +kernel, by decide +kernel⟩, List.mem_of_getElem? (i := 25) (by decide +kernel), List.mem_of_getElem? (i := 306) (by decide +kernel), List.mem_of_getElem? (i := 307) (by decide +kernel)⟩
theorem lw_p2 : lw_okq (⟨"TariffDesk$Page", "pairAt", "(I)I"⟩, 2) := ⟨⟨by decide +kernel, by decide +kernel⟩, List.mem_of_getElem? (i := 25) (by decide +kernel), List.mem_of_getElem? (i := 310) (by decide +kernel), List.mem_of_getElem? (i := 311) (by decide +kernel)⟩
theorem lw_p3 : lw_okq (⟨"TariffDesk$Page", "signAt", "(I)I"⟩, 2) := ⟨⟨by decide +kernel, by decide +kernel⟩, List.mem_of_getElem? (i := 25) (by decide +kernel), List.mem_of_getElem? (i := 332) (by decide +kernel), List.mem_of_getElem? (i := 333) (by decide +kernel)⟩
theorem lw_p4 : lw_okq (⟨"TariffDesk$Tree", "push", "(II)V"⟩, 7) := ⟨⟨by decide +kernel, by decide +kernel⟩, List.mem_of_getElem? (i := 88) (by decide +kernel), List.mem_of_getElem? (i := 369) (by decide +kernel), List.mem_of_getElem? (i := 370) (by decide +kernel)⟩
theorem lw_p5 : lw_okq (⟨"TariffDesk$Tree", "put", "(II)V"⟩, 7) := ⟨⟨by decide +kernel, by decide +kernel⟩, List.mem_of_getElem? (i := 88) (by decide +kernel), List.mem_of_getElem? (i := 373) (by decide +kernel), List.mem_of_getElem? (i := 374) (by decide +kernel)⟩
theorem lw_p6 : lw_okq (⟨"TariffDesk$Tree", "isLogPlace", "(I)Z"⟩, 7) := ⟨⟨by decide +kernel, by decide +kernel⟩, List.mem_of_getElem? (i := 88) (by decide +kernel), List.mem_of_getElem? (i := 377) (by decide +kernel), List.mem_of_getElem? (i := 378) (by decide +kernel)⟩
theorem lw_p7 : lw_okq (⟨"TariffDesk$Tariff", "byRate", "(II)J"⟩, 5) := ⟨⟨by decide +kernel, by decide +kernel⟩, List.mem_of_getElem? (i := 50) (by decide +kernel), List.mem_of_getElem? (i := 392) (by decide +kernel), List.mem_of_getElem? (i := 393) (by decide +kernel)⟩
theorem lw_p8 : lw_okq (⟨"TariffDesk$Tariff", "byBase", "(I)I"⟩, 5) := ⟨⟨by decide +kernel, by decide +kernel⟩, List.mem_of_getElem? (i := 50) (by decide +kernel), List.mem_of_getElem? (i := 397) (by decide +kernel), List.mem_of_getElem? (i := 398) (by decide +kernel)⟩
theorem lw_p9 : lw_okq (⟨"TariffDesk$Tree", "halfFor", "(III)I"⟩, 7) := ⟨⟨by decide +kernel, by decide +kernel⟩, List.mem_of_getElem? (i := 88) (by decide +kernel), List.mem_of_getElem? (i := 404) (by decide +kernel), List.mem_of_getElem? (i := 405) (by decide +kernel)⟩
theorem lw_p10 : lw_okq (⟨"TariffDesk$Tree", "lowerBy", "(ILTariffDesk$Tariff;)V"⟩, 7) := ⟨⟨by decide +kernel, by decide +kernel⟩, List.mem_of_getElem? (i := 88) (by decide +kernel), List.mem_of_getElem? (i := 408) (by decide +kernel), List.mem_of_getElem? (i := 409) (by decide +kernel)⟩
theorem lw_p11 : lw_okq (⟨"TariffDesk", "quantitiesOf", "(II)I"⟩, 11) := ⟨⟨by decide +kernel, by decide +kernel⟩, List.mem_of_getElem? (i := 17) (by decide +kernel), List.mem_of_getElem? (i := 429) (by decide +kernel), List.mem_of_getElem? (i := 430) (by decide +kernel)⟩
theorem lw_p12 : lw_okq (⟨"TariffDesk$Seen", "canBe", "(IILTariffDesk$Tariff;)Z"⟩, 5) := ⟨⟨by decide +kernel, by decide +kernel⟩, List.mem_of_getElem? (i := 119) (by decide +kernel), List.mem_of_getElem? (i := 444) (by decide +kernel), List.mem_of_getElem? (i := 445) (by decide +kernel)⟩
theorem lw_p13 : lw_okq (⟨"TariffDesk$Seen", "leftAtWorst", "(ILTariffDesk$Tariff;I)I"⟩, 5) := ⟨⟨by decide +kernel, by decide +kernel⟩, List.mem_of_getElem? (i := 119) (by decide +kernel), List.mem_of_getElem? (i := 457) (by decide +kernel), List.mem_of_getElem? (i := 458) (by decide +kernel)⟩
theorem lw_p14 : lw_okq (⟨"TariffDesk", "refusalOf", "(IIII)I"⟩, 11) := ⟨⟨by decide +kernel, by decide +kernel⟩, List.mem_of_getElem? (i := 17) (by decide +kernel), List.mem_of_getElem? (i := 498) (by decide +kernel), List.mem_of_getElem? (i := 499) (by decide +kernel)⟩
theorem lw_p15 : lw_okq (⟨"TariffDesk$Tariff", "fitsFor", "(I)Z"⟩, 5) := ⟨⟨by decide +kernel, by decide +kernel⟩, List.mem_of_getElem? (i := 50) (by decide +kernel), List.mem_of_getElem? (i := 512) (by decide +kernel), List.mem_of_getElem? (i := 513) (by decide +kernel)⟩
def lw_privs_1 : List (MethodName × Nat) := [(⟨"TariffDesk$Page", "goesOn", "(I)Z"⟩, 2), (⟨"TariffDesk$Page", "digitAt", "(I)I"⟩, 2), (⟨"TariffDesk$Page", "pairAt", "(I)I"⟩, 2), (⟨"TariffDesk$Page", "signAt", "(I)I"⟩, 2), (⟨"TariffDesk$Tree", "push", "(II)V"⟩, 7), (⟨"TariffDesk$Tree", "put", "(II)V"⟩, 7), (⟨"TariffDesk$Tree", "isLogPlace", "(I)Z"⟩, 7), (⟨"TariffDesk$Tariff", "byRate", "(II)J"⟩, 5), (⟨"TariffDesk$Tariff", "byBase", "(I)I"⟩, 5), (⟨"TariffDesk$Tree", "halfFor", "(III)I"⟩, 7), (⟨"TariffDesk$Tree", "lowerBy", "(ILTariffDesk$Tariff;)V"⟩, 7), (⟨"TariffDesk", "quantitiesOf", "(II)I"⟩, 11), (⟨"TariffDesk$Seen", "canBe", "(IILTariffDesk$Tariff;)Z"⟩, 5), (⟨"TariffDesk$Seen", "leftAtWorst", "(ILTariffDesk$Tariff;I)I"⟩, 5), (⟨"TariffDesk", "refusalOf", "(IIII)I"⟩, 11), (⟨"TariffDesk$Tariff", "fitsFor", "(I)Z"⟩, 5)]
theorem lw_r1 : ∀ q ∈ lw_privs_1, lw_okq q := List.forall_mem_cons.mpr ⟨lw_p0, List.forall_mem_cons.mpr ⟨lw_p1, List.forall_mem_cons.mpr ⟨lw_p2, List.forall_mem_cons.mpr ⟨lw_p3, List.forall_mem_cons.mpr ⟨lw_p4, List.forall_mem_cons.mpr ⟨lw_p5, List.forall_mem_cons.mpr ⟨lw_p6, List.forall_mem_cons.mpr ⟨lw_p7, List.forall_mem_cons.mpr ⟨lw_p8, List.forall_mem_cons.mpr ⟨lw_p9, List.forall_mem_cons.mpr ⟨lw_p10, List.forall_mem_cons.mpr ⟨lw_p11, List.forall_mem_cons.mpr ⟨lw_p12, List.forall_mem_cons.mpr ⟨lw_p13, List.forall_mem_cons.mpr ⟨lw_p14, List.forall_mem_cons.mpr ⟨lw_p15, fun _ h => absurd h List.not_mem_nil⟩⟩⟩⟩⟩⟩⟩⟩⟩⟩⟩⟩⟩⟩⟩⟩
theorem lw_p16 : lw_okq (⟨"TariffDesk$Tree", "putBack", "(I)V"⟩, 7) := ⟨⟨by decide +kernel, by decide +kernel⟩, List.mem_of_getElem? (i := 88) (by decide +kernel), List.mem_of_getElem? (i := 525) (by decide +kernel), List.mem_of_getElem? (i := 526) (by decide +kernel)⟩
theorem lw_p17 : lw_okq (⟨"TariffDesk$Tree", "bestAbove", "(I)I"⟩, 7) := ⟨⟨by decide +kernel, by decide +kernel⟩, List.mem_of_getElem? (i := 88) (by decide +kernel), List.mem_of_getElem? (i := 529) (by decide +kernel), List.mem_of_getElem? (i := 530) (by decide +kernel)⟩
theorem lw_p18 : lw_okq (⟨"TariffDesk", "firstOfPiece", "(I)I"⟩, 11) := ⟨⟨by decide +kernel, by decide +kernel⟩, List.mem_of_getElem? (i := 17) (by decide +kernel), List.mem_of_getElem? (i := 547) (by decide +kernel), List.mem_of_getElem? (i := 548) (by decide +kernel)⟩
theorem lw_p19 : lw_okq (⟨"TariffDesk", "beginsPiece", "(I)Z"⟩, 11) := ⟨⟨by decide +kernel, by decide +kernel⟩, List.mem_of_getElem? (i := 17) (by decide +kernel), List.mem_of_getElem? (i := 551) (by decide +kernel), List.mem_of_getElem? (i := 552) (by decide +kernel)⟩
theorem lw_p20 : lw_okq (⟨"TariffDesk", "lastOfPiece", "(I)I"⟩, 11) := ⟨⟨by decide +kernel, by decide +kernel⟩, List.mem_of_getElem? (i := 17) (by decide +kernel), List.mem_of_getElem? (i := 555) (by decide +kernel), List.mem_of_getElem? (i := 556) (by decide +kernel)⟩
theorem lw_p21 : lw_okq (⟨"TariffDesk$Draws", "below", "(I)I"⟩, 1) := ⟨⟨by decide +kernel, by decide +kernel⟩, List.mem_of_getElem? (i := 143) (by decide +kernel), List.mem_of_getElem? (i := 594) (by decide +kernel), List.mem_of_getElem? (i := 595) (by decide +kernel)⟩
theorem lw_p22 : lw_okq (⟨"TariffDesk", "pieces", "()I"⟩, 11) := ⟨⟨by decide +kernel, by decide +kernel⟩, List.mem_of_getElem? (i := 17) (by decide +kernel), List.mem_of_getElem? (i := 624) (by decide +kernel), List.mem_of_getElem? (i := 625) (by decide +kernel)⟩
theorem lw_p23 : lw_okq (⟨"TariffDesk", "tariffsNeverLowest", "()I"⟩, 11) := ⟨⟨by decide +kernel, by decide +kernel⟩, List.mem_of_getElem? (i := 17) (by decide +kernel), List.mem_of_getElem? (i := 628) (by decide +kernel), List.mem_of_getElem? (i := 629) (by decide +kernel)⟩
theorem lw_p24 : lw_okq (⟨"TariffDesk", "mixedWithTree", "(J)J"⟩, 11) := ⟨⟨by decide +kernel, by decide +kernel⟩, List.mem_of_getElem? (i := 17) (by decide +kernel), List.mem_of_getElem? (i := 642) (by decide +kernel), List.mem_of_getElem? (i := 643) (by decide +kernel)⟩
theorem lw_p25 : lw_okq (⟨"TariffDeskModel", "read", "()I"⟩, 31) := ⟨⟨by decide +kernel, by decide +kernel⟩, List.mem_of_getElem? (i := 651) (by decide +kernel), List.mem_of_getElem? (i := 766) (by decide +kernel), List.mem_of_getElem? (i := 767) (by decide +kernel)⟩
theorem lw_p26 : lw_okq (⟨"TariffDeskModel", "readTariff", "(I)I"⟩, 31) := ⟨⟨by decide +kernel, by decide +kernel⟩, List.mem_of_getElem? (i := 651) (by decide +kernel), List.mem_of_getElem? (i := 770) (by decide +kernel), List.mem_of_getElem? (i := 771) (by decide +kernel)⟩
theorem lw_p27 : lw_okq (⟨"TariffDeskModel", "isLetter", "(II)Z"⟩, 31) := ⟨⟨by decide +kernel, by decide +kernel⟩, List.mem_of_getElem? (i := 651) (by decide +kernel), List.mem_of_getElem? (i := 774) (by decide +kernel), List.mem_of_getElem? (i := 775) (by decide +kernel)⟩
theorem lw_p28 : lw_okq (⟨"TariffDeskModel", "at", "(I)I"⟩, 31) := ⟨⟨by decide +kernel, by decide +kernel⟩, List.mem_of_getElem? (i := 651) (by decide +kernel), List.mem_of_getElem? (i := 778) (by decide +kernel), List.mem_of_getElem? (i := 779) (by decide +kernel)⟩
theorem lw_p29 : lw_okq (⟨"TariffDeskModel", "isSign", "(I)Z"⟩, 31) := ⟨⟨by decide +kernel, by decide +kernel⟩, List.mem_of_getElem? (i := 651) (by decide +kernel), List.mem_of_getElem? (i := 785) (by decide +kernel), List.mem_of_getElem? (i := 786) (by decide +kernel)⟩
theorem lw_p30 : lw_okq (⟨"TariffDeskModel", "figure", "(I)I"⟩, 31) := ⟨⟨by decide +kernel, by decide +kernel⟩, List.mem_of_getElem? (i := 651) (by decide +kernel), List.mem_of_getElem? (i := 789) (by decide +kernel), List.mem_of_getElem? (i := 790) (by decide +kernel)⟩
theorem lw_p31 : lw_okq (⟨"TariffDeskModel", "signed", "(II)I"⟩, 31) := ⟨⟨by decide +kernel, by decide +kernel⟩, List.mem_of_getElem? (i := 651) (by decide +kernel), List.mem_of_getElem? (i := 797) (by decide +kernel), List.mem_of_getElem? (i := 798) (by decide +kernel)⟩
def lw_privs_2 : List (MethodName × Nat) := [(⟨"TariffDesk$Tree", "putBack", "(I)V"⟩, 7), (⟨"TariffDesk$Tree", "bestAbove", "(I)I"⟩, 7), (⟨"TariffDesk", "firstOfPiece", "(I)I"⟩, 11), (⟨"TariffDesk", "beginsPiece", "(I)Z"⟩, 11), (⟨"TariffDesk", "lastOfPiece", "(I)I"⟩, 11), (⟨"TariffDesk$Draws", "below", "(I)I"⟩, 1), (⟨"TariffDesk", "pieces", "()I"⟩, 11), (⟨"TariffDesk", "tariffsNeverLowest", "()I"⟩, 11), (⟨"TariffDesk", "mixedWithTree", "(J)J"⟩, 11), (⟨"TariffDeskModel", "read", "()I"⟩, 31), (⟨"TariffDeskModel", "readTariff", "(I)I"⟩, 31), (⟨"TariffDeskModel", "isLetter", "(II)Z"⟩, 31), (⟨"TariffDeskModel", "at", "(I)I"⟩, 31), (⟨"TariffDeskModel", "isSign", "(I)Z"⟩, 31), (⟨"TariffDeskModel", "figure", "(I)I"⟩, 31), (⟨"TariffDeskModel", "signed", "(II)I"⟩, 31)]
theorem lw_r2 : ∀ q ∈ lw_privs_2, lw_okq q := List.forall_mem_cons.mpr ⟨lw_p16, List.forall_mem_cons.mpr ⟨lw_p17, List.forall_mem_cons.mpr ⟨lw_p18, List.forall_mem_cons.mpr ⟨lw_p19, List.forall_mem_cons.mpr ⟨lw_p20, List.forall_mem_cons.mpr ⟨lw_p21, List.forall_mem_cons.mpr ⟨lw_p22, List.forall_mem_cons.mpr ⟨lw_p23, List.forall_mem_cons.mpr ⟨lw_p24, List.forall_mem_cons.mpr ⟨lw_p25, List.forall_mem_cons.mpr ⟨lw_p26, List.forall_mem_cons.mpr ⟨lw_p27, List.forall_mem_cons.mpr ⟨lw_p28, List.forall_mem_cons.mpr ⟨lw_p29, List.forall_mem_cons.mpr ⟨lw_p30, List.forall_mem_cons.mpr ⟨lw_p31, fun _ h => absurd h List.not_mem_nil⟩⟩⟩⟩⟩⟩⟩⟩⟩⟩⟩⟩⟩⟩⟩⟩
theorem lw_p32 : lw_okq (⟨"TariffDeskModel", "take", "(IIIII)V"⟩, 31) := ⟨⟨by decide +kernel, by decide +kernel⟩, List.mem_of_getElem? (i := 651) (by decide +kernel), List.mem_of_getElem? (i := 801) (by decide +kernel), List.mem_of_getElem? (i := 802) (by decide +kernel)⟩
theorem lw_p33 : lw_okq (⟨"TariffDeskModel", "offerNow", "(I)V"⟩, 31) := ⟨⟨by decide +kernel, by decide +kernel⟩, List.mem_of_getElem? (i := 651) (by decide +kernel), List.mem_of_getElem? (i := 805) (by decide +kernel), List.mem_of_getElem? (i := 806) (by decide +kernel)⟩
theorem lw_p34 : lw_okq (⟨"TariffDeskModel", "isAll", "(II)Z"⟩, 31) := ⟨⟨by decide +kernel, by decide +kernel⟩, List.mem_of_getElem? (i := 651) (by decide +kernel), List.mem_of_getElem? (i := 809) (by decide +kernel), List.mem_of_getElem? (i := 810) (by decide +kernel)⟩
theorem lw_p35 : lw_okq (⟨"TariffDeskModel", "push", "(II)V"⟩, 31) := ⟨⟨by decide +kernel, by decide +kernel⟩, List.mem_of_getElem? (i := 651) (by decide +kernel), List.mem_of_getElem? (i := 822) (by decide +kernel), List.mem_of_getElem? (i := 823) (by decide +kernel)⟩
theorem lw_p36 : lw_okq (⟨"TariffDeskModel", "isBetter", "(III)Z"⟩, 31) := ⟨⟨by decide +kernel, by decide +kernel⟩, List.mem_of_getElem? (i := 651) (by decide +kernel), List.mem_of_getElem? (i := 829) (by decide +kernel), List.mem_of_getElem? (i := 830) (by decide +kernel)⟩
theorem lw_p37 : lw_okq (⟨"TariffDeskModel", "priceOf", "(II)J"⟩, 31) := ⟨⟨by decide +kernel, by decide +kernel⟩, List.mem_of_getElem? (i := 651) (by decide +kernel), List.mem_of_getElem? (i := 833) (by decide +kernel), List.mem_of_getElem? (i := 834) (by decide +kernel)⟩
theorem lw_p38 : lw_okq (⟨"TariffDeskModel", "isTariff", "(I)Z"⟩, 31) := ⟨⟨by decide +kernel, by decide +kernel⟩, List.mem_of_getElem? (i := 651) (by decide +kernel), List.mem_of_getElem? (i := 851) (by decide +kernel), List.mem_of_getElem? (i := 852) (by decide +kernel)⟩
theorem lw_p39 : lw_okq (⟨"TariffDeskModel", "tariffNow", "(II)I"⟩, 31) := ⟨⟨by decide +kernel, by decide +kernel⟩, List.mem_of_getElem? (i := 651) (by decide +kernel), List.mem_of_getElem? (i := 855) (by decide +kernel), List.mem_of_getElem? (i := 856) (by decide +kernel)⟩
theorem lw_p40 : lw_okq (⟨"TariffDeskModel", "nodesOf", "(I)I"⟩, 31) := ⟨⟨by decide +kernel, by decide +kernel⟩, List.mem_of_getElem? (i := 651) (by decide +kernel), List.mem_of_getElem? (i := 859) (by decide +kernel), List.mem_of_getElem? (i := 860) (by decide +kernel)⟩
theorem lw_p41 : lw_okq (⟨"TariffDeskModel", "quantitiesOf", "(I)I"⟩, 31) := ⟨⟨by decide +kernel, by decide +kernel⟩, List.mem_of_getElem? (i := 651) (by decide +kernel), List.mem_of_getElem? (i := 863) (by decide +kernel), List.mem_of_getElem? (i := 864) (by decide +kernel)⟩
theorem lw_p42 : lw_okq (⟨"TariffDeskModel", "cheapestFor", "(I)I"⟩, 31) := ⟨⟨by decide +kernel, by decide +kernel⟩, List.mem_of_getElem? (i := 651) (by decide +kernel), List.mem_of_getElem? (i := 867) (by decide +kernel), List.mem_of_getElem? (i := 868) (by decide +kernel)⟩
theorem lw_p43 : lw_okq (⟨"TariffDeskModel", "sortsOf", "(I)I"⟩, 31) := ⟨⟨by decide +kernel, by decide +kernel⟩, List.mem_of_getElem? (i := 651) (by decide +kernel), List.mem_of_getElem? (i := 871) (by decide +kernel), List.mem_of_getElem? (i := 872) (by decide +kernel)⟩
theorem lw_p44 : lw_okq (⟨"TariffDeskModel", "asKind", "(III)J"⟩, 31) := ⟨⟨by decide +kernel, by decide +kernel⟩, List.mem_of_getElem? (i := 651) (by decide +kernel), List.mem_of_getElem? (i := 875) (by decide +kernel), List.mem_of_getElem? (i := 876) (by decide +kernel)⟩
theorem lw_p45 : lw_okq (⟨"TariffDeskModel", "askOf", "(I)I"⟩, 31) := ⟨⟨by decide +kernel, by decide +kernel⟩, List.mem_of_getElem? (i := 651) (by decide +kernel), List.mem_of_getElem? (i := 879) (by decide +kernel), List.mem_of_getElem? (i := 880) (by decide +kernel)⟩
theorem lw_p46 : lw_okq (⟨"TariffDeskModel", "worstBy", "(III)I"⟩, 31) := ⟨⟨by decide +kernel, by decide +kernel⟩, List.mem_of_getElem? (i := 651) (by decide +kernel), List.mem_of_getElem? (i := 884) (by decide +kernel), List.mem_of_getElem? (i := 885) (by decide +kernel)⟩
theorem lw_p47 : lw_okq (⟨"TariffDeskModel", "has", "(II)Z"⟩, 31) := ⟨⟨by decide +kernel, by decide +kernel⟩, List.mem_of_getElem? (i := 651) (by decide +kernel), List.mem_of_getElem? (i := 903) (by decide +kernel), List.mem_of_getElem? (i := 904) (by decide +kernel)⟩
def lw_privs_3 : List (MethodName × Nat) := [(⟨"TariffDeskModel", "take", "(IIIII)V"⟩, 31), (⟨"TariffDeskModel", "offerNow", "(I)V"⟩, 31), (⟨"TariffDeskModel", "isAll", "(II)Z"⟩, 31), (⟨"TariffDeskModel", "push", "(II)V"⟩, 31), (⟨"TariffDeskModel", "isBetter", "(III)Z"⟩, 31), (⟨"TariffDeskModel", "priceOf", "(II)J"⟩, 31), (⟨"TariffDeskModel", "isTariff", "(I)Z"⟩, 31), (⟨"TariffDeskModel", "tariffNow", "(II)I"⟩, 31), (⟨"TariffDeskModel", "nodesOf", "(I)I"⟩, 31), (⟨"TariffDeskModel", "quantitiesOf", "(I)I"⟩, 31), (⟨"TariffDeskModel", "cheapestFor", "(I)I"⟩, 31), (⟨"TariffDeskModel", "sortsOf", "(I)I"⟩, 31), (⟨"TariffDeskModel", "asKind", "(III)J"⟩, 31), (⟨"TariffDeskModel", "askOf", "(I)I"⟩, 31), (⟨"TariffDeskModel", "worstBy", "(III)I"⟩, 31), (⟨"TariffDeskModel", "has", "(II)Z"⟩, 31)]
theorem lw_r3 : ∀ q ∈ lw_privs_3, lw_okq q := List.forall_mem_cons.mpr ⟨lw_p32, List.forall_mem_cons.mpr ⟨lw_p33, List.forall_mem_cons.mpr ⟨lw_p34, List.forall_mem_cons.mpr ⟨lw_p35, List.forall_mem_cons.mpr ⟨lw_p36, List.forall_mem_cons.mpr ⟨lw_p37, List.forall_mem_cons.mpr ⟨lw_p38, List.forall_mem_cons.mpr ⟨lw_p39, List.forall_mem_cons.mpr ⟨lw_p40, List.forall_mem_cons.mpr ⟨lw_p41, List.forall_mem_cons.mpr ⟨lw_p42, List.forall_mem_cons.mpr ⟨lw_p43, List.forall_mem_cons.mpr ⟨lw_p44, List.forall_mem_cons.mpr ⟨lw_p45, List.forall_mem_cons.mpr ⟨lw_p46, List.forall_mem_cons.mpr ⟨lw_p47, fun _ h => absurd h List.not_mem_nil⟩⟩⟩⟩⟩⟩⟩⟩⟩⟩⟩⟩⟩⟩⟩⟩
theorem lw_p48 : lw_okq (⟨"TariffDeskModel", "nodeNow", "(II)I"⟩, 31) := ⟨⟨by decide +kernel, by decide +kernel⟩, List.mem_of_getElem? (i := 651) (by decide +kernel), List.mem_of_getElem? (i := 913) (by decide +kernel), List.mem_of_getElem? (i := 914) (by decide +kernel)⟩
theorem lw_p49 : lw_okq (⟨"TariffDeskModel", "refused", "(IIII)I"⟩, 31) := ⟨⟨by decide +kernel, by decide +kernel⟩, List.mem_of_getElem? (i := 651) (by decide +kernel), List.mem_of_getElem? (i := 921) (by decide +kernel), List.mem_of_getElem? (i := 922) (by decide +kernel)⟩
theorem lw_p50 : lw_okq (⟨"TariffDeskModel", "layBefore", "()V"⟩, 31) := ⟨⟨by decide +kernel, by decide +kernel⟩, List.mem_of_getElem? (i := 651) (by decide +kernel), List.mem_of_getElem? (i := 936) (by decide +kernel), List.mem_of_getElem? (i := 937) (by decide +kernel)⟩
theorem lw_p51 : lw_okq (⟨"TariffDeskModel", "again", "(I)V"⟩, 31) := ⟨⟨by decide +kernel, by decide +kernel⟩, List.mem_of_getElem? (i := 651) (by decide +kernel), List.mem_of_getElem? (i := 944) (by decide +kernel), List.mem_of_getElem? (i := 945) (by decide +kernel)⟩
theorem lw_p52 : lw_okq (⟨"TariffDeskModel", "costFor", "(I)J"⟩, 31) := ⟨⟨by decide +kernel, by decide +kernel⟩, List.mem_of_getElem? (i := 651) (by decide +kernel), List.mem_of_getElem? (i := 956) (by decide +kernel), List.mem_of_getElem? (i := 957) (by decide +kernel)⟩
theorem lw_p53 : lw_okq (⟨"TariffDeskModel", "pieces", "()I"⟩, 31) := ⟨⟨by decide +kernel, by decide +kernel⟩, List.mem_of_getElem? (i := 651) (by decide +kernel), List.mem_of_getElem? (i := 965) (by decide +kernel), List.mem_of_getElem? (i := 966) (by decide +kernel)⟩
theorem lw_p54 : lw_okq (⟨"TariffDeskModel", "isFirstOfPiece", "(I)Z"⟩, 31) := ⟨⟨by decide +kernel, by decide +kernel⟩, List.mem_of_getElem? (i := 651) (by decide +kernel), List.mem_of_getElem? (i := 969) (by decide +kernel), List.mem_of_getElem? (i := 970) (by decide +kernel)⟩
theorem lw_p55 : lw_okq (⟨"TariffDeskModel", "pieceNow", "(II)I"⟩, 31) := ⟨⟨by decide +kernel, by decide +kernel⟩, List.mem_of_getElem? (i := 651) (by decide +kernel), List.mem_of_getElem? (i := 973) (by decide +kernel), List.mem_of_getElem? (i := 974) (by decide +kernel)⟩
theorem lw_p56 : lw_okq (⟨"TariffDeskModel", "bargainIn", "(II)I"⟩, 31) := ⟨⟨by decide +kernel, by decide +kernel⟩, List.mem_of_getElem? (i := 651) (by decide +kernel), List.mem_of_getElem? (i := 981) (by decide +kernel), List.mem_of_getElem? (i := 982) (by decide +kernel)⟩
theorem lw_p57 : lw_okq (⟨"TariffDeskModel", "crossingOf", "(II)I"⟩, 31) := ⟨⟨by decide +kernel, by decide +kernel⟩, List.mem_of_getElem? (i := 651) (by decide +kernel), List.mem_of_getElem? (i := 989) (by decide +kernel), List.mem_of_getElem? (i := 990) (by decide +kernel)⟩
theorem lw_p58 : lw_okq (⟨"TariffDeskModel", "drawnNow", "(III)I"⟩, 31) := ⟨⟨by decide +kernel, by decide +kernel⟩, List.mem_of_getElem? (i := 651) (by decide +kernel), List.mem_of_getElem? (i := 1009) (by decide +kernel), List.mem_of_getElem? (i := 1010) (by decide +kernel)⟩
theorem lw_p59 : lw_okq (⟨"TariffDeskModel", "drawOne", "()V"⟩, 31) := ⟨⟨by decide +kernel, by decide +kernel⟩, List.mem_of_getElem? (i := 651) (by decide +kernel), List.mem_of_getElem? (i := 1013) (by decide +kernel), List.mem_of_getElem? (i := 1014) (by decide +kernel)⟩
theorem lw_p60 : lw_okq (⟨"TariffDeskModel", "draw", "(I)I"⟩, 31) := ⟨⟨by decide +kernel, by decide +kernel⟩, List.mem_of_getElem? (i := 651) (by decide +kernel), List.mem_of_getElem? (i := 1017) (by decide +kernel), List.mem_of_getElem? (i := 1018) (by decide +kernel)⟩
theorem lw_p61 : lw_okq (⟨"TariffDeskModel", "howMany", "(I)I"⟩, 31) := ⟨⟨by decide +kernel, by decide +kernel⟩, List.mem_of_getElem? (i := 651) (by decide +kernel), List.mem_of_getElem? (i := 1036) (by decide +kernel), List.mem_of_getElem? (i := 1037) (by decide +kernel)⟩
theorem lw_p62 : lw_okq (⟨"TariffDeskModel", "gaps", "()I"⟩, 31) := ⟨⟨by decide +kernel, by decide +kernel⟩, List.mem_of_getElem? (i := 651) (by decide +kernel), List.mem_of_getElem? (i := 1040) (by decide +kernel), List.mem_of_getElem? (i := 1041) (by decide +kernel)⟩
theorem lw_p63 : lw_okq (⟨"TariffDeskModel", "idle", "()I"⟩, 31) := ⟨⟨by decide +kernel, by decide +kernel⟩, List.mem_of_getElem? (i := 651) (by decide +kernel), List.mem_of_getElem? (i := 1044) (by decide +kernel), List.mem_of_getElem? (i := 1045) (by decide +kernel)⟩
def lw_privs_4 : List (MethodName × Nat) := [(⟨"TariffDeskModel", "nodeNow", "(II)I"⟩, 31), (⟨"TariffDeskModel", "refused", "(IIII)I"⟩, 31), (⟨"TariffDeskModel", "layBefore", "()V"⟩, 31), (⟨"TariffDeskModel", "again", "(I)V"⟩, 31), (⟨"TariffDeskModel", "costFor", "(I)J"⟩, 31), (⟨"TariffDeskModel", "pieces", "()I"⟩, 31), (⟨"TariffDeskModel", "isFirstOfPiece", "(I)Z"⟩, 31), (⟨"TariffDeskModel", "pieceNow", "(II)I"⟩, 31), (⟨"TariffDeskModel", "bargainIn", "(II)I"⟩, 31), (⟨"TariffDeskModel", "crossingOf", "(II)I"⟩, 31), (⟨"TariffDeskModel", "drawnNow", "(III)I"⟩, 31), (⟨"TariffDeskModel", "drawOne", "()V"⟩, 31), (⟨"TariffDeskModel", "draw", "(I)I"⟩, 31), (⟨"TariffDeskModel", "howMany", "(I)I"⟩, 31), (⟨"TariffDeskModel", "gaps", "()I"⟩, 31), (⟨"TariffDeskModel", "idle", "()I"⟩, 31)]
theorem lw_r4 : ∀ q ∈ lw_privs_4, lw_okq q := List.forall_mem_cons.mpr ⟨lw_p48, List.forall_mem_cons.mpr ⟨lw_p49, List.forall_mem_cons.mpr ⟨lw_p50, List.forall_mem_cons.mpr ⟨lw_p51, List.forall_mem_cons.mpr ⟨lw_p52, List.forall_mem_cons.mpr ⟨lw_p53, List.forall_mem_cons.mpr ⟨lw_p54, List.forall_mem_cons.mpr ⟨lw_p55, List.forall_mem_cons.mpr ⟨lw_p56, List.forall_mem_cons.mpr ⟨lw_p57, List.forall_mem_cons.mpr ⟨lw_p58, List.forall_mem_cons.mpr ⟨lw_p59, List.forall_mem_cons.mpr ⟨lw_p60, List.forall_mem_cons.mpr ⟨lw_p61, List.forall_mem_cons.mpr ⟨lw_p62, List.forall_mem_cons.mpr ⟨lw_p63, fun _ h => absurd h List.not_mem_nil⟩⟩⟩⟩⟩⟩⟩⟩⟩⟩⟩⟩⟩⟩⟩⟩
theorem lw_p64 : lw_okq (⟨"TariffDeskModel", "mix", "(J)V"⟩, 31) := ⟨⟨by decide +kernel, by decide +kernel⟩, List.mem_of_getElem? (i := 651) (by decide +kernel), List.mem_of_getElem? (i := 1053) (by decide +kernel), List.mem_of_getElem? (i := 1054) (by decide +kernel)⟩
theorem lw_p65 : lw_okq (⟨"TariffDeskModel", "mixDesk", "()V"⟩, 31) := ⟨⟨by decide +kernel, by decide +kernel⟩, List.mem_of_getElem? (i := 651) (by decide +kernel), List.mem_of_getElem? (i := 1058) (by decide +kernel), List.mem_of_getElem? (i := 1059) (by decide +kernel)⟩
def lw_privs_5 : List (MethodName × Nat) := [(⟨"TariffDeskModel", "mix", "(J)V"⟩, 31), (⟨"TariffDeskModel", "mixDesk", "()V"⟩, 31)]
theorem lw_r5 : ∀ q ∈ lw_privs_5, lw_okq q := List.forall_mem_cons.mpr ⟨lw_p64, List.forall_mem_cons.mpr ⟨lw_p65, fun _ h => absurd h List.not_mem_nil⟩⟩
def lw_privs : List (MethodName × Nat) := lw_privs_1 ++ (lw_privs_2 ++ (lw_privs_3 ++ (lw_privs_4 ++ (lw_privs_5))))
def lw_tbl : List Cond := k2_sels lw_privs ++ tables_1
theorem lw_privs_ok : ∀ q ∈ lw_privs, lw_okq q := by
  show ∀ q ∈ lw_privs_1 ++ (lw_privs_2 ++ (lw_privs_3 ++ (lw_privs_4 ++ (lw_privs_5)))), lw_okq q
  exact List.forall_mem_append.mpr ⟨lw_r1, List.forall_mem_append.mpr ⟨lw_r2, List.forall_mem_append.mpr ⟨lw_r3, List.forall_mem_append.mpr ⟨lw_r4, lw_r5⟩⟩⟩⟩
end
section
theorem goodIn_r {big : List Cond} (ws : List Cond) (ps : List Nat) (hp : ws = ps.filterMap (fun i => big[i]?)) (h : ws.all goodWord = true) : GoodIn big ws := by
  intro w hw
  have h1 := List.all_eq_true.mp h w hw
  rw [hp] at hw
  obtain ⟨i, -, hi⟩ := List.mem_filterMap.mp hw
  have hm : w ∈ big := by first | exact List.mem_of_getElem? hi | exact List.getElem?_mem hi
  exact ⟨hm, good_of_word h1⟩
theorem goodIn_app {big a b : List Cond} (ha : GoodIn big a) (hb : GoodIn big b) : GoodIn big (a ++ b) := fun w h => (List.mem_append.mp h).elim (ha w) (hb w)
theorem goodIn_ca {big a b : List Cond} {c : Cond} (ha : GoodIn big (c :: a)) (hb : GoodIn big b) : GoodIn big (c :: (a ++ b)) := fun w h => (List.mem_cons.mp h).elim (fun e => ha w (List.mem_cons.mpr (Or.inl e))) (fun h => (List.mem_append.mp h).elim (fun h => ha w (List.mem_cons.mpr (Or.inr h))) (hb w))
theorem goodIn_sub {big ws : List Cond} (hm : ∀ w ∈ ws, w ∈ big) (h : ws.all goodWord = true) : GoodIn big ws := fun w hw => ⟨hm w hw, good_of_word (List.all_eq_true.mp h w hw)⟩
def RX0 : String := "TariffDesk$Draws"
def TX0 : u_T := fun k => match k with
  | _ => ("TariffDesk$Draws", "seed", "I", false)
def tyX0 : Nat → FieldType := fun k => match k with
  | _ => .int
abbrev wsX00 : List Cond := u_ws RX0 TX0 1
theorem nmX0 : ∀ a, a < 1 → ∀ b, b < 1 → a ≠ b → (TX0 a).2.1 ≠ (TX0 b).2.1 := by decide +kernel
theorem tyX0_ok : ∀ k, k < 1 → parseFieldDescriptor (TX0 k).2.2.1 = some (tyX0 k) := by decide +kernel
abbrev cX0_init : ByteArray := prog_2_method_1_code
def yX0_init : MethodName := ⟨RX0, "<init>", "()V"⟩
abbrev cX0_drawTariff : ByteArray := prog_2_method_2_code
def yX0_drawTariff : MethodName := ⟨RX0, "drawTariff", "(LTariffDesk$Tariff;)V"⟩
abbrev cX0_below : ByteArray := prog_2_method_3_code
def yX0_below : MethodName := ⟨RX0, "below", "(I)I"⟩
def RX1 : String := "TariffDesk$Page"
def TX1 : u_T := fun k => match k with
  | 0 => ("TariffDesk$Page", "letters", "[I", true)
  | _ => ("TariffDesk$Page", "length", "I", false)
def tyX1 : Nat → FieldType := fun k => match k with
  | 0 => .array .int
  | _ => .int
abbrev wsX10 : List Cond := u_ws RX1 TX1 2
theorem nmX1 : ∀ a, a < 2 → ∀ b, b < 2 → a ≠ b → (TX1 a).2.1 ≠ (TX1 b).2.1 := by decide +kernel
theorem tyX1_ok : ∀ k, k < 2 → parseFieldDescriptor (TX1 k).2.2.1 = some (tyX1 k) := by decide +kernel
abbrev cX1_init : ByteArray := prog_3_method_1_code
def yX1_init : MethodName := ⟨RX1, "<init>", "()V"⟩
abbrev cX1_write : ByteArray := prog_3_method_2_code
def yX1_write : MethodName := ⟨RX1, "write", "(I)Z"⟩
abbrev cX1_letterAt : ByteArray := prog_3_method_3_code
def yX1_letterAt : MethodName := ⟨RX1, "letterAt", "(I)I"⟩
abbrev cX1_firstWrong : ByteArray := prog_3_method_4_code
def yX1_firstWrong : MethodName := ⟨RX1, "firstWrong", "()I"⟩
abbrev cX1_isWholeDesk : ByteArray := prog_3_method_5_code
def yX1_isWholeDesk : MethodName := ⟨RX1, "isWholeDesk", "()Z"⟩
abbrev cX1_goesOn : ByteArray := prog_3_method_6_code
def yX1_goesOn : MethodName := ⟨RX1, "goesOn", "(I)Z"⟩
abbrev cX1_readTariff : ByteArray := prog_3_method_7_code
def yX1_readTariff : MethodName := ⟨RX1, "readTariff", "(ILTariffDesk$Tariff;)V"⟩
abbrev cX1_isDigit : ByteArray := prog_3_method_8_code
def yX1_isDigit : MethodName := ⟨RX1, "isDigit", "(I)Z"⟩
abbrev cX1_signAt : ByteArray := prog_3_method_9_code
def yX1_signAt : MethodName := ⟨RX1, "signAt", "(I)I"⟩
abbrev cX1_digitAt : ByteArray := prog_3_method_10_code
def yX1_digitAt : MethodName := ⟨RX1, "digitAt", "(I)I"⟩
abbrev cX1_pairAt : ByteArray := prog_3_method_11_code
def yX1_pairAt : MethodName := ⟨RX1, "pairAt", "(I)I"⟩
def RX2 : String := "TariffDesk$Seen"
def TX2 : u_T := fun k => match k with
  | 0 => ("TariffDesk$Seen", "numbers", "[I", true)
  | 1 => ("TariffDesk$Seen", "quantities", "[I", true)
  | 2 => ("TariffDesk$Seen", "prices", "[I", true)
  | 3 => ("TariffDesk$Seen", "pricesByKind", "[J", true)
  | _ => ("TariffDesk$Seen", "size", "I", false)
def tyX2 : Nat → FieldType := fun k => match k with
  | 0 => .array .int
  | 1 => .array .int
  | 2 => .array .int
  | 3 => .array .long
  | _ => .int
abbrev wsX20 : List Cond := u_ws RX2 TX2 5
theorem nmX2 : ∀ a, a < 5 → ∀ b, b < 5 → a ≠ b → (TX2 a).2.1 ≠ (TX2 b).2.1 := by decide +kernel
theorem tyX2_ok : ∀ k, k < 5 → parseFieldDescriptor (TX2 k).2.2.1 = some (tyX2 k) := by decide +kernel
abbrev cX2_init : ByteArray := prog_4_method_1_code
def yX2_init : MethodName := ⟨RX2, "<init>", "()V"⟩
abbrev cX2_write : ByteArray := prog_4_method_2_code
def yX2_write : MethodName := ⟨RX2, "write", "(III)Z"⟩
abbrev cX2_copyFrom : ByteArray := prog_4_method_3_code
def yX2_copyFrom : MethodName := ⟨RX2, "copyFrom", "(LTariffDesk$Seen;)V"⟩
abbrev cX2_sortsOf : ByteArray := prog_4_method_4_code
def yX2_sortsOf : MethodName := ⟨RX2, "sortsOf", "(ILTariffDesk$Tariff;)I"⟩
abbrev cX2_nextToAsk : ByteArray := prog_4_method_5_code
def yX2_nextToAsk : MethodName := ⟨RX2, "nextToAsk", "(ILTariffDesk$Tariff;)I"⟩
abbrev cX2_canBe : ByteArray := prog_4_method_6_code
def yX2_canBe : MethodName := ⟨RX2, "canBe", "(IILTariffDesk$Tariff;)Z"⟩
abbrev cX2_leftAtWorst : ByteArray := prog_4_method_7_code
def yX2_leftAtWorst : MethodName := ⟨RX2, "leftAtWorst", "(ILTariffDesk$Tariff;I)I"⟩
def RX3 : String := "TariffDesk$Tariff"
def TX3 : u_T := fun k => match k with
  | 0 => ("TariffDesk$Tariff", "kind", "I", false)
  | 1 => ("TariffDesk$Tariff", "rate", "I", false)
  | 2 => ("TariffDesk$Tariff", "base", "I", false)
  | 3 => ("TariffDesk$Tariff", "first", "I", false)
  | _ => ("TariffDesk$Tariff", "last", "I", false)
def tyX3 : Nat → FieldType := fun k => match k with
  | 0 => .int
  | 1 => .int
  | 2 => .int
  | 3 => .int
  | _ => .int
abbrev wsX30 : List Cond := u_ws RX3 TX3 5
theorem nmX3 : ∀ a, a < 5 → ∀ b, b < 5 → a ≠ b → (TX3 a).2.1 ≠ (TX3 b).2.1 := by decide +kernel
theorem tyX3_ok : ∀ k, k < 5 → parseFieldDescriptor (TX3 k).2.2.1 = some (tyX3 k) := by decide +kernel
abbrev cX3_init : ByteArray := prog_5_method_1_code
def yX3_init : MethodName := ⟨RX3, "<init>", "()V"⟩
abbrev cX3_write : ByteArray := prog_5_method_2_code
def yX3_write : MethodName := ⟨RX3, "write", "(IIIII)V"⟩
abbrev cX3_copyFrom : ByteArray := prog_5_method_3_code
def yX3_copyFrom : MethodName := ⟨RX3, "copyFrom", "(LTariffDesk$Tariff;)V"⟩
abbrev cX3_spans : ByteArray := prog_5_method_4_code
def yX3_spans : MethodName := ⟨RX3, "spans", "(I)Z"⟩
abbrev cX3_isOf : ByteArray := prog_5_method_5_code
def yX3_isOf : MethodName := ⟨RX3, "isOf", "(I)Z"⟩
abbrev cX3_priceFor : ByteArray := prog_5_method_6_code
def yX3_priceFor : MethodName := ⟨RX3, "priceFor", "(I)J"⟩
abbrev cX3_priceAs : ByteArray := prog_5_method_7_code
def yX3_priceAs : MethodName := ⟨RX3, "priceAs", "(II)J"⟩
abbrev cX3_byBase : ByteArray := prog_5_method_8_code
def yX3_byBase : MethodName := ⟨RX3, "byBase", "(I)I"⟩
abbrev cX3_byRate : ByteArray := prog_5_method_9_code
def yX3_byRate : MethodName := ⟨RX3, "byRate", "(II)J"⟩
abbrev cX3_isTooGreat : ByteArray := prog_5_method_10_code
def yX3_isTooGreat : MethodName := ⟨RX3, "isTooGreat", "()Z"⟩
abbrev cX3_fitsFor : ByteArray := prog_5_method_11_code
def yX3_fitsFor : MethodName := ⟨RX3, "fitsFor", "(I)Z"⟩
abbrev cX3_fits : ByteArray := prog_5_method_12_code
def yX3_fits : MethodName := ⟨RX3, "fits", "(J)Z"⟩
def RX4 : String := "TariffDesk$Tariffs"
def TX4 : u_T := fun k => match k with
  | 0 => ("TariffDesk$Tariffs", "rows", "[LTariffDesk$Tariff;", true)
  | _ => ("TariffDesk$Tariffs", "size", "I", false)
def tyX4 : Nat → FieldType := fun k => match k with
  | 0 => .array (.object "TariffDesk$Tariff")
  | _ => .int
abbrev wsX40 : List Cond := u_ws RX4 TX4 2
theorem nmX4 : ∀ a, a < 2 → ∀ b, b < 2 → a ≠ b → (TX4 a).2.1 ≠ (TX4 b).2.1 := by decide +kernel
theorem tyX4_ok : ∀ k, k < 2 → parseFieldDescriptor (TX4 k).2.2.1 = some (tyX4 k) := by decide +kernel
abbrev cX4_init : ByteArray := prog_6_method_1_code
def yX4_init : MethodName := ⟨RX4, "<init>", "(I)V"⟩
abbrev cX4_hasNumber : ByteArray := prog_6_method_2_code
def yX4_hasNumber : MethodName := ⟨RX4, "hasNumber", "(I)Z"⟩
abbrev cX4_at : ByteArray := prog_6_method_3_code
def yX4_at : MethodName := ⟨RX4, "at", "(I)LTariffDesk$Tariff;"⟩
abbrev cX4_add : ByteArray := prog_6_method_4_code
def yX4_add : MethodName := ⟨RX4, "add", "(LTariffDesk$Tariff;)V"⟩
abbrev cX4_copyFrom : ByteArray := prog_6_method_5_code
def yX4_copyFrom : MethodName := ⟨RX4, "copyFrom", "(LTariffDesk$Tariffs;)V"⟩
abbrev cX4_isBetter : ByteArray := prog_6_method_6_code
def yX4_isBetter : MethodName := ⟨RX4, "isBetter", "(III)Z"⟩
def RX5 : String := "TariffDesk$Tree"
def TX5 : u_T := fun k => match k with
  | 0 => ("TariffDesk$Tree", "tariffs", "LTariffDesk$Tariffs;", true)
  | 1 => ("TariffDesk$Tree", "stands", "[I", true)
  | 2 => ("TariffDesk$Tree", "changedNodes", "[I", true)
  | 3 => ("TariffDesk$Tree", "stoodBefore", "[I", true)
  | 4 => ("TariffDesk$Tree", "changesBefore", "[I", true)
  | 5 => ("TariffDesk$Tree", "changes", "I", false)
  | _ => ("TariffDesk$Tree", "lowest", "[I", true)
def tyX5 : Nat → FieldType := fun k => match k with
  | 0 => .object "TariffDesk$Tariffs"
  | 1 => .array .int
  | 2 => .array .int
  | 3 => .array .int
  | 4 => .array .int
  | 5 => .int
  | _ => .array .int
abbrev wsX50 : List Cond := u_ws RX5 TX5 7
theorem nmX5 : ∀ a, a < 7 → ∀ b, b < 7 → a ≠ b → (TX5 a).2.1 ≠ (TX5 b).2.1 := by decide +kernel
theorem tyX5_ok : ∀ k, k < 7 → parseFieldDescriptor (TX5 k).2.2.1 = some (tyX5 k) := by decide +kernel
abbrev cX5_init : ByteArray := prog_7_method_1_code
def yX5_init : MethodName := ⟨RX5, "<init>", "(LTariffDesk$Tariffs;)V"⟩
abbrev cX5_empty : ByteArray := prog_7_method_2_code
def yX5_empty : MethodName := ⟨RX5, "empty", "()V"⟩
abbrev cX5_take : ByteArray := prog_7_method_3_code
def yX5_take : MethodName := ⟨RX5, "take", "(LTariffDesk$Tariff;)I"⟩
abbrev cX5_takeBack : ByteArray := prog_7_method_4_code
def yX5_takeBack : MethodName := ⟨RX5, "takeBack", "()V"⟩
abbrev cX5_standingAt : ByteArray := prog_7_method_5_code
def yX5_standingAt : MethodName := ⟨RX5, "standingAt", "(I)I"⟩
abbrev cX5_nodesOf : ByteArray := prog_7_method_6_code
def yX5_nodesOf : MethodName := ⟨RX5, "nodesOf", "(II)I"⟩
abbrev cX5_lowestFor : ByteArray := prog_7_method_7_code
def yX5_lowestFor : MethodName := ⟨RX5, "lowestFor", "(I)I"⟩
abbrev cX5_firstOf : ByteArray := prog_7_method_8_code
def yX5_firstOf : MethodName := ⟨RX5, "firstOf", "(I)I"⟩
abbrev cX5_lastOf : ByteArray := prog_7_method_9_code
def yX5_lastOf : MethodName := ⟨RX5, "lastOf", "(I)I"⟩
abbrev cX5_middleOf : ByteArray := prog_7_method_10_code
def yX5_middleOf : MethodName := ⟨RX5, "middleOf", "(I)I"⟩
abbrev cX5_sizeOf : ByteArray := prog_7_method_11_code
def yX5_sizeOf : MethodName := ⟨RX5, "sizeOf", "(I)I"⟩
abbrev cX5_widestNode : ByteArray := prog_7_method_12_code
def yX5_widestNode : MethodName := ⟨RX5, "widestNode", "(II)I"⟩
abbrev cX5_push : ByteArray := prog_7_method_13_code
def yX5_push : MethodName := ⟨RX5, "push", "(II)V"⟩
abbrev cX5_halfFor : ByteArray := prog_7_method_14_code
def yX5_halfFor : MethodName := ⟨RX5, "halfFor", "(III)I"⟩
abbrev cX5_put : ByteArray := prog_7_method_15_code
def yX5_put : MethodName := ⟨RX5, "put", "(II)V"⟩
abbrev cX5_putBack : ByteArray := prog_7_method_16_code
def yX5_putBack : MethodName := ⟨RX5, "putBack", "(I)V"⟩
abbrev cX5_isLogPlace : ByteArray := prog_7_method_17_code
def yX5_isLogPlace : MethodName := ⟨RX5, "isLogPlace", "(I)Z"⟩
abbrev cX5_lowerBy : ByteArray := prog_7_method_18_code
def yX5_lowerBy : MethodName := ⟨RX5, "lowerBy", "(ILTariffDesk$Tariff;)V"⟩
abbrev cX5_bestAbove : ByteArray := prog_7_method_19_code
def yX5_bestAbove : MethodName := ⟨RX5, "bestAbove", "(I)I"⟩
def RX6 : String := "TariffDesk"
def TX6 : u_T := fun k => match k with
  | 0 => ("TariffDesk", "page", "LTariffDesk$Page;", true)
  | 1 => ("TariffDesk", "tariffs", "LTariffDesk$Tariffs;", true)
  | 2 => ("TariffDesk", "tree", "LTariffDesk$Tree;", true)
  | 3 => ("TariffDesk", "seen", "LTariffDesk$Seen;", true)
  | 4 => ("TariffDesk", "draws", "LTariffDesk$Draws;", true)
  | 5 => ("TariffDesk", "asked", "LTariffDesk$Tariff;", true)
  | 6 => ("TariffDesk", "keptTariffs", "LTariffDesk$Tariffs;", true)
  | 7 => ("TariffDesk", "keptSeen", "LTariffDesk$Seen;", true)
  | 8 => ("TariffDesk", "hasDesk", "Z", false)
  | 9 => ("TariffDesk", "hasImage", "Z", false)
  | _ => ("TariffDesk", "desksRead", "I", false)
def tyX6 : Nat → FieldType := fun k => match k with
  | 0 => .object "TariffDesk$Page"
  | 1 => .object "TariffDesk$Tariffs"
  | 2 => .object "TariffDesk$Tree"
  | 3 => .object "TariffDesk$Seen"
  | 4 => .object "TariffDesk$Draws"
  | 5 => .object "TariffDesk$Tariff"
  | 6 => .object "TariffDesk$Tariffs"
  | 7 => .object "TariffDesk$Seen"
  | 8 => .boolean
  | 9 => .boolean
  | _ => .int
abbrev wsX60 : List Cond := u_ws RX6 TX6 11
theorem nmX6 : ∀ a, a < 11 → ∀ b, b < 11 → a ≠ b → (TX6 a).2.1 ≠ (TX6 b).2.1 := by decide +kernel
theorem tyX6_ok : ∀ k, k < 11 → parseFieldDescriptor (TX6 k).2.2.1 = some (tyX6 k) := by decide +kernel
abbrev cX6_init : ByteArray := prog_1_method_1_code
def yX6_init : MethodName := ⟨RX6, "<init>", "()V"⟩
abbrev cX6_letter : ByteArray := prog_1_method_2_code
def yX6_letter : MethodName := ⟨RX6, "letter", "(I)I"⟩
abbrev cX6_blank : ByteArray := prog_1_method_3_code
def yX6_blank : MethodName := ⟨RX6, "blank", "()I"⟩
abbrev cX6_fault : ByteArray := prog_1_method_4_code
def yX6_fault : MethodName := ⟨RX6, "fault", "()I"⟩
abbrev cX6_desk : ByteArray := prog_1_method_5_code
def yX6_desk : MethodName := ⟨RX6, "desk", "()I"⟩
abbrev cX6_tariff : ByteArray := prog_1_method_6_code
def yX6_tariff : MethodName := ⟨RX6, "tariff", "(II)I"⟩
abbrev cX6_as : ByteArray := prog_1_method_7_code
def yX6_as : MethodName := ⟨RX6, "as", "(II)I"⟩
abbrev cX6_price : ByteArray := prog_1_method_8_code
def yX6_price : MethodName := ⟨RX6, "price", "(II)J"⟩
abbrev cX6_node : ByteArray := prog_1_method_9_code
def yX6_node : MethodName := ⟨RX6, "node", "(II)I"⟩
abbrev cX6_offer : ByteArray := prog_1_method_10_code
def yX6_offer : MethodName := ⟨RX6, "offer", "(IIII)I"⟩
abbrev cX6_undo : ByteArray := prog_1_method_11_code
def yX6_undo : MethodName := ⟨RX6, "undo", "()I"⟩
abbrev cX6_cheapest : ByteArray := prog_1_method_12_code
def yX6_cheapest : MethodName := ⟨RX6, "cheapest", "(I)I"⟩
abbrev cX6_cost : ByteArray := prog_1_method_13_code
def yX6_cost : MethodName := ⟨RX6, "cost", "(I)J"⟩
abbrev cX6_piece : ByteArray := prog_1_method_14_code
def yX6_piece : MethodName := ⟨RX6, "piece", "(II)I"⟩
abbrev cX6_bargain : ByteArray := prog_1_method_15_code
def yX6_bargain : MethodName := ⟨RX6, "bargain", "(II)I"⟩
abbrev cX6_crossing : ByteArray := prog_1_method_16_code
def yX6_crossing : MethodName := ⟨RX6, "crossing", "(II)I"⟩
abbrev cX6_would : ByteArray := prog_1_method_17_code
def yX6_would : MethodName := ⟨RX6, "would", "(IIII)I"⟩
abbrev cX6_see : ByteArray := prog_1_method_18_code
def yX6_see : MethodName := ⟨RX6, "see", "(III)I"⟩
abbrev cX6_forget : ByteArray := prog_1_method_19_code
def yX6_forget : MethodName := ⟨RX6, "forget", "()I"⟩
abbrev cX6_drawn : ByteArray := prog_1_method_20_code
def yX6_drawn : MethodName := ⟨RX6, "drawn", "(III)I"⟩
abbrev cX6_image : ByteArray := prog_1_method_21_code
def yX6_image : MethodName := ⟨RX6, "image", "()I"⟩
abbrev cX6_restore : ByteArray := prog_1_method_22_code
def yX6_restore : MethodName := ⟨RX6, "restore", "()I"⟩
abbrev cX6_count : ByteArray := prog_1_method_23_code
def yX6_count : MethodName := ⟨RX6, "count", "(I)I"⟩
abbrev cX6_digest : ByteArray := prog_1_method_24_code
def yX6_digest : MethodName := ⟨RX6, "digest", "()J"⟩
abbrev cX6_mixedWithTree : ByteArray := prog_1_method_25_code
def yX6_mixedWithTree : MethodName := ⟨RX6, "mixedWithTree", "(J)J"⟩
abbrev cX6_mixed : ByteArray := prog_1_method_26_code
def yX6_mixed : MethodName := ⟨RX6, "mixed", "(JJ)J"⟩
abbrev cX6_isQuantity : ByteArray := prog_1_method_27_code
def yX6_isQuantity : MethodName := ⟨RX6, "isQuantity", "(I)Z"⟩
abbrev cX6_isKind : ByteArray := prog_1_method_28_code
def yX6_isKind : MethodName := ⟨RX6, "isKind", "(I)Z"⟩
abbrev cX6_refusalOf : ByteArray := prog_1_method_29_code
def yX6_refusalOf : MethodName := ⟨RX6, "refusalOf", "(IIII)I"⟩
abbrev cX6_quantitiesOf : ByteArray := prog_1_method_30_code
def yX6_quantitiesOf : MethodName := ⟨RX6, "quantitiesOf", "(II)I"⟩
abbrev cX6_tariffsNeverLowest : ByteArray := prog_1_method_31_code
def yX6_tariffsNeverLowest : MethodName := ⟨RX6, "tariffsNeverLowest", "()I"⟩
abbrev cX6_beginsPiece : ByteArray := prog_1_method_32_code
def yX6_beginsPiece : MethodName := ⟨RX6, "beginsPiece", "(I)Z"⟩
abbrev cX6_pieces : ByteArray := prog_1_method_33_code
def yX6_pieces : MethodName := ⟨RX6, "pieces", "()I"⟩
abbrev cX6_firstOfPiece : ByteArray := prog_1_method_34_code
def yX6_firstOfPiece : MethodName := ⟨RX6, "firstOfPiece", "(I)I"⟩
abbrev cX6_lastOfPiece : ByteArray := prog_1_method_35_code
def yX6_lastOfPiece : MethodName := ⟨RX6, "lastOfPiece", "(I)I"⟩
def RX7 : String := "TariffDeskModel"
def TX7 : u_T := fun k => match k with
  | 0 => ("TariffDeskModel", "desks", "I", false)
  | 1 => ("TariffDeskModel", "tariffs", "I", false)
  | 2 => ("TariffDeskModel", "kindOf", "[I", true)
  | 3 => ("TariffDeskModel", "rateOf", "[I", true)
  | 4 => ("TariffDeskModel", "baseOf", "[I", true)
  | 5 => ("TariffDeskModel", "firstOf", "[I", true)
  | 6 => ("TariffDeskModel", "lastOf", "[I", true)
  | 7 => ("TariffDeskModel", "stands", "[I", true)
  | 8 => ("TariffDeskModel", "seen", "I", false)
  | 9 => ("TariffDeskModel", "seenTariff", "[I", true)
  | 10 => ("TariffDeskModel", "seenQuantity", "[I", true)
  | 11 => ("TariffDeskModel", "seenPrice", "[I", true)
  | 12 => ("TariffDeskModel", "pageLength", "I", false)
  | 13 => ("TariffDeskModel", "page", "[B", true)
  | 14 => ("TariffDeskModel", "isWhole", "Z", false)
  | 15 => ("TariffDeskModel", "newTariffs", "I", false)
  | 16 => ("TariffDeskModel", "before", "[I", true)
  | 17 => ("TariffDeskModel", "seedNow", "J", false)
  | 18 => ("TariffDeskModel", "isKept", "Z", false)
  | 19 => ("TariffDeskModel", "keptDesk", "I", false)
  | 20 => ("TariffDeskModel", "keptTariffs", "I", false)
  | 21 => ("TariffDeskModel", "keptSeen", "I", false)
  | 22 => ("TariffDeskModel", "keptKind", "[I", true)
  | 23 => ("TariffDeskModel", "keptRate", "[I", true)
  | 24 => ("TariffDeskModel", "keptBase", "[I", true)
  | 25 => ("TariffDeskModel", "keptFirst", "[I", true)
  | 26 => ("TariffDeskModel", "keptLast", "[I", true)
  | 27 => ("TariffDeskModel", "keptTariff", "[I", true)
  | 28 => ("TariffDeskModel", "keptQuantity", "[I", true)
  | 29 => ("TariffDeskModel", "keptPrice", "[I", true)
  | _ => ("TariffDeskModel", "h", "J", false)
def tyX7 : Nat → FieldType := fun k => match k with
  | 0 => .int
  | 1 => .int
  | 2 => .array .int
  | 3 => .array .int
  | 4 => .array .int
  | 5 => .array .int
  | 6 => .array .int
  | 7 => .array .int
  | 8 => .int
  | 9 => .array .int
  | 10 => .array .int
  | 11 => .array .int
  | 12 => .int
  | 13 => .array .byte
  | 14 => .boolean
  | 15 => .int
  | 16 => .array .int
  | 17 => .long
  | 18 => .boolean
  | 19 => .int
  | 20 => .int
  | 21 => .int
  | 22 => .array .int
  | 23 => .array .int
  | 24 => .array .int
  | 25 => .array .int
  | 26 => .array .int
  | 27 => .array .int
  | 28 => .array .int
  | 29 => .array .int
  | _ => .long
abbrev wsX70 : List Cond := u_ws RX7 TX7 31
theorem nmX7 : ∀ a, a < 31 → ∀ b, b < 31 → a ≠ b → (TX7 a).2.1 ≠ (TX7 b).2.1 := by decide +kernel
theorem tyX7_ok : ∀ k, k < 31 → parseFieldDescriptor (TX7 k).2.2.1 = some (tyX7 k) := by decide +kernel
abbrev cX7_init : ByteArray := prog_9_method_1_code
def yX7_init : MethodName := ⟨RX7, "<init>", "()V"⟩
abbrev cX7_within : ByteArray := prog_9_method_3_code
def yX7_within : MethodName := ⟨RX7, "within", "(III)Z"⟩
abbrev cX7_isIn : ByteArray := prog_9_method_4_code
def yX7_isIn : MethodName := ⟨RX7, "isIn", "(II)Z"⟩
abbrev cX7_letter : ByteArray := prog_9_method_5_code
def yX7_letter : MethodName := ⟨RX7, "letter", "(I)I"⟩
abbrev cX7_blank : ByteArray := prog_9_method_6_code
def yX7_blank : MethodName := ⟨RX7, "blank", "()I"⟩
abbrev cX7_kindBy : ByteArray := prog_9_method_7_code
def yX7_kindBy : MethodName := ⟨RX7, "kindBy", "(I)I"⟩
abbrev cX7_at : ByteArray := prog_9_method_8_code
def yX7_at : MethodName := ⟨RX7, "at", "(I)I"⟩
abbrev cX7_figure : ByteArray := prog_9_method_9_code
def yX7_figure : MethodName := ⟨RX7, "figure", "(I)I"⟩
abbrev cX7_isSign : ByteArray := prog_9_method_10_code
def yX7_isSign : MethodName := ⟨RX7, "isSign", "(I)Z"⟩
abbrev cX7_isLetter : ByteArray := prog_9_method_11_code
def yX7_isLetter : MethodName := ⟨RX7, "isLetter", "(II)Z"⟩
abbrev cX7_readTariff : ByteArray := prog_9_method_12_code
def yX7_readTariff : MethodName := ⟨RX7, "readTariff", "(I)I"⟩
abbrev cX7_read : ByteArray := prog_9_method_13_code
def yX7_read : MethodName := ⟨RX7, "read", "()I"⟩
abbrev cX7_fault : ByteArray := prog_9_method_14_code
def yX7_fault : MethodName := ⟨RX7, "fault", "()I"⟩
abbrev cX7_signed : ByteArray := prog_9_method_15_code
def yX7_signed : MethodName := ⟨RX7, "signed", "(II)I"⟩
abbrev cX7_desk : ByteArray := prog_9_method_16_code
def yX7_desk : MethodName := ⟨RX7, "desk", "()I"⟩
abbrev cX7_isTariff : ByteArray := prog_9_method_17_code
def yX7_isTariff : MethodName := ⟨RX7, "isTariff", "(I)Z"⟩
abbrev cX7_often : ByteArray := prog_9_method_18_code
def yX7_often : MethodName := ⟨RX7, "often", "(III)J"⟩
abbrev cX7_asBase : ByteArray := prog_9_method_19_code
def yX7_asBase : MethodName := ⟨RX7, "asBase", "(II)J"⟩
abbrev cX7_priceBy : ByteArray := prog_9_method_20_code
def yX7_priceBy : MethodName := ⟨RX7, "priceBy", "(IIIII)J"⟩
abbrev cX7_priceOf : ByteArray := prog_9_method_21_code
def yX7_priceOf : MethodName := ⟨RX7, "priceOf", "(II)J"⟩
abbrev cX7_isGreat : ByteArray := prog_9_method_22_code
def yX7_isGreat : MethodName := ⟨RX7, "isGreat", "(J)Z"⟩
abbrev cX7_isTooGreat : ByteArray := prog_9_method_23_code
def yX7_isTooGreat : MethodName := ⟨RX7, "isTooGreat", "(IIIII)Z"⟩
abbrev cX7_isBetter : ByteArray := prog_9_method_24_code
def yX7_isBetter : MethodName := ⟨RX7, "isBetter", "(III)Z"⟩
abbrev cX7_has : ByteArray := prog_9_method_25_code
def yX7_has : MethodName := ⟨RX7, "has", "(II)Z"⟩
abbrev cX7_lengthOf : ByteArray := prog_9_method_26_code
def yX7_lengthOf : MethodName := ⟨RX7, "lengthOf", "(I)I"⟩
abbrev cX7_firstAt : ByteArray := prog_9_method_27_code
def yX7_firstAt : MethodName := ⟨RX7, "firstAt", "(I)I"⟩
abbrev cX7_lastAt : ByteArray := prog_9_method_28_code
def yX7_lastAt : MethodName := ⟨RX7, "lastAt", "(I)I"⟩
abbrev cX7_middleAt : ByteArray := prog_9_method_29_code
def yX7_middleAt : MethodName := ⟨RX7, "middleAt", "(I)I"⟩
abbrev cX7_push : ByteArray := prog_9_method_30_code
def yX7_push : MethodName := ⟨RX7, "push", "(II)V"⟩
abbrev cX7_isAll : ByteArray := prog_9_method_31_code
def yX7_isAll : MethodName := ⟨RX7, "isAll", "(II)Z"⟩
abbrev cX7_offerNow : ByteArray := prog_9_method_32_code
def yX7_offerNow : MethodName := ⟨RX7, "offerNow", "(I)V"⟩
abbrev cX7_take : ByteArray := prog_9_method_33_code
def yX7_take : MethodName := ⟨RX7, "take", "(IIIII)V"⟩
abbrev cX7_again : ByteArray := prog_9_method_34_code
def yX7_again : MethodName := ⟨RX7, "again", "(I)V"⟩
abbrev cX7_cheapestFor : ByteArray := prog_9_method_35_code
def yX7_cheapestFor : MethodName := ⟨RX7, "cheapestFor", "(I)I"⟩
abbrev cX7_nodesOf : ByteArray := prog_9_method_36_code
def yX7_nodesOf : MethodName := ⟨RX7, "nodesOf", "(I)I"⟩
abbrev cX7_quantitiesOf : ByteArray := prog_9_method_37_code
def yX7_quantitiesOf : MethodName := ⟨RX7, "quantitiesOf", "(I)I"⟩
abbrev cX7_tariffNow : ByteArray := prog_9_method_38_code
def yX7_tariffNow : MethodName := ⟨RX7, "tariffNow", "(II)I"⟩
abbrev cX7_tariff : ByteArray := prog_9_method_39_code
def yX7_tariff : MethodName := ⟨RX7, "tariff", "(II)I"⟩
abbrev cX7_as : ByteArray := prog_9_method_40_code
def yX7_as : MethodName := ⟨RX7, "as", "(II)I"⟩
abbrev cX7_isQuantity : ByteArray := prog_9_method_41_code
def yX7_isQuantity : MethodName := ⟨RX7, "isQuantity", "(I)Z"⟩
abbrev cX7_price : ByteArray := prog_9_method_42_code
def yX7_price : MethodName := ⟨RX7, "price", "(II)J"⟩
abbrev cX7_nodeNow : ByteArray := prog_9_method_43_code
def yX7_nodeNow : MethodName := ⟨RX7, "nodeNow", "(II)I"⟩
abbrev cX7_node : ByteArray := prog_9_method_44_code
def yX7_node : MethodName := ⟨RX7, "node", "(II)I"⟩
abbrev cX7_isSpan : ByteArray := prog_9_method_45_code
def yX7_isSpan : MethodName := ⟨RX7, "isSpan", "(I)Z"⟩
abbrev cX7_refused : ByteArray := prog_9_method_46_code
def yX7_refused : MethodName := ⟨RX7, "refused", "(IIII)I"⟩
abbrev cX7_layBefore : ByteArray := prog_9_method_47_code
def yX7_layBefore : MethodName := ⟨RX7, "layBefore", "()V"⟩
abbrev cX7_offer : ByteArray := prog_9_method_48_code
def yX7_offer : MethodName := ⟨RX7, "offer", "(IIII)I"⟩
abbrev cX7_undo : ByteArray := prog_9_method_49_code
def yX7_undo : MethodName := ⟨RX7, "undo", "()I"⟩
abbrev cX7_cheapest : ByteArray := prog_9_method_50_code
def yX7_cheapest : MethodName := ⟨RX7, "cheapest", "(I)I"⟩
abbrev cX7_costFor : ByteArray := prog_9_method_51_code
def yX7_costFor : MethodName := ⟨RX7, "costFor", "(I)J"⟩
abbrev cX7_cost : ByteArray := prog_9_method_52_code
def yX7_cost : MethodName := ⟨RX7, "cost", "(I)J"⟩
abbrev cX7_isFirstOfPiece : ByteArray := prog_9_method_53_code
def yX7_isFirstOfPiece : MethodName := ⟨RX7, "isFirstOfPiece", "(I)Z"⟩
abbrev cX7_pieces : ByteArray := prog_9_method_54_code
def yX7_pieces : MethodName := ⟨RX7, "pieces", "()I"⟩
abbrev cX7_pieceNow : ByteArray := prog_9_method_55_code
def yX7_pieceNow : MethodName := ⟨RX7, "pieceNow", "(II)I"⟩
abbrev cX7_piece : ByteArray := prog_9_method_56_code
def yX7_piece : MethodName := ⟨RX7, "piece", "(II)I"⟩
abbrev cX7_bargainIn : ByteArray := prog_9_method_57_code
def yX7_bargainIn : MethodName := ⟨RX7, "bargainIn", "(II)I"⟩
abbrev cX7_bargain : ByteArray := prog_9_method_58_code
def yX7_bargain : MethodName := ⟨RX7, "bargain", "(II)I"⟩
abbrev cX7_crossingOf : ByteArray := prog_9_method_59_code
def yX7_crossingOf : MethodName := ⟨RX7, "crossingOf", "(II)I"⟩
abbrev cX7_crossing : ByteArray := prog_9_method_60_code
def yX7_crossing : MethodName := ⟨RX7, "crossing", "(II)I"⟩
abbrev cX7_would : ByteArray := prog_9_method_61_code
def yX7_would : MethodName := ⟨RX7, "would", "(IIII)I"⟩
abbrev cX7_see : ByteArray := prog_9_method_62_code
def yX7_see : MethodName := ⟨RX7, "see", "(III)I"⟩
abbrev cX7_forget : ByteArray := prog_9_method_63_code
def yX7_forget : MethodName := ⟨RX7, "forget", "()I"⟩
abbrev cX7_asKind : ByteArray := prog_9_method_64_code
def yX7_asKind : MethodName := ⟨RX7, "asKind", "(III)J"⟩
abbrev cX7_sortsOf : ByteArray := prog_9_method_65_code
def yX7_sortsOf : MethodName := ⟨RX7, "sortsOf", "(I)I"⟩
abbrev cX7_worstBy : ByteArray := prog_9_method_66_code
def yX7_worstBy : MethodName := ⟨RX7, "worstBy", "(III)I"⟩
abbrev cX7_askOf : ByteArray := prog_9_method_67_code
def yX7_askOf : MethodName := ⟨RX7, "askOf", "(I)I"⟩
abbrev cX7_draw : ByteArray := prog_9_method_68_code
def yX7_draw : MethodName := ⟨RX7, "draw", "(I)I"⟩
abbrev cX7_drawOne : ByteArray := prog_9_method_69_code
def yX7_drawOne : MethodName := ⟨RX7, "drawOne", "()V"⟩
abbrev cX7_drawnNow : ByteArray := prog_9_method_70_code
def yX7_drawnNow : MethodName := ⟨RX7, "drawnNow", "(III)I"⟩
abbrev cX7_drawn : ByteArray := prog_9_method_71_code
def yX7_drawn : MethodName := ⟨RX7, "drawn", "(III)I"⟩
abbrev cX7_image : ByteArray := prog_9_method_72_code
def yX7_image : MethodName := ⟨RX7, "image", "()I"⟩
abbrev cX7_restore : ByteArray := prog_9_method_73_code
def yX7_restore : MethodName := ⟨RX7, "restore", "()I"⟩
abbrev cX7_gaps : ByteArray := prog_9_method_74_code
def yX7_gaps : MethodName := ⟨RX7, "gaps", "()I"⟩
abbrev cX7_idle : ByteArray := prog_9_method_75_code
def yX7_idle : MethodName := ⟨RX7, "idle", "()I"⟩
abbrev cX7_howMany : ByteArray := prog_9_method_76_code
def yX7_howMany : MethodName := ⟨RX7, "howMany", "(I)I"⟩
abbrev cX7_count : ByteArray := prog_9_method_77_code
def yX7_count : MethodName := ⟨RX7, "count", "(I)I"⟩
abbrev cX7_mix : ByteArray := prog_9_method_78_code
def yX7_mix : MethodName := ⟨RX7, "mix", "(J)V"⟩
abbrev cX7_mixDesk : ByteArray := prog_9_method_79_code
def yX7_mixDesk : MethodName := ⟨RX7, "mixDesk", "()V"⟩
abbrev cX7_digest : ByteArray := prog_9_method_80_code
def yX7_digest : MethodName := ⟨RX7, "digest", "()J"⟩
def RJ11 : String := "java/lang/Character"
def TJ11 : u_T := fun k => match k with
  | _ => ("", "", "", false)
def tyJ11 : Nat → FieldType := fun k => match k with
  | _ => .int
abbrev wsJ110 : List Cond := u_ws RJ11 TJ11 0
theorem nmJ11 : ∀ a, a < 0 → ∀ b, b < 0 → a ≠ b → (TJ11 a).2.1 ≠ (TJ11 b).2.1 := by decide +kernel
theorem tyJ11_ok : ∀ k, k < 0 → parseFieldDescriptor (TJ11 k).2.2.1 = some (tyJ11 k) := by decide +kernel
abbrev cJ11_isValidCodePoint_9a6ad : ByteArray := prog_10_method_11_code
def yJ11_isValidCodePoint_9a6ad : MethodName := ⟨RJ11, "isValidCodePoint", "(I)Z"⟩
abbrev cJ11_highSurrogate_5068e : ByteArray := prog_10_method_28_code
def yJ11_highSurrogate_5068e : MethodName := ⟨RJ11, "highSurrogate", "(I)C"⟩
abbrev cJ11_lowSurrogate_5068e : ByteArray := prog_10_method_29_code
def yJ11_lowSurrogate_5068e : MethodName := ⟨RJ11, "lowSurrogate", "(I)C"⟩
def RJ9 : String := "java/lang/Math"
def TJ9 : u_T := fun k => match k with
  | _ => ("", "", "", false)
def tyJ9 : Nat → FieldType := fun k => match k with
  | _ => .int
abbrev wsJ90 : List Cond := u_ws RJ9 TJ9 0
theorem nmJ9 : ∀ a, a < 0 → ∀ b, b < 0 → a ≠ b → (TJ9 a).2.1 ≠ (TJ9 b).2.1 := by decide +kernel
theorem tyJ9_ok : ∀ k, k < 0 → parseFieldDescriptor (TJ9 k).2.2.1 = some (tyJ9 k) := by decide +kernel
abbrev cJ9_floorDiv_7cf53 : ByteArray := prog_11_method_47_code
def yJ9_floorDiv_7cf53 : MethodName := ⟨RJ9, "floorDiv", "(II)I"⟩
abbrev cJ9_max_7cf53 : ByteArray := prog_11_method_65_code
def yJ9_max_7cf53 : MethodName := ⟨RJ9, "max", "(II)I"⟩
abbrev cJ9_min_7cf53 : ByteArray := prog_11_method_69_code
def yJ9_min_7cf53 : MethodName := ⟨RJ9, "min", "(II)I"⟩
def RJ0 : String := "java/lang/String"
def TJ0 : u_T := fun k => match k with
  | _ => ("", "", "", false)
def tyJ0 : Nat → FieldType := fun k => match k with
  | _ => .int
abbrev wsJ00 : List Cond := u_ws RJ0 TJ0 0
theorem nmJ0 : ∀ a, a < 0 → ∀ b, b < 0 → a ≠ b → (TJ0 a).2.1 ≠ (TJ0 b).2.1 := by decide +kernel
theorem tyJ0_ok : ∀ k, k < 0 → parseFieldDescriptor (TJ0 k).2.2.1 = some (tyJ0 k) := by decide +kernel
abbrev cJ0_length_8abf5 : ByteArray := prog_12_method_54_code
def yJ0_length_8abf5 : MethodName := ⟨RJ0, "length", "()I"⟩
abbrev cJ0_indexOf_0f7a4 : ByteArray := prog_12_method_79_code
def yJ0_indexOf_0f7a4 : MethodName := ⟨RJ0, "indexOf", "(I)I"⟩
abbrev cJ0_indexOf_7cf53 : ByteArray := prog_12_method_80_code
def yJ0_indexOf_7cf53 : MethodName := ⟨RJ0, "indexOf", "(II)I"⟩
abbrev cJ0_coder_7d493 : ByteArray := prog_12_method_152_code
def yJ0_coder_7d493 : MethodName := ⟨RJ0, "coder", "()B"⟩
abbrev cJ0_isLatin1_aae02 : ByteArray := prog_12_method_154_code
def yJ0_isLatin1_aae02 : MethodName := ⟨RJ0, "isLatin1", "()Z"⟩
abbrev cJ0_checkBoundsBeginEnd_23922 : ByteArray := prog_12_method_158_code
def yJ0_checkBoundsBeginEnd_23922 : MethodName := ⟨RJ0, "checkBoundsBeginEnd", "(III)V"⟩
def RJ1 : String := "java/lang/StringLatin1"
def TJ1 : u_T := fun k => match k with
  | _ => ("", "", "", false)
def tyJ1 : Nat → FieldType := fun k => match k with
  | _ => .int
abbrev wsJ10 : List Cond := u_ws RJ1 TJ1 0
theorem nmJ1 : ∀ a, a < 0 → ∀ b, b < 0 → a ≠ b → (TJ1 a).2.1 ≠ (TJ1 b).2.1 := by decide +kernel
theorem tyJ1_ok : ∀ k, k < 0 → parseFieldDescriptor (TJ1 k).2.2.1 = some (tyJ1 k) := by decide +kernel
abbrev cJ1_canEncode_9a6ad : ByteArray := prog_13_method_4_code
def yJ1_canEncode_9a6ad : MethodName := ⟨RJ1, "canEncode", "(I)Z"⟩
abbrev cJ1_indexOf_4cfef : ByteArray := prog_13_method_22_code
def yJ1_indexOf_4cfef : MethodName := ⟨RJ1, "indexOf", "([BIII)I"⟩
abbrev cJ1_indexOfChar_4cfef : ByteArray := prog_13_method_23_code
def yJ1_indexOfChar_4cfef : MethodName := ⟨RJ1, "indexOfChar", "([BIII)I"⟩
def RJ2 : String := "java/lang/StringUTF16"
def TJ2 : u_T := fun k => match k with
  | _ => ("", "", "", false)
def tyJ2 : Nat → FieldType := fun k => match k with
  | _ => .int
abbrev wsJ20 : List Cond := u_ws RJ2 TJ2 0
theorem nmJ2 : ∀ a, a < 0 → ∀ b, b < 0 → a ≠ b → (TJ2 a).2.1 ≠ (TJ2 b).2.1 := by decide +kernel
theorem tyJ2_ok : ∀ k, k < 0 → parseFieldDescriptor (TJ2 k).2.2.1 = some (tyJ2 k) := by decide +kernel
abbrev cJ2_getChar_3b067 : ByteArray := prog_14_method_5_code
def yJ2_getChar_3b067 : MethodName := ⟨RJ2, "getChar", "([BI)C"⟩
abbrev cJ2_length_9d52b : ByteArray := prog_14_method_6_code
def yJ2_length_9d52b : MethodName := ⟨RJ2, "length", "([B)I"⟩
abbrev cJ2_indexOf_4cfef : ByteArray := prog_14_method_40_code
def yJ2_indexOf_4cfef : MethodName := ⟨RJ2, "indexOf", "([BIII)I"⟩
abbrev cJ2_indexOfChar_4cfef : ByteArray := prog_14_method_47_code
def yJ2_indexOfChar_4cfef : MethodName := ⟨RJ2, "indexOfChar", "([BIII)I"⟩
abbrev cJ2_indexOfCharUnsafe_4cfef : ByteArray := prog_14_method_48_code
def yJ2_indexOfCharUnsafe_4cfef : MethodName := ⟨RJ2, "indexOfCharUnsafe", "([BIII)I"⟩
abbrev cJ2_indexOfSupplementary_4cfef : ByteArray := prog_14_method_49_code
def yJ2_indexOfSupplementary_4cfef : MethodName := ⟨RJ2, "indexOfSupplementary", "([BIII)I"⟩
abbrev cJ2_checkBoundsBeginEnd_d044e : ByteArray := prog_14_method_93_code
def yJ2_checkBoundsBeginEnd_d044e : MethodName := ⟨RJ2, "checkBoundsBeginEnd", "(II[B)V"⟩
def RJ7 : String := "java/util/Arrays"
def TJ7 : u_T := fun k => match k with
  | _ => ("", "", "", false)
def tyJ7 : Nat → FieldType := fun k => match k with
  | _ => .int
abbrev wsJ70 : List Cond := u_ws RJ7 TJ7 0
theorem nmJ7 : ∀ a, a < 0 → ∀ b, b < 0 → a ≠ b → (TJ7 a).2.1 ≠ (TJ7 b).2.1 := by decide +kernel
theorem tyJ7_ok : ∀ k, k < 0 → parseFieldDescriptor (TJ7 k).2.2.1 = some (tyJ7 k) := by decide +kernel
abbrev cJ7_fill_53178 : ByteArray := prog_15_method_103_code
def yJ7_fill_53178 : MethodName := ⟨RJ7, "fill", "([II)V"⟩
def RJ3 : String := "jdk/internal/util/Preconditions"
def TJ3 : u_T := fun k => match k with
  | _ => ("", "", "", false)
def tyJ3 : Nat → FieldType := fun k => match k with
  | _ => .int
abbrev wsJ30 : List Cond := u_ws RJ3 TJ3 0
theorem nmJ3 : ∀ a, a < 0 → ∀ b, b < 0 → a ≠ b → (TJ3 a).2.1 ≠ (TJ3 b).2.1 := by decide +kernel
theorem tyJ3_ok : ∀ k, k < 0 → parseFieldDescriptor (TJ3 k).2.2.1 = some (tyJ3 k) := by decide +kernel
abbrev cJ3_checkFromToIndex_8c36e : ByteArray := prog_16_method_12_code
def yJ3_checkFromToIndex_8c36e : MethodName := ⟨RJ3, "checkFromToIndex", "(IIILjava/util/function/BiFunction;)I"⟩
def RL : String := "TariffDeskLaw"
abbrev cL_law : ByteArray := code
def yL_law : MethodName := ⟨RL, "law", "([I)Z"⟩
def wsL_law_r1 : List Cond := [Cond.classLink RL 7 RX6, Cond.instantiable RX6 11, Cond.initialized RX6, Cond.classLink RL 10 RX7, Cond.instantiable RX7 31, Cond.initialized RX7, Cond.methodLink RL 9 yX6_init, Cond.instanceMethod yX6_init, Cond.code yX6_init cX6_init 1 none, Cond.methodLink RX6 1 objectInit, Cond.instanceMethod objectInit, Cond.code objectInit ⟨#[0xb1]⟩ 1 none, Cond.classLink RX6 7 RX1, Cond.instantiable RX1 2, Cond.initialized RX1, Cond.fieldLink RX6 10 "TariffDesk" "page" "LTariffDesk$Page;", Cond.classLink RX6 16 RX4, Cond.instantiable RX4 2, Cond.initialized RX4, Cond.fieldLink RX6 21 "TariffDesk" "tariffs" "LTariffDesk$Tariffs;", Cond.classLink RX6 25 RX5, Cond.instantiable RX5 7, Cond.initialized RX5, Cond.fieldLink RX6 30 "TariffDesk" "tree" "LTariffDesk$Tree;"]
def wsL_law_r2 : List Cond := [Cond.classLink RX6 34 RX2, Cond.instantiable RX2 5, Cond.initialized RX2, Cond.fieldLink RX6 37 "TariffDesk" "seen" "LTariffDesk$Seen;", Cond.classLink RX6 41 RX0, Cond.instantiable RX0 1, Cond.initialized RX0, Cond.fieldLink RX6 44 "TariffDesk" "draws" "LTariffDesk$Draws;", Cond.classLink RX6 48 RX3, Cond.instantiable RX3 5, Cond.initialized RX3, Cond.fieldLink RX6 51 "TariffDesk" "asked" "LTariffDesk$Tariff;", Cond.fieldLink RX6 55 "TariffDesk" "keptTariffs" "LTariffDesk$Tariffs;", Cond.fieldLink RX6 58 "TariffDesk" "keptSeen" "LTariffDesk$Seen;", Cond.instanceMethod yX1_init, Cond.code yX1_init cX1_init 1 none, Cond.methodLink RX1 5 objectInit, Cond.arrayClass .int, Cond.fieldLink RX1 11 "TariffDesk$Page" "letters" "[I", Cond.methodLink RX6 18 yX4_init, Cond.instanceMethod yX4_init, Cond.code yX4_init cX4_init 3 none, Cond.methodLink RX4 1 objectInit, Cond.methodLink RX4 7 Lib.Math.max.name]
def wsL_law_r3 : List Cond := [Cond.static Lib.Math.max.name, Cond.initialized "java/lang/Math", Cond.code Lib.Math.max.name Lib.Math.max.code 2 (some .int), Cond.classLink RX4 13 RX3, Cond.fieldLink RX4 15 "TariffDesk$Tariffs" "rows" "[LTariffDesk$Tariff;", Cond.instanceMethod yX3_init, Cond.code yX3_init cX3_init 1 none, Cond.methodLink RX3 3 objectInit, Cond.methodLink RX6 27 yX5_init, Cond.instanceMethod yX5_init, Cond.code yX5_init cX5_init 2 none, Cond.methodLink RX5 3 objectInit, Cond.fieldLink RX5 9 "TariffDesk$Tree" "stands" "[I", Cond.fieldLink RX5 15 "TariffDesk$Tree" "changedNodes" "[I", Cond.fieldLink RX5 18 "TariffDesk$Tree" "stoodBefore" "[I", Cond.fieldLink RX5 21 "TariffDesk$Tree" "changesBefore" "[I", Cond.fieldLink RX5 24 "TariffDesk$Tree" "lowest" "[I", Cond.fieldLink RX5 27 "TariffDesk$Tree" "tariffs" "LTariffDesk$Tariffs;", Cond.methodLink RX5 31 yJ7_fill_53178, Cond.static yJ7_fill_53178, Cond.initialized RJ7, Cond.code yJ7_fill_53178 cJ7_fill_53178 4 none, Cond.instanceMethod yX2_init, Cond.code yX2_init cX2_init 1 none]
def wsL_law_r4 : List Cond := [Cond.methodLink RX2 3 objectInit, Cond.fieldLink RX2 9 "TariffDesk$Seen" "numbers" "[I", Cond.fieldLink RX2 15 "TariffDesk$Seen" "quantities" "[I", Cond.fieldLink RX2 18 "TariffDesk$Seen" "prices" "[I", Cond.arrayClass .long, Cond.fieldLink RX2 21 "TariffDesk$Seen" "pricesByKind" "[J", Cond.instanceMethod yX0_init, Cond.code yX0_init cX0_init 1 none, Cond.methodLink RX0 3 objectInit, Cond.methodLink RL 12 yX7_init, Cond.instanceMethod yX7_init, Cond.code yX7_init cX7_init 1 none, Cond.methodLink RX7 1 objectInit, Cond.fieldLink RX7 7 "TariffDeskModel" "kindOf" "[I", Cond.fieldLink RX7 13 "TariffDeskModel" "rateOf" "[I", Cond.fieldLink RX7 16 "TariffDeskModel" "baseOf" "[I", Cond.fieldLink RX7 19 "TariffDeskModel" "firstOf" "[I", Cond.fieldLink RX7 22 "TariffDeskModel" "lastOf" "[I", Cond.fieldLink RX7 25 "TariffDeskModel" "stands" "[I", Cond.fieldLink RX7 28 "TariffDeskModel" "seenTariff" "[I", Cond.fieldLink RX7 31 "TariffDeskModel" "seenQuantity" "[I", Cond.fieldLink RX7 34 "TariffDeskModel" "seenPrice" "[I", Cond.arrayClass .byte, Cond.fieldLink RX7 37 "TariffDeskModel" "page" "[B"]
def wsL_law_r5 : List Cond := [Cond.fieldLink RX7 41 "TariffDeskModel" "before" "[I", Cond.fieldLink RX7 44 "TariffDeskModel" "keptKind" "[I", Cond.fieldLink RX7 47 "TariffDeskModel" "keptRate" "[I", Cond.fieldLink RX7 50 "TariffDeskModel" "keptBase" "[I", Cond.fieldLink RX7 53 "TariffDeskModel" "keptFirst" "[I", Cond.fieldLink RX7 56 "TariffDeskModel" "keptLast" "[I", Cond.fieldLink RX7 59 "TariffDeskModel" "keptTariff" "[I", Cond.fieldLink RX7 62 "TariffDeskModel" "keptQuantity" "[I", Cond.fieldLink RX7 65 "TariffDeskModel" "keptPrice" "[I", Cond.methodLink RL 13 yX6_letter, Cond.instanceMethod yX6_letter, Cond.selects RX6 yX6_letter yX6_letter, Cond.code yX6_letter cX6_letter 2 (some .int), Cond.fieldLink RX6 65 "TariffDesk$Page" "length" "I", Cond.methodLink RX6 61 yX1_write, Cond.instanceMethod yX1_write, Cond.selects RX1 yX1_write yX1_write, Cond.code yX1_write cX1_write 2 (some .boolean), Cond.fieldLink RX1 15 "TariffDesk$Page" "length" "I", Cond.methodLink RL 17 yX7_letter, Cond.instanceMethod yX7_letter, Cond.selects RX7 yX7_letter yX7_letter, Cond.code yX7_letter cX7_letter 2 (some .int), Cond.fieldLink RX7 72 "TariffDeskModel" "pageLength" "I"]
def wsL_law_r6 : List Cond := [Cond.methodLink RX7 68 yX7_within, Cond.static yX7_within, Cond.code yX7_within cX7_within 3 (some .boolean), Cond.methodLink RL 18 yX6_blank, Cond.instanceMethod yX6_blank, Cond.selects RX6 yX6_blank yX6_blank, Cond.code yX6_blank cX6_blank 2 (some .int), Cond.methodLink RL 22 yX7_blank, Cond.instanceMethod yX7_blank, Cond.selects RX7 yX7_blank yX7_blank, Cond.code yX7_blank cX7_blank 2 (some .int), Cond.methodLink RL 23 yX6_fault, Cond.instanceMethod yX6_fault, Cond.selects RX6 yX6_fault yX6_fault, Cond.code yX6_fault cX6_fault 1 (some .int), Cond.methodLink RX6 69 yX1_firstWrong, Cond.instanceMethod yX1_firstWrong, Cond.selects RX1 yX1_firstWrong yX1_firstWrong, Cond.code yX1_firstWrong cX1_firstWrong 2 (some .int), Cond.methodLink RX1 19 yX1_goesOn, Cond.instanceMethod yX1_goesOn, Cond.selects RX1 yX1_goesOn yX1_goesOn, Cond.code yX1_goesOn cX1_goesOn 3 (some .boolean), Cond.methodLink RX1 27 yX1_letterAt]
def wsL_law_r7 : List Cond := [Cond.instanceMethod yX1_letterAt, Cond.selects RX1 yX1_letterAt yX1_letterAt, Cond.code yX1_letterAt cX1_letterAt 2 (some .int), Cond.methodLink RX1 33 yJ0_indexOf_0f7a4, Cond.instanceMethod yJ0_indexOf_0f7a4, Cond.selects RJ0 yJ0_indexOf_0f7a4 yJ0_indexOf_0f7a4, Cond.initialized RJ0, Cond.code yJ0_indexOf_0f7a4 cJ0_indexOf_0f7a4 2 (some .int), Cond.methodLink RJ0 633 yJ0_indexOf_7cf53, Cond.instanceMethod yJ0_indexOf_7cf53, Cond.selects RJ0 yJ0_indexOf_7cf53 yJ0_indexOf_7cf53, Cond.code yJ0_indexOf_7cf53 cJ0_indexOf_7cf53 3 (some .int), Cond.fieldLink RJ0 9 "java/lang/String" "value" "[B", Cond.methodLink RJ0 492 yJ0_isLatin1_aae02, Cond.instanceMethod yJ0_isLatin1_aae02, Cond.selects RJ0 yJ0_isLatin1_aae02 yJ0_isLatin1_aae02, Cond.code yJ0_isLatin1_aae02 cJ0_isLatin1_aae02 1 (some .boolean), Cond.fieldLink RJ0 38 "java/lang/String" "COMPACT_STRINGS" "Z", Cond.fieldLink RJ0 15 "java/lang/String" "coder" "B", Cond.methodLink RJ0 505 yJ0_length_8abf5, Cond.instanceMethod yJ0_length_8abf5, Cond.selects RJ0 yJ0_length_8abf5 yJ0_length_8abf5, Cond.code yJ0_length_8abf5 cJ0_length_8abf5 1 (some .int), Cond.methodLink RJ0 335 yJ0_coder_7d493]
def wsL_law_r8 : List Cond := [Cond.instanceMethod yJ0_coder_7d493, Cond.selects RJ0 yJ0_coder_7d493 yJ0_coder_7d493, Cond.code yJ0_coder_7d493 cJ0_coder_7d493 1 (some .byte), Cond.methodLink RJ0 637 yJ1_indexOf_4cfef, Cond.static yJ1_indexOf_4cfef, Cond.initialized RJ1, Cond.code yJ1_indexOf_4cfef cJ1_indexOf_4cfef 4 (some .int), Cond.methodLink RJ1 92 Lib.Math.max.name, Cond.methodLink RJ1 38 Lib.Math.min.name, Cond.static Lib.Math.min.name, Cond.code Lib.Math.min.name Lib.Math.min.code 2 (some .int), Cond.methodLink RJ1 88 yJ1_canEncode_9a6ad, Cond.static yJ1_canEncode_9a6ad, Cond.code yJ1_canEncode_9a6ad cJ1_canEncode_9a6ad 1 (some .boolean), Cond.methodLink RJ1 95 yJ1_indexOfChar_4cfef, Cond.static yJ1_indexOfChar_4cfef, Cond.code yJ1_indexOfChar_4cfef cJ1_indexOfChar_4cfef 6 (some .int), Cond.methodLink RJ0 640 yJ2_indexOf_4cfef, Cond.static yJ2_indexOf_4cfef, Cond.initialized RJ2, Cond.code yJ2_indexOf_4cfef cJ2_indexOf_4cfef 4 (some .int), Cond.methodLink RJ2 224 Lib.Math.max.name, Cond.methodLink RJ2 183 Lib.Math.min.name, Cond.constant RJ2 227 (65536)]
def wsL_law_r9 : List Cond := [Cond.methodLink RJ2 228 yJ2_indexOfChar_4cfef, Cond.static yJ2_indexOfChar_4cfef, Cond.code yJ2_indexOfChar_4cfef cJ2_indexOfChar_4cfef 4 (some .int), Cond.methodLink RJ2 96 yJ2_checkBoundsBeginEnd_d044e, Cond.static yJ2_checkBoundsBeginEnd_d044e, Cond.code yJ2_checkBoundsBeginEnd_d044e cJ2_checkBoundsBeginEnd_d044e 3 none, Cond.methodLink RJ2 48 yJ2_length_9d52b, Cond.static yJ2_length_9d52b, Cond.code yJ2_length_9d52b cJ2_length_9d52b 1 (some .int), Cond.methodLink RJ2 241 yJ0_checkBoundsBeginEnd_23922, Cond.static yJ0_checkBoundsBeginEnd_23922, Cond.code yJ0_checkBoundsBeginEnd_23922 cJ0_checkBoundsBeginEnd_23922 3 none, Cond.fieldLink RJ0 1053 "jdk/internal/util/Preconditions" "SIOOBE_FORMATTER" "Ljava/util/function/BiFunction;", Cond.methodLink RJ0 1062 yJ3_checkFromToIndex_8c36e, Cond.static yJ3_checkFromToIndex_8c36e, Cond.initialized RJ3, Cond.code yJ3_checkFromToIndex_8c36e cJ3_checkFromToIndex_8c36e 4 (some .int), Cond.methodLink RJ2 244 yJ2_indexOfCharUnsafe_4cfef, Cond.static yJ2_indexOfCharUnsafe_4cfef, Cond.code yJ2_indexOfCharUnsafe_4cfef cJ2_indexOfCharUnsafe_4cfef 5 (some .int), Cond.methodLink RJ2 71 yJ2_getChar_3b067, Cond.static yJ2_getChar_3b067, Cond.code yJ2_getChar_3b067 cJ2_getChar_3b067 2 (some .char), Cond.fieldLink RJ2 44 "java/lang/StringUTF16" "$assertionsDisabled" "Z"]
def wsL_law_r10 : List Cond := [Cond.fieldLink RJ2 59 "java/lang/StringUTF16" "HI_BYTE_SHIFT" "I", Cond.fieldLink RJ2 63 "java/lang/StringUTF16" "LO_BYTE_SHIFT" "I", Cond.methodLink RJ2 232 yJ2_indexOfSupplementary_4cfef, Cond.static yJ2_indexOfSupplementary_4cfef, Cond.code yJ2_indexOfSupplementary_4cfef cJ2_indexOfSupplementary_4cfef 7 (some .int), Cond.methodLink RJ2 164 yJ11_isValidCodePoint_9a6ad, Cond.static yJ11_isValidCodePoint_9a6ad, Cond.initialized RJ11, Cond.code yJ11_isValidCodePoint_9a6ad cJ11_isValidCodePoint_9a6ad 2 (some .boolean), Cond.methodLink RJ2 157 yJ11_highSurrogate_5068e, Cond.static yJ11_highSurrogate_5068e, Cond.code yJ11_highSurrogate_5068e cJ11_highSurrogate_5068e 1 (some .char), Cond.constant RJ11 110 (55232), Cond.methodLink RJ2 161 yJ11_lowSurrogate_5068e, Cond.static yJ11_lowSurrogate_5068e, Cond.code yJ11_lowSurrogate_5068e cJ11_lowSurrogate_5068e 1 (some .char), Cond.constant RJ11 76 (56320), Cond.methodLink RX1 38 yX1_isDigit, Cond.static yX1_isDigit, Cond.code yX1_isDigit cX1_isDigit 1 (some .boolean), Cond.methodLink RX1 41 yX1_digitAt, Cond.instanceMethod yX1_digitAt, Cond.selects RX1 yX1_digitAt yX1_digitAt, Cond.code yX1_digitAt cX1_digitAt 2 (some .int)]
def wsL_law_r11 : List Cond := [Cond.methodLink RX1 44 yX1_pairAt, Cond.instanceMethod yX1_pairAt, Cond.selects RX1 yX1_pairAt yX1_pairAt, Cond.code yX1_pairAt cX1_pairAt 2 (some .int), Cond.methodLink RL 26 yX7_fault, Cond.instanceMethod yX7_fault, Cond.selects RX7 yX7_fault yX7_fault, Cond.code yX7_fault cX7_fault 1 (some .int), Cond.methodLink RX7 104 yX7_read, Cond.instanceMethod yX7_read, Cond.selects RX7 yX7_read yX7_read, Cond.code yX7_read cX7_read 3 (some .int), Cond.fieldLink RX7 94 "TariffDeskModel" "isWhole" "Z", Cond.fieldLink RX7 98 "TariffDeskModel" "newTariffs" "I", Cond.methodLink RX7 101 yX7_readTariff, Cond.instanceMethod yX7_readTariff, Cond.selects RX7 yX7_readTariff yX7_readTariff, Cond.code yX7_readTariff cX7_readTariff 3 (some .int), Cond.methodLink RX7 90 yX7_isLetter, Cond.instanceMethod yX7_isLetter, Cond.selects RX7 yX7_isLetter yX7_isLetter, Cond.code yX7_isLetter cX7_isLetter 4 (some .boolean), Cond.methodLink RX7 76 yX7_at, Cond.instanceMethod yX7_at]
def wsL_law_r12 : List Cond := [Cond.selects RX7 yX7_at yX7_at, Cond.code yX7_at cX7_at 2 (some .int), Cond.methodLink RX7 80 yX7_kindBy, Cond.static yX7_kindBy, Cond.code yX7_kindBy cX7_kindBy 1 (some .int), Cond.methodLink RX7 83 yX7_isSign, Cond.instanceMethod yX7_isSign, Cond.selects RX7 yX7_isSign yX7_isSign, Cond.code yX7_isSign cX7_isSign 2 (some .boolean), Cond.methodLink RX7 87 yX7_figure, Cond.instanceMethod yX7_figure, Cond.selects RX7 yX7_figure yX7_figure, Cond.code yX7_figure cX7_figure 2 (some .int), Cond.methodLink RL 27 yX6_desk, Cond.instanceMethod yX6_desk, Cond.selects RX6 yX6_desk yX6_desk, Cond.code yX6_desk cX6_desk 2 (some .int), Cond.fieldLink RX6 80 "TariffDesk$Seen" "size" "I", Cond.fieldLink RX6 83 "TariffDesk" "hasImage" "Z", Cond.fieldLink RX6 87 "TariffDesk" "hasDesk" "Z", Cond.fieldLink RX6 90 "TariffDesk" "desksRead" "I", Cond.fieldLink RX6 101 "TariffDesk$Tariffs" "size" "I", Cond.methodLink RX6 73 yX1_isWholeDesk, Cond.instanceMethod yX1_isWholeDesk]
def wsL_law_r13 : List Cond := [Cond.selects RX1 yX1_isWholeDesk yX1_isWholeDesk, Cond.code yX1_isWholeDesk cX1_isWholeDesk 1 (some .boolean), Cond.methodLink RX1 23 yX1_firstWrong, Cond.methodLink RX6 77 yX5_empty, Cond.instanceMethod yX5_empty, Cond.selects RX5 yX5_empty yX5_empty, Cond.code yX5_empty cX5_empty 1 none, Cond.fieldLink RX5 37 "TariffDesk$Tariffs" "size" "I", Cond.fieldLink RX5 43 "TariffDesk$Tree" "changes" "I", Cond.methodLink RX6 93 yX1_readTariff, Cond.instanceMethod yX1_readTariff, Cond.selects RX1 yX1_readTariff yX1_readTariff, Cond.code yX1_readTariff cX1_readTariff 6 none, Cond.methodLink RX1 47 yX1_signAt, Cond.instanceMethod yX1_signAt, Cond.selects RX1 yX1_signAt yX1_signAt, Cond.code yX1_signAt cX1_signAt 2 (some .int), Cond.methodLink RX1 50 yX3_write, Cond.instanceMethod yX3_write, Cond.selects RX3 yX3_write yX3_write, Cond.code yX3_write cX3_write 6 none, Cond.fieldLink RX3 9 "TariffDesk$Tariff" "kind" "I", Cond.fieldLink RX3 15 "TariffDesk$Tariff" "rate" "I", Cond.fieldLink RX3 18 "TariffDesk$Tariff" "base" "I"]
def wsL_law_r14 : List Cond := [Cond.fieldLink RX3 21 "TariffDesk$Tariff" "first" "I", Cond.fieldLink RX3 24 "TariffDesk$Tariff" "last" "I", Cond.methodLink RX6 97 yX5_take, Cond.instanceMethod yX5_take, Cond.selects RX5 yX5_take yX5_take, Cond.code yX5_take cX5_take 7 (some .int), Cond.fieldLink RX5 50 "TariffDesk$Tariff" "first" "I", Cond.fieldLink RX5 55 "TariffDesk$Tariff" "last" "I", Cond.methodLink RX5 46 yX4_add, Cond.instanceMethod yX4_add, Cond.selects RX4 yX4_add yX4_add, Cond.code yX4_add cX4_add 2 none, Cond.fieldLink RX4 22 "TariffDesk$Tariffs" "size" "I", Cond.methodLink RX4 26 yX4_at, Cond.instanceMethod yX4_at, Cond.selects RX4 yX4_at yX4_at, Cond.code yX4_at cX4_at 2 (some (.object "TariffDesk$Tariff")), Cond.methodLink RX4 30 yX3_copyFrom, Cond.instanceMethod yX3_copyFrom, Cond.selects RX3 yX3_copyFrom yX3_copyFrom, Cond.code yX3_copyFrom cX3_copyFrom 2 none, Cond.methodLink RX3 27 yX3_write, Cond.methodLink RX5 58 yX5_widestNode, Cond.static yX5_widestNode]
def wsL_law_r15 : List Cond := [Cond.code yX5_widestNode cX5_widestNode 3 (some .int), Cond.methodLink RX5 66 yX5_lastOf, Cond.static yX5_lastOf, Cond.code yX5_lastOf cX5_lastOf 1 (some .int), Cond.methodLink RX5 88 yX5_firstOf, Cond.static yX5_firstOf, Cond.code yX5_firstOf cX5_firstOf 1 (some .int), Cond.methodLink RX5 85 yX5_sizeOf, Cond.static yX5_sizeOf, Cond.code yX5_sizeOf cX5_sizeOf 3 (some .int), Cond.methodLink RX5 62 yX5_push, Cond.instanceMethod yX5_push, Cond.selects RX5 yX5_push yX5_push, Cond.code yX5_push cX5_push 7 none, Cond.methodLink RX5 91 yX5_put, Cond.instanceMethod yX5_put, Cond.selects RX5 yX5_put yX5_put, Cond.code yX5_put cX5_put 3 none, Cond.methodLink RX5 105 yX5_isLogPlace, Cond.instanceMethod yX5_isLogPlace, Cond.selects RX5 yX5_isLogPlace yX5_isLogPlace, Cond.code yX5_isLogPlace cX5_isLogPlace 2 (some .boolean), Cond.methodLink RX5 94 yX5_middleOf, Cond.static yX5_middleOf]
def wsL_law_r16 : List Cond := [Cond.code yX5_middleOf cX5_middleOf 1 (some .int), Cond.methodLink RX5 97 yX4_isBetter, Cond.instanceMethod yX4_isBetter, Cond.selects RX4 yX4_isBetter yX4_isBetter, Cond.code yX4_isBetter cX4_isBetter 8 (some .boolean), Cond.methodLink RX4 37 yX3_priceFor, Cond.instanceMethod yX3_priceFor, Cond.selects RX3 yX3_priceFor yX3_priceFor, Cond.code yX3_priceFor cX3_priceFor 2 (some .long), Cond.methodLink RX3 31 yX3_byRate, Cond.instanceMethod yX3_byRate, Cond.selects RX3 yX3_byRate yX3_byRate, Cond.code yX3_byRate cX3_byRate 3 (some .long), Cond.constantLong RX3 45 (2), Cond.methodLink RX3 35 yX3_byBase, Cond.instanceMethod yX3_byBase, Cond.selects RX3 yX3_byBase yX3_byBase, Cond.code yX3_byBase cX3_byBase 2 (some .int), Cond.methodLink RX3 39 yJ9_floorDiv_7cf53, Cond.static yJ9_floorDiv_7cf53, Cond.initialized RJ9, Cond.code yJ9_floorDiv_7cf53 cJ9_floorDiv_7cf53 3 (some .int), Cond.methodLink RX5 101 yX5_halfFor, Cond.instanceMethod yX5_halfFor]
def wsL_law_r17 : List Cond := [Cond.selects RX5 yX5_halfFor yX5_halfFor, Cond.code yX5_halfFor cX5_halfFor 4 (some .int), Cond.methodLink RX5 70 yX5_lowerBy, Cond.instanceMethod yX5_lowerBy, Cond.selects RX5 yX5_lowerBy yX5_lowerBy, Cond.code yX5_lowerBy cX5_lowerBy 5 none, Cond.methodLink RX5 108 yX3_spans, Cond.instanceMethod yX3_spans, Cond.selects RX3 yX3_spans yX3_spans, Cond.code yX3_spans cX3_spans 2 (some .boolean), Cond.methodLink RL 30 yX7_desk, Cond.instanceMethod yX7_desk, Cond.selects RX7 yX7_desk yX7_desk, Cond.code yX7_desk cX7_desk 3 (some .int), Cond.fieldLink RX7 108 "TariffDeskModel" "tariffs" "I", Cond.fieldLink RX7 119 "TariffDeskModel" "desks" "I", Cond.fieldLink RX7 122 "TariffDeskModel" "seen" "I", Cond.methodLink RX7 111 yX7_signed, Cond.instanceMethod yX7_signed, Cond.selects RX7 yX7_signed yX7_signed, Cond.code yX7_signed cX7_signed 5 (some .int), Cond.methodLink RX7 115 yX7_take, Cond.instanceMethod yX7_take, Cond.selects RX7 yX7_take yX7_take]
def wsL_law_r18 : List Cond := [Cond.code yX7_take cX7_take 6 none, Cond.methodLink RX7 172 yX7_offerNow, Cond.instanceMethod yX7_offerNow, Cond.selects RX7 yX7_offerNow yX7_offerNow, Cond.code yX7_offerNow cX7_offerNow 4 none, Cond.methodLink RX7 165 yX7_isAll, Cond.instanceMethod yX7_isAll, Cond.selects RX7 yX7_isAll yX7_isAll, Cond.code yX7_isAll cX7_isAll 3 (some .boolean), Cond.methodLink RX7 153 yX7_firstAt, Cond.static yX7_firstAt, Cond.code yX7_firstAt cX7_firstAt 2 (some .int), Cond.methodLink RX7 150 yX7_lengthOf, Cond.static yX7_lengthOf, Cond.code yX7_lengthOf cX7_lengthOf 3 (some .int), Cond.methodLink RX7 162 yX7_lastAt, Cond.static yX7_lastAt, Cond.code yX7_lastAt cX7_lastAt 1 (some .int), Cond.methodLink RX7 168 yX7_push, Cond.instanceMethod yX7_push, Cond.selects RX7 yX7_push yX7_push, Cond.code yX7_push cX7_push 9 none, Cond.methodLink RX7 156 yX7_middleAt, Cond.static yX7_middleAt]
def wsL_law_r19 : List Cond := [Cond.code yX7_middleAt cX7_middleAt 1 (some .int), Cond.methodLink RX7 159 yX7_isBetter, Cond.instanceMethod yX7_isBetter, Cond.selects RX7 yX7_isBetter yX7_isBetter, Cond.code yX7_isBetter cX7_isBetter 8 (some .boolean), Cond.methodLink RX7 147 yX7_priceOf, Cond.instanceMethod yX7_priceOf, Cond.selects RX7 yX7_priceOf yX7_priceOf, Cond.code yX7_priceOf cX7_priceOf 3 (some .long), Cond.methodLink RX7 135 yX7_priceBy, Cond.static yX7_priceBy, Cond.code yX7_priceBy cX7_priceBy 5 (some .long), Cond.methodLink RX7 127 yX7_often, Cond.static yX7_often, Cond.code yX7_often cX7_often 3 (some .long), Cond.constantLong RX7 125 (2), Cond.methodLink RX7 131 yX7_asBase, Cond.static yX7_asBase, Cond.code yX7_asBase cX7_asBase 2 (some .long), Cond.methodLink RL 31 yX6_tariff, Cond.instanceMethod yX6_tariff, Cond.selects RX6 yX6_tariff yX6_tariff, Cond.code yX6_tariff cX6_tariff 4 (some .int), Cond.fieldLink RX6 109 "TariffDesk$Tariff" "kind" "I"]
def wsL_law_r20 : List Cond := [Cond.fieldLink RX6 112 "TariffDesk$Tariff" "first" "I", Cond.fieldLink RX6 115 "TariffDesk$Tariff" "last" "I", Cond.methodLink RX6 102 yX4_hasNumber, Cond.instanceMethod yX4_hasNumber, Cond.selects RX4 yX4_hasNumber yX4_hasNumber, Cond.code yX4_hasNumber cX4_hasNumber 2 (some .boolean), Cond.methodLink RX6 105 yX4_at, Cond.methodLink RX6 118 yX5_nodesOf, Cond.instanceMethod yX5_nodesOf, Cond.selects RX5 yX5_nodesOf yX5_nodesOf, Cond.code yX5_nodesOf cX5_nodesOf 5 (some .int), Cond.methodLink RX6 122 yX6_quantitiesOf, Cond.instanceMethod yX6_quantitiesOf, Cond.selects RX6 yX6_quantitiesOf yX6_quantitiesOf, Cond.code yX6_quantitiesOf cX6_quantitiesOf 6 (some .int), Cond.methodLink RX6 174 yX5_lowestFor, Cond.instanceMethod yX5_lowestFor, Cond.selects RX5 yX5_lowestFor yX5_lowestFor, Cond.code yX5_lowestFor cX5_lowestFor 2 (some .int), Cond.static yX6_isQuantity, Cond.code yX6_isQuantity cX6_isQuantity 1 (some .boolean), Cond.methodLink RX6 125 yX2_sortsOf, Cond.instanceMethod yX2_sortsOf, Cond.selects RX2 yX2_sortsOf yX2_sortsOf]
def wsL_law_r21 : List Cond := [Cond.code yX2_sortsOf cX2_sortsOf 5 (some .int), Cond.methodLink RX2 33 yX2_canBe, Cond.instanceMethod yX2_canBe, Cond.selects RX2 yX2_canBe yX2_canBe, Cond.code yX2_canBe cX2_canBe 5 (some .boolean), Cond.fieldLink RX2 25 "TariffDesk$Seen" "size" "I", Cond.methodLink RX2 53 yX3_priceAs, Cond.instanceMethod yX3_priceAs, Cond.selects RX3 yX3_priceAs yX3_priceAs, Cond.code yX3_priceAs cX3_priceAs 3 (some .long), Cond.methodLink RX6 129 yX2_nextToAsk, Cond.instanceMethod yX2_nextToAsk, Cond.selects RX2 yX2_nextToAsk yX2_nextToAsk, Cond.code yX2_nextToAsk cX2_nextToAsk 8 (some .int), Cond.fieldLink RX2 41 "TariffDesk$Tariff" "first" "I", Cond.fieldLink RX2 46 "TariffDesk$Tariff" "last" "I", Cond.methodLink RX2 37 yX2_sortsOf, Cond.methodLink RX2 49 yX2_leftAtWorst, Cond.instanceMethod yX2_leftAtWorst, Cond.selects RX2 yX2_leftAtWorst yX2_leftAtWorst, Cond.code yX2_leftAtWorst cX2_leftAtWorst 8 (some .int), Cond.methodLink RX2 57 Lib.Math.max.name, Cond.methodLink RL 35 yX7_tariff, Cond.instanceMethod yX7_tariff]
def wsL_law_r22 : List Cond := [Cond.selects RX7 yX7_tariff yX7_tariff, Cond.code yX7_tariff cX7_tariff 3 (some .int), Cond.methodLink RX7 191 yX7_isTariff, Cond.instanceMethod yX7_isTariff, Cond.selects RX7 yX7_isTariff yX7_isTariff, Cond.code yX7_isTariff cX7_isTariff 2 (some .boolean), Cond.methodLink RX7 194 yX7_tariffNow, Cond.instanceMethod yX7_tariffNow, Cond.selects RX7 yX7_tariffNow yX7_tariffNow, Cond.code yX7_tariffNow cX7_tariffNow 3 (some .int), Cond.methodLink RX7 179 yX7_nodesOf, Cond.instanceMethod yX7_nodesOf, Cond.selects RX7 yX7_nodesOf yX7_nodesOf, Cond.code yX7_nodesOf cX7_nodesOf 4 (some .int), Cond.methodLink RX7 182 yX7_quantitiesOf, Cond.instanceMethod yX7_quantitiesOf, Cond.selects RX7 yX7_quantitiesOf yX7_quantitiesOf, Cond.code yX7_quantitiesOf cX7_quantitiesOf 4 (some .int), Cond.methodLink RX7 176 yX7_cheapestFor, Cond.instanceMethod yX7_cheapestFor, Cond.selects RX7 yX7_cheapestFor yX7_cheapestFor, Cond.code yX7_cheapestFor cX7_cheapestFor 5 (some .int), Cond.methodLink RX7 185 yX7_sortsOf, Cond.instanceMethod yX7_sortsOf]
def wsL_law_r23 : List Cond := [Cond.selects RX7 yX7_sortsOf yX7_sortsOf, Cond.code yX7_sortsOf cX7_sortsOf 6 (some .int), Cond.methodLink RX7 250 yX7_asKind, Cond.instanceMethod yX7_asKind, Cond.selects RX7 yX7_asKind yX7_asKind, Cond.code yX7_asKind cX7_asKind 4 (some .long), Cond.methodLink RX7 188 yX7_askOf, Cond.instanceMethod yX7_askOf, Cond.selects RX7 yX7_askOf yX7_askOf, Cond.code yX7_askOf cX7_askOf 7 (some .int), Cond.constant RX7 256 (268435456), Cond.methodLink RX7 257 yX7_worstBy, Cond.instanceMethod yX7_worstBy, Cond.selects RX7 yX7_worstBy yX7_worstBy, Cond.code yX7_worstBy cX7_worstBy 8 (some .int), Cond.methodLink RX7 253 yX7_isIn, Cond.static yX7_isIn, Cond.code yX7_isIn cX7_isIn 2 (some .boolean), Cond.methodLink RL 36 yX6_as, Cond.instanceMethod yX6_as, Cond.selects RX6 yX6_as yX6_as, Cond.code yX6_as cX6_as 3 (some .int), Cond.methodLink RX6 132 yX6_isKind, Cond.static yX6_isKind]
def wsL_law_r24 : List Cond := [Cond.code yX6_isKind cX6_isKind 1 (some .boolean), Cond.methodLink RX6 135 yX3_isOf, Cond.instanceMethod yX3_isOf, Cond.selects RX3 yX3_isOf yX3_isOf, Cond.code yX3_isOf cX3_isOf 2 (some .boolean), Cond.methodLink RL 39 yX7_as, Cond.instanceMethod yX7_as, Cond.selects RX7 yX7_as yX7_as, Cond.code yX7_as cX7_as 4 (some .int), Cond.methodLink RL 40 yX6_price, Cond.instanceMethod yX6_price, Cond.selects RX6 yX6_price yX6_price, Cond.code yX6_price cX6_price 4 (some .long), Cond.constantLong RX6 141 (-101), Cond.constantLong RX6 146 (3000000000), Cond.constantLong RX6 152 (-102), Cond.methodLink RX6 138 yX6_isQuantity, Cond.methodLink RX6 143 yX3_spans, Cond.methodLink RX6 148 yX3_priceFor, Cond.methodLink RL 44 yX7_price, Cond.instanceMethod yX7_price, Cond.selects RX7 yX7_price yX7_price, Cond.code yX7_price cX7_price 3 (some .long), Cond.constantLong RX7 200 (-101)]
def wsL_law_r25 : List Cond := [Cond.constantLong RX7 205 (3000000000), Cond.constantLong RX7 207 (-102), Cond.methodLink RX7 197 yX7_isQuantity, Cond.static yX7_isQuantity, Cond.code yX7_isQuantity cX7_isQuantity 1 (some .boolean), Cond.methodLink RX7 202 yX7_has, Cond.instanceMethod yX7_has, Cond.selects RX7 yX7_has yX7_has, Cond.code yX7_has cX7_has 3 (some .boolean), Cond.methodLink RL 45 yX6_node, Cond.instanceMethod yX6_node, Cond.selects RX6 yX6_node yX6_node, Cond.code yX6_node cX6_node 3 (some .int), Cond.methodLink RX6 154 yX5_standingAt, Cond.instanceMethod yX5_standingAt, Cond.selects RX5 yX5_standingAt yX5_standingAt, Cond.code yX5_standingAt cX5_standingAt 2 (some .int), Cond.methodLink RX6 158 yX5_firstOf, Cond.methodLink RX6 161 yX5_lastOf, Cond.methodLink RX6 164 yX5_middleOf, Cond.methodLink RL 48 yX7_node, Cond.instanceMethod yX7_node, Cond.selects RX7 yX7_node yX7_node, Cond.code yX7_node cX7_node 3 (some .int)]
def wsL_law_r26 : List Cond := [Cond.methodLink RX7 209 yX7_nodeNow, Cond.instanceMethod yX7_nodeNow, Cond.selects RX7 yX7_nodeNow yX7_nodeNow, Cond.code yX7_nodeNow cX7_nodeNow 3 (some .int), Cond.methodLink RL 49 yX6_offer, Cond.instanceMethod yX6_offer, Cond.selects RX6 yX6_offer yX6_offer, Cond.code yX6_offer cX6_offer 6 (some .int), Cond.methodLink RX6 167 yX6_refusalOf, Cond.instanceMethod yX6_refusalOf, Cond.selects RX6 yX6_refusalOf yX6_refusalOf, Cond.code yX6_refusalOf cX6_refusalOf 7 (some .int), Cond.methodLink RX6 248 yX3_write, Cond.methodLink RX6 251 yX3_isTooGreat, Cond.instanceMethod yX3_isTooGreat, Cond.selects RX3 yX3_isTooGreat yX3_isTooGreat, Cond.code yX3_isTooGreat cX3_isTooGreat 2 (some .boolean), Cond.methodLink RX3 47 yX3_fits, Cond.static yX3_fits, Cond.code yX3_fits cX3_fits 2 (some .boolean), Cond.constantLong RX3 59 (-2147483648), Cond.constantLong RX3 61 (2147483647), Cond.methodLink RX3 51 yX3_fitsFor, Cond.instanceMethod yX3_fitsFor]
def wsL_law_r27 : List Cond := [Cond.selects RX3 yX3_fitsFor yX3_fitsFor, Cond.code yX3_fitsFor cX3_fitsFor 2 (some .boolean), Cond.methodLink RX3 55 yX3_priceFor, Cond.methodLink RL 53 yX7_offer, Cond.instanceMethod yX7_offer, Cond.selects RX7 yX7_offer yX7_offer, Cond.code yX7_offer cX7_offer 8 (some .int), Cond.methodLink RX7 219 yX7_refused, Cond.instanceMethod yX7_refused, Cond.selects RX7 yX7_refused yX7_refused, Cond.code yX7_refused cX7_refused 5 (some .int), Cond.methodLink RX7 212 yX7_isSpan, Cond.static yX7_isSpan, Cond.code yX7_isSpan cX7_isSpan 1 (some .boolean), Cond.methodLink RX7 215 yX7_isTooGreat, Cond.static yX7_isTooGreat, Cond.code yX7_isTooGreat cX7_isTooGreat 6 (some .boolean), Cond.methodLink RX7 143 yX7_isGreat, Cond.static yX7_isGreat, Cond.code yX7_isGreat cX7_isGreat 2 (some .boolean), Cond.constantLong RX7 139 (-2147483648), Cond.constantLong RX7 141 (2147483647), Cond.methodLink RX7 223 yX7_layBefore, Cond.instanceMethod yX7_layBefore]
def wsL_law_r28 : List Cond := [Cond.selects RX7 yX7_layBefore yX7_layBefore, Cond.code yX7_layBefore cX7_layBefore 2 none, Cond.methodLink RL 54 yX6_undo, Cond.instanceMethod yX6_undo, Cond.selects RX6 yX6_undo yX6_undo, Cond.code yX6_undo cX6_undo 1 (some .int), Cond.methodLink RX6 171 yX5_takeBack, Cond.instanceMethod yX5_takeBack, Cond.selects RX5 yX5_takeBack yX5_takeBack, Cond.code yX5_takeBack cX5_takeBack 3 none, Cond.methodLink RX5 74 yX5_putBack, Cond.instanceMethod yX5_putBack, Cond.selects RX5 yX5_putBack yX5_putBack, Cond.code yX5_putBack cX5_putBack 2 none, Cond.methodLink RX5 78 yX5_bestAbove, Cond.instanceMethod yX5_bestAbove, Cond.selects RX5 yX5_bestAbove yX5_bestAbove, Cond.code yX5_bestAbove cX5_bestAbove 5 (some .int), Cond.methodLink RX5 111 yX5_standingAt, Cond.methodLink RL 57 yX7_undo, Cond.instanceMethod yX7_undo, Cond.selects RX7 yX7_undo yX7_undo, Cond.code yX7_undo cX7_undo 1 (some .int), Cond.methodLink RX7 226 yX7_again]
def wsL_law_r29 : List Cond := [Cond.instanceMethod yX7_again, Cond.selects RX7 yX7_again yX7_again, Cond.code yX7_again cX7_again 3 none, Cond.methodLink RL 58 yX6_cheapest, Cond.instanceMethod yX6_cheapest, Cond.selects RX6 yX6_cheapest yX6_cheapest, Cond.code yX6_cheapest cX6_cheapest 2 (some .int), Cond.methodLink RL 61 yX7_cheapest, Cond.instanceMethod yX7_cheapest, Cond.selects RX7 yX7_cheapest yX7_cheapest, Cond.code yX7_cheapest cX7_cheapest 2 (some .int), Cond.methodLink RL 62 yX6_cost, Cond.instanceMethod yX6_cost, Cond.selects RX6 yX6_cost yX6_cost, Cond.code yX6_cost cX6_cost 3 (some .long), Cond.constantLong RX6 177 (-1), Cond.methodLink RL 66 yX7_cost, Cond.instanceMethod yX7_cost, Cond.selects RX7 yX7_cost yX7_cost, Cond.code yX7_cost cX7_cost 2 (some .long), Cond.methodLink RX7 231 yX7_costFor, Cond.instanceMethod yX7_costFor, Cond.selects RX7 yX7_costFor yX7_costFor, Cond.code yX7_costFor cX7_costFor 3 (some .long)]
def wsL_law_r30 : List Cond := [Cond.constantLong RX7 229 (-1), Cond.methodLink RL 67 yX6_piece, Cond.instanceMethod yX6_piece, Cond.selects RX6 yX6_piece yX6_piece, Cond.code yX6_piece cX6_piece 4 (some .int), Cond.methodLink RX6 179 yX6_firstOfPiece, Cond.instanceMethod yX6_firstOfPiece, Cond.selects RX6 yX6_firstOfPiece yX6_firstOfPiece, Cond.code yX6_firstOfPiece cX6_firstOfPiece 4 (some .int), Cond.methodLink RX6 254 yX6_beginsPiece, Cond.instanceMethod yX6_beginsPiece, Cond.selects RX6 yX6_beginsPiece yX6_beginsPiece, Cond.code yX6_beginsPiece cX6_beginsPiece 3 (some .boolean), Cond.methodLink RX6 182 yX6_lastOfPiece, Cond.instanceMethod yX6_lastOfPiece, Cond.selects RX6 yX6_lastOfPiece yX6_lastOfPiece, Cond.code yX6_lastOfPiece cX6_lastOfPiece 4 (some .int), Cond.methodLink RL 70 yX7_piece, Cond.instanceMethod yX7_piece, Cond.selects RX7 yX7_piece yX7_piece, Cond.code yX7_piece cX7_piece 3 (some .int), Cond.methodLink RX7 238 yX7_pieces, Cond.instanceMethod yX7_pieces, Cond.selects RX7 yX7_pieces yX7_pieces]
def wsL_law_r31 : List Cond := [Cond.code yX7_pieces cX7_pieces 3 (some .int), Cond.methodLink RX7 235 yX7_isFirstOfPiece, Cond.instanceMethod yX7_isFirstOfPiece, Cond.selects RX7 yX7_isFirstOfPiece yX7_isFirstOfPiece, Cond.code yX7_isFirstOfPiece cX7_isFirstOfPiece 3 (some .boolean), Cond.methodLink RX7 241 yX7_pieceNow, Cond.instanceMethod yX7_pieceNow, Cond.selects RX7 yX7_pieceNow yX7_pieceNow, Cond.code yX7_pieceNow cX7_pieceNow 7 (some .int), Cond.methodLink RL 71 yX6_bargain, Cond.instanceMethod yX6_bargain, Cond.selects RX6 yX6_bargain yX6_bargain, Cond.code yX6_bargain cX6_bargain 10 (some .int), Cond.methodLink RL 74 yX7_bargain, Cond.instanceMethod yX7_bargain, Cond.selects RX7 yX7_bargain yX7_bargain, Cond.code yX7_bargain cX7_bargain 3 (some .int), Cond.methodLink RX7 244 yX7_bargainIn, Cond.instanceMethod yX7_bargainIn, Cond.selects RX7 yX7_bargainIn yX7_bargainIn, Cond.code yX7_bargainIn cX7_bargainIn 6 (some .int), Cond.methodLink RL 75 yX6_crossing, Cond.instanceMethod yX6_crossing, Cond.selects RX6 yX6_crossing yX6_crossing]
def wsL_law_r32 : List Cond := [Cond.code yX6_crossing cX6_crossing 6 (some .int), Cond.methodLink RX6 185 Lib.Math.max.name, Cond.methodLink RX6 190 Lib.Math.min.name, Cond.methodLink RX6 193 yX4_isBetter, Cond.methodLink RL 78 yX7_crossing, Cond.instanceMethod yX7_crossing, Cond.selects RX7 yX7_crossing yX7_crossing, Cond.code yX7_crossing cX7_crossing 3 (some .int), Cond.methodLink RX7 247 yX7_crossingOf, Cond.instanceMethod yX7_crossingOf, Cond.selects RX7 yX7_crossingOf yX7_crossingOf, Cond.code yX7_crossingOf cX7_crossingOf 4 (some .int), Cond.methodLink RL 79 yX6_would, Cond.instanceMethod yX6_would, Cond.selects RX6 yX6_would yX6_would, Cond.code yX6_would cX6_would 9 (some .int), Cond.methodLink RL 82 yX7_would, Cond.instanceMethod yX7_would, Cond.selects RX7 yX7_would yX7_would, Cond.code yX7_would cX7_would 7 (some .int), Cond.methodLink RL 83 yX6_see, Cond.instanceMethod yX6_see, Cond.selects RX6 yX6_see yX6_see, Cond.code yX6_see cX6_see 4 (some .int)]
def wsL_law_r33 : List Cond := [Cond.methodLink RX6 197 yX2_write, Cond.instanceMethod yX2_write, Cond.selects RX2 yX2_write yX2_write, Cond.code yX2_write cX2_write 4 (some .boolean), Cond.methodLink RL 87 yX7_see, Cond.instanceMethod yX7_see, Cond.selects RX7 yX7_see yX7_see, Cond.code yX7_see cX7_see 4 (some .int), Cond.methodLink RL 88 yX6_forget, Cond.instanceMethod yX6_forget, Cond.selects RX6 yX6_forget yX6_forget, Cond.code yX6_forget cX6_forget 2 (some .int), Cond.methodLink RL 91 yX7_forget, Cond.instanceMethod yX7_forget, Cond.selects RX7 yX7_forget yX7_forget, Cond.code yX7_forget cX7_forget 2 (some .int), Cond.methodLink RL 92 yX6_drawn, Cond.instanceMethod yX6_drawn, Cond.selects RX6 yX6_drawn yX6_drawn, Cond.code yX6_drawn cX6_drawn 7 (some .int), Cond.fieldLink RX6 199 "TariffDesk$Draws" "seed" "I", Cond.methodLink RX6 202 yX0_drawTariff, Cond.instanceMethod yX0_drawTariff, Cond.selects RX0 yX0_drawTariff yX0_drawTariff]
def wsL_law_r34 : List Cond := [Cond.code yX0_drawTariff cX0_drawTariff 6 none, Cond.methodLink RX0 9 yX0_below, Cond.instanceMethod yX0_below, Cond.selects RX0 yX0_below yX0_below, Cond.code yX0_below cX0_below 2 (some .int), Cond.constant RX0 21 (1103515245), Cond.fieldLink RX0 22 "TariffDesk$Draws" "seed" "I", Cond.constant RX0 26 (2147483647), Cond.constant RX0 27 (65536), Cond.methodLink RX0 15 yX3_write, Cond.methodLink RL 95 yX7_drawn, Cond.instanceMethod yX7_drawn, Cond.selects RX7 yX7_drawn yX7_drawn, Cond.code yX7_drawn cX7_drawn 4 (some .int), Cond.methodLink RX7 277 yX7_drawnNow, Cond.instanceMethod yX7_drawnNow, Cond.selects RX7 yX7_drawnNow yX7_drawnNow, Cond.code yX7_drawnNow cX7_drawnNow 8 (some .int), Cond.fieldLink RX7 263 "TariffDeskModel" "seedNow" "J", Cond.methodLink RX7 274 yX7_drawOne, Cond.instanceMethod yX7_drawOne, Cond.selects RX7 yX7_drawOne yX7_drawOne, Cond.code yX7_drawOne cX7_drawOne 5 none, Cond.methodLink RX7 271 yX7_draw]
def wsL_law_r35 : List Cond := [Cond.instanceMethod yX7_draw, Cond.selects RX7 yX7_draw yX7_draw, Cond.code yX7_draw cX7_draw 2 (some .int), Cond.constantLong RX7 261 (1103515245), Cond.constantLong RX7 267 (12345), Cond.constantLong RX7 269 (65536), Cond.methodLink RL 96 yX6_image, Cond.instanceMethod yX6_image, Cond.selects RX6 yX6_image yX6_image, Cond.code yX6_image cX6_image 1 (some .int), Cond.methodLink RX6 206 yX4_copyFrom, Cond.instanceMethod yX4_copyFrom, Cond.selects RX4 yX4_copyFrom yX4_copyFrom, Cond.code yX4_copyFrom cX4_copyFrom 3 none, Cond.methodLink RX4 34 yX4_add, Cond.methodLink RX6 209 yX2_copyFrom, Cond.instanceMethod yX2_copyFrom, Cond.selects RX2 yX2_copyFrom yX2_copyFrom, Cond.code yX2_copyFrom cX2_copyFrom 3 none, Cond.methodLink RX2 29 yX2_write, Cond.methodLink RL 99 yX7_image, Cond.instanceMethod yX7_image, Cond.selects RX7 yX7_image yX7_image, Cond.code yX7_image cX7_image 2 (some .int)]
def wsL_law_r36 : List Cond := [Cond.fieldLink RX7 280 "TariffDeskModel" "isKept" "Z", Cond.fieldLink RX7 283 "TariffDeskModel" "keptDesk" "I", Cond.fieldLink RX7 286 "TariffDeskModel" "keptTariffs" "I", Cond.fieldLink RX7 289 "TariffDeskModel" "keptSeen" "I", Cond.methodLink RL 100 yX6_restore, Cond.instanceMethod yX6_restore, Cond.selects RX6 yX6_restore yX6_restore, Cond.code yX6_restore cX6_restore 2 (some .int), Cond.methodLink RL 103 yX7_restore, Cond.instanceMethod yX7_restore, Cond.selects RX7 yX7_restore yX7_restore, Cond.code yX7_restore cX7_restore 2 (some .int), Cond.methodLink RL 104 yX6_count, Cond.instanceMethod yX6_count, Cond.selects RX6 yX6_count yX6_count, Cond.code yX6_count cX6_count 2 (some .int), Cond.methodLink RX6 212 yX6_pieces, Cond.instanceMethod yX6_pieces, Cond.selects RX6 yX6_pieces yX6_pieces, Cond.code yX6_pieces cX6_pieces 3 (some .int), Cond.methodLink RX6 215 yX6_tariffsNeverLowest, Cond.instanceMethod yX6_tariffsNeverLowest, Cond.selects RX6 yX6_tariffsNeverLowest yX6_tariffsNeverLowest, Cond.code yX6_tariffsNeverLowest cX6_tariffsNeverLowest 3 (some .int)]
def wsL_law_r37 : List Cond := [Cond.methodLink RL 107 yX7_count, Cond.instanceMethod yX7_count, Cond.selects RX7 yX7_count yX7_count, Cond.code yX7_count cX7_count 2 (some .int), Cond.methodLink RX7 298 yX7_howMany, Cond.instanceMethod yX7_howMany, Cond.selects RX7 yX7_howMany yX7_howMany, Cond.code yX7_howMany cX7_howMany 2 (some .int), Cond.methodLink RX7 292 yX7_gaps, Cond.instanceMethod yX7_gaps, Cond.selects RX7 yX7_gaps yX7_gaps, Cond.code yX7_gaps cX7_gaps 3 (some .int), Cond.methodLink RX7 295 yX7_idle, Cond.instanceMethod yX7_idle, Cond.selects RX7 yX7_idle yX7_idle, Cond.code yX7_idle cX7_idle 3 (some .int), Cond.methodLink RL 108 yX6_digest, Cond.instanceMethod yX6_digest, Cond.selects RX6 yX6_digest yX6_digest, Cond.code yX6_digest cX6_digest 5 (some .long), Cond.constantLong RX6 218 (1361), Cond.methodLink RX6 220 yX6_tariff, Cond.methodLink RX6 223 yX6_mixed, Cond.static yX6_mixed]
def wsL_law_r38 : List Cond := [Cond.code yX6_mixed cX6_mixed 4 (some .long), Cond.constantLong RX6 246 (31), Cond.methodLink RX6 227 yX6_mixedWithTree, Cond.instanceMethod yX6_mixedWithTree, Cond.selects RX6 yX6_mixedWithTree yX6_mixedWithTree, Cond.code yX6_mixedWithTree cX6_mixedWithTree 6 (some .long), Cond.methodLink RX6 237 yX6_cheapest, Cond.methodLink RX6 240 yX6_cost, Cond.methodLink RX6 243 yX6_bargain, Cond.methodLink RX6 231 yX1_letterAt, Cond.methodLink RX6 234 yX6_count, Cond.methodLink RL 112 yX7_digest, Cond.instanceMethod yX7_digest, Cond.selects RX7 yX7_digest yX7_digest, Cond.code yX7_digest cX7_digest 3 (some .long), Cond.constantLong RX7 310 (1361), Cond.fieldLink RX7 303 "TariffDeskModel" "h" "J", Cond.methodLink RX7 306 yX7_mix, Cond.instanceMethod yX7_mix, Cond.selects RX7 yX7_mix yX7_mix, Cond.code yX7_mix cX7_mix 3 none, Cond.constantLong RX7 301 (31), Cond.methodLink RX7 312 yX7_mixDesk, Cond.instanceMethod yX7_mixDesk]
def wsL_law_r39 : List Cond := [Cond.selects RX7 yX7_mixDesk yX7_mixDesk, Cond.code yX7_mixDesk cX7_mixDesk 2 none]
def wsL_law : List Cond := (wsL_law_r1 ++ (wsL_law_r2 ++ (wsL_law_r3 ++ (wsL_law_r4 ++ (wsL_law_r5 ++ (wsL_law_r6 ++ (wsL_law_r7 ++ (wsL_law_r8 ++ (wsL_law_r9 ++ (wsL_law_r10 ++ (wsL_law_r11 ++ (wsL_law_r12 ++ (wsL_law_r13 ++ (wsL_law_r14 ++ (wsL_law_r15 ++ (wsL_law_r16 ++ (wsL_law_r17 ++ (wsL_law_r18 ++ (wsL_law_r19 ++ (wsL_law_r20 ++ (wsL_law_r21 ++ (wsL_law_r22 ++ (wsL_law_r23 ++ (wsL_law_r24 ++ (wsL_law_r25 ++ (wsL_law_r26 ++ (wsL_law_r27 ++ (wsL_law_r28 ++ (wsL_law_r29 ++ (wsL_law_r30 ++ (wsL_law_r31 ++ (wsL_law_r32 ++ (wsL_law_r33 ++ (wsL_law_r34 ++ (wsL_law_r35 ++ (wsL_law_r36 ++ (wsL_law_r37 ++ (wsL_law_r38 ++ wsL_law_r39)))))))))))))))))))))))))))))))))))))) ++ wsX60 ++ wsX70 ++ wsX10 ++ wsX40 ++ wsX50 ++ wsX20 ++ wsX00 ++ wsX30 ++ ([] : List Cond)
theorem inlX0 : ∀ w ∈ wsX00, w ∈ wsL_law := fun _ h => List.mem_append_left _ (List.mem_append_left _ (List.mem_append_right _ h))
theorem inlX1 : ∀ w ∈ wsX10, w ∈ wsL_law := fun _ h => List.mem_append_left _ (List.mem_append_left _ (List.mem_append_left _ (List.mem_append_left _ (List.mem_append_left _ (List.mem_append_left _ (List.mem_append_right _ h))))))
theorem inlX2 : ∀ w ∈ wsX20, w ∈ wsL_law := fun _ h => List.mem_append_left _ (List.mem_append_left _ (List.mem_append_left _ (List.mem_append_right _ h)))
theorem inlX3 : ∀ w ∈ wsX30, w ∈ wsL_law := fun _ h => List.mem_append_left _ (List.mem_append_right _ h)
theorem inlX4 : ∀ w ∈ wsX40, w ∈ wsL_law := fun _ h => List.mem_append_left _ (List.mem_append_left _ (List.mem_append_left _ (List.mem_append_left _ (List.mem_append_left _ (List.mem_append_right _ h)))))
theorem inlX5 : ∀ w ∈ wsX50, w ∈ wsL_law := fun _ h => List.mem_append_left _ (List.mem_append_left _ (List.mem_append_left _ (List.mem_append_left _ (List.mem_append_right _ h))))
theorem inlX6 : ∀ w ∈ wsX60, w ∈ wsL_law := fun _ h => List.mem_append_left _ (List.mem_append_left _ (List.mem_append_left _ (List.mem_append_left _ (List.mem_append_left _ (List.mem_append_left _ (List.mem_append_left _ (List.mem_append_left _ (List.mem_append_right _ h))))))))
theorem inlX7 : ∀ w ∈ wsX70, w ∈ wsL_law := fun _ h => List.mem_append_left _ (List.mem_append_left _ (List.mem_append_left _ (List.mem_append_left _ (List.mem_append_left _ (List.mem_append_left _ (List.mem_append_left _ (List.mem_append_right _ h)))))))
abbrev vwCl : List vw_C := [(RX0, TX0, 1), (RX1, TX1, 2), (RX2, TX2, 5), (RX3, TX3, 5), (RX4, TX4, 2), (RX5, TX5, 7), (RX6, TX6, 11), (RX7, TX7, 31)]
end
section
theorem dX0_init_0 : decode cX0_init 0 = .ok (.aload_n 0, 1) := by decide +kernel
theorem dX0_init_1 : decode cX0_init 1 = .ok (.invokespecial 3, 3) := by decide +kernel
theorem dX0_init_4 : decode cX0_init 4 = .ok (.return_, 1) := by decide +kernel
theorem dX0_drawTariff_0 : decode cX0_drawTariff 0 = .ok (.aload_n 0, 1) := by decide +kernel
theorem dX0_drawTariff_1 : decode cX0_drawTariff 1 = .ok (.iconst 5, 1) := by decide +kernel
theorem dX0_drawTariff_2 : decode cX0_drawTariff 2 = .ok (.invokevirtual 9, 3) := by decide +kernel
theorem dX0_drawTariff_5 : decode cX0_drawTariff 5 = .ok (.istore_n 2, 1) := by decide +kernel
theorem dX0_drawTariff_6 : decode cX0_drawTariff 6 = .ok (.aload_n 0, 1) := by decide +kernel
theorem dX0_drawTariff_7 : decode cX0_drawTariff 7 = .ok (.bipush 19, 2) := by decide +kernel
theorem dX0_drawTariff_9 : decode cX0_drawTariff 9 = .ok (.invokevirtual 9, 3) := by decide +kernel
theorem dX0_drawTariff_12 : decode cX0_drawTariff 12 = .ok (.bipush 9, 2) := by decide +kernel
theorem dX0_drawTariff_14 : decode cX0_drawTariff 14 = .ok (.isub, 1) := by decide +kernel
theorem dX0_drawTariff_15 : decode cX0_drawTariff 15 = .ok (.istore_n 3, 1) := by decide +kernel
theorem dX0_drawTariff_16 : decode cX0_drawTariff 16 = .ok (.aload_n 0, 1) := by decide +kernel
theorem dX0_drawTariff_17 : decode cX0_drawTariff 17 = .ok (.sipush 199, 3) := by decide +kernel
theorem dX0_drawTariff_20 : decode cX0_drawTariff 20 = .ok (.invokevirtual 9, 3) := by decide +kernel
theorem dX0_drawTariff_23 : decode cX0_drawTariff 23 = .ok (.bipush 99, 2) := by decide +kernel
theorem dX0_drawTariff_25 : decode cX0_drawTariff 25 = .ok (.isub, 1) := by decide +kernel
theorem dX0_drawTariff_26 : decode cX0_drawTariff 26 = .ok (.istore 4, 2) := by decide +kernel
theorem dX0_drawTariff_28 : decode cX0_drawTariff 28 = .ok (.aload_n 0, 1) := by decide +kernel
theorem dX0_drawTariff_29 : decode cX0_drawTariff 29 = .ok (.bipush 64, 2) := by decide +kernel
theorem dX0_drawTariff_31 : decode cX0_drawTariff 31 = .ok (.invokevirtual 9, 3) := by decide +kernel
theorem dX0_drawTariff_34 : decode cX0_drawTariff 34 = .ok (.istore 5, 2) := by decide +kernel
theorem dX0_drawTariff_36 : decode cX0_drawTariff 36 = .ok (.aload_n 1, 1) := by decide +kernel
theorem dX0_drawTariff_37 : decode cX0_drawTariff 37 = .ok (.iload_n 2, 1) := by decide +kernel
theorem dX0_drawTariff_38 : decode cX0_drawTariff 38 = .ok (.iload_n 3, 1) := by decide +kernel
theorem dX0_drawTariff_39 : decode cX0_drawTariff 39 = .ok (.iload 4, 2) := by decide +kernel
theorem dX0_drawTariff_41 : decode cX0_drawTariff 41 = .ok (.iload 5, 2) := by decide +kernel
theorem dX0_drawTariff_43 : decode cX0_drawTariff 43 = .ok (.iload 5, 2) := by decide +kernel
theorem dX0_drawTariff_45 : decode cX0_drawTariff 45 = .ok (.aload_n 0, 1) := by decide +kernel
theorem dX0_drawTariff_46 : decode cX0_drawTariff 46 = .ok (.bipush 64, 2) := by decide +kernel
theorem dX0_drawTariff_48 : decode cX0_drawTariff 48 = .ok (.iload 5, 2) := by decide +kernel
theorem dX0_drawTariff_50 : decode cX0_drawTariff 50 = .ok (.isub, 1) := by decide +kernel
theorem dX0_drawTariff_51 : decode cX0_drawTariff 51 = .ok (.invokevirtual 9, 3) := by decide +kernel
theorem dX0_drawTariff_54 : decode cX0_drawTariff 54 = .ok (.iadd, 1) := by decide +kernel
theorem dX0_drawTariff_55 : decode cX0_drawTariff 55 = .ok (.invokevirtual 15, 3) := by decide +kernel
theorem dX0_drawTariff_58 : decode cX0_drawTariff 58 = .ok (.return_, 1) := by decide +kernel
theorem dX0_below_0 : decode cX0_below 0 = .ok (.aload_n 0, 1) := by decide +kernel
theorem dX0_below_1 : decode cX0_below 1 = .ok (.ldc 21, 2) := by decide +kernel
theorem dX0_below_3 : decode cX0_below 3 = .ok (.aload_n 0, 1) := by decide +kernel
theorem dX0_below_4 : decode cX0_below 4 = .ok (.getfield 22, 3) := by decide +kernel
theorem dX0_below_7 : decode cX0_below 7 = .ok (.imul, 1) := by decide +kernel
theorem dX0_below_8 : decode cX0_below 8 = .ok (.sipush 12345, 3) := by decide +kernel
theorem dX0_below_11 : decode cX0_below 11 = .ok (.iadd, 1) := by decide +kernel
theorem dX0_below_12 : decode cX0_below 12 = .ok (.ldc 26, 2) := by decide +kernel
theorem dX0_below_14 : decode cX0_below 14 = .ok (.iand, 1) := by decide +kernel
theorem dX0_below_15 : decode cX0_below 15 = .ok (.putfield 22, 3) := by decide +kernel
theorem dX0_below_18 : decode cX0_below 18 = .ok (.iload_n 1, 1) := by decide +kernel
theorem dX0_below_19 : decode cX0_below 19 = .ok (.iconst 1, 1) := by decide +kernel
theorem dX0_below_20 : decode cX0_below 20 = .ok (.if_icmp .ge 7, 3) := by decide +kernel
theorem dX0_below_23 : decode cX0_below 23 = .ok (.iconst 0, 1) := by decide +kernel
theorem dX0_below_24 : decode cX0_below 24 = .ok (.goto 12, 3) := by decide +kernel
theorem dX0_below_27 : decode cX0_below 27 = .ok (.aload_n 0, 1) := by decide +kernel
theorem dX0_below_28 : decode cX0_below 28 = .ok (.getfield 22, 3) := by decide +kernel
theorem dX0_below_31 : decode cX0_below 31 = .ok (.ldc 27, 2) := by decide +kernel
theorem dX0_below_33 : decode cX0_below 33 = .ok (.idiv, 1) := by decide +kernel
theorem dX0_below_34 : decode cX0_below 34 = .ok (.iload_n 1, 1) := by decide +kernel
theorem dX0_below_35 : decode cX0_below 35 = .ok (.irem, 1) := by decide +kernel
theorem dX0_below_36 : decode cX0_below 36 = .ok (.ireturn, 1) := by decide +kernel
theorem dX1_init_0 : decode cX1_init 0 = .ok (.aload_n 0, 1) := by decide +kernel
theorem dX1_init_1 : decode cX1_init 1 = .ok (.invokespecial 5, 3) := by decide +kernel
theorem dX1_init_4 : decode cX1_init 4 = .ok (.aload_n 0, 1) := by decide +kernel
theorem dX1_init_5 : decode cX1_init 5 = .ok (.bipush 50, 2) := by decide +kernel
theorem dX1_init_7 : decode cX1_init 7 = .ok (.newarray .int, 2) := by decide +kernel
theorem dX1_init_9 : decode cX1_init 9 = .ok (.putfield 11, 3) := by decide +kernel
theorem dX1_init_12 : decode cX1_init 12 = .ok (.return_, 1) := by decide +kernel
theorem dX1_write_0 : decode cX1_write 0 = .ok (.aload_n 0, 1) := by decide +kernel
theorem dX1_write_1 : decode cX1_write 1 = .ok (.getfield 15, 3) := by decide +kernel
theorem dX1_write_4 : decode cX1_write 4 = .ok (.ifCond .lt 15, 3) := by decide +kernel
theorem dX1_write_7 : decode cX1_write 7 = .ok (.aload_n 0, 1) := by decide +kernel
theorem dX1_write_8 : decode cX1_write 8 = .ok (.getfield 15, 3) := by decide +kernel
theorem dX1_write_11 : decode cX1_write 11 = .ok (.aload_n 0, 1) := by decide +kernel
theorem dX1_write_12 : decode cX1_write 12 = .ok (.getfield 11, 3) := by decide +kernel
theorem dX1_write_15 : decode cX1_write 15 = .ok (.arraylength, 1) := by decide +kernel
theorem dX1_write_16 : decode cX1_write 16 = .ok (.if_icmp .lt 5, 3) := by decide +kernel
theorem dX1_write_19 : decode cX1_write 19 = .ok (.iconst 0, 1) := by decide +kernel
theorem dX1_write_20 : decode cX1_write 20 = .ok (.ireturn, 1) := by decide +kernel
theorem dX1_write_21 : decode cX1_write 21 = .ok (.aload_n 0, 1) := by decide +kernel
theorem dX1_write_22 : decode cX1_write 22 = .ok (.getfield 11, 3) := by decide +kernel
theorem dX1_write_25 : decode cX1_write 25 = .ok (.aload_n 0, 1) := by decide +kernel
theorem dX1_write_26 : decode cX1_write 26 = .ok (.getfield 15, 3) := by decide +kernel
theorem dX1_write_29 : decode cX1_write 29 = .ok (.iload_n 1, 1) := by decide +kernel
theorem dX1_write_30 : decode cX1_write 30 = .ok (.iastore, 1) := by decide +kernel
theorem dX1_write_31 : decode cX1_write 31 = .ok (.aload_n 0, 1) := by decide +kernel
theorem dX1_write_32 : decode cX1_write 32 = .ok (.dup, 1) := by decide +kernel
theorem dX1_write_33 : decode cX1_write 33 = .ok (.getfield 15, 3) := by decide +kernel
theorem dX1_write_36 : decode cX1_write 36 = .ok (.iconst 1, 1) := by decide +kernel
theorem dX1_write_37 : decode cX1_write 37 = .ok (.iadd, 1) := by decide +kernel
theorem dX1_write_38 : decode cX1_write 38 = .ok (.putfield 15, 3) := by decide +kernel
theorem dX1_write_41 : decode cX1_write 41 = .ok (.iconst 1, 1) := by decide +kernel
theorem dX1_write_42 : decode cX1_write 42 = .ok (.ireturn, 1) := by decide +kernel
theorem dX1_letterAt_0 : decode cX1_letterAt 0 = .ok (.iload_n 1, 1) := by decide +kernel
theorem dX1_letterAt_1 : decode cX1_letterAt 1 = .ok (.ifCond .lt 21, 3) := by decide +kernel
theorem dX1_letterAt_4 : decode cX1_letterAt 4 = .ok (.iload_n 1, 1) := by decide +kernel
theorem dX1_letterAt_5 : decode cX1_letterAt 5 = .ok (.aload_n 0, 1) := by decide +kernel
theorem dX1_letterAt_6 : decode cX1_letterAt 6 = .ok (.getfield 11, 3) := by decide +kernel
theorem dX1_letterAt_9 : decode cX1_letterAt 9 = .ok (.arraylength, 1) := by decide +kernel
theorem dX1_letterAt_10 : decode cX1_letterAt 10 = .ok (.if_icmp .ge 12, 3) := by decide +kernel
theorem dX1_letterAt_13 : decode cX1_letterAt 13 = .ok (.aload_n 0, 1) := by decide +kernel
theorem dX1_letterAt_14 : decode cX1_letterAt 14 = .ok (.getfield 11, 3) := by decide +kernel
theorem dX1_letterAt_17 : decode cX1_letterAt 17 = .ok (.iload_n 1, 1) := by decide +kernel
theorem dX1_letterAt_18 : decode cX1_letterAt 18 = .ok (.iaload, 1) := by decide +kernel
theorem dX1_letterAt_19 : decode cX1_letterAt 19 = .ok (.goto 4, 3) := by decide +kernel
theorem dX1_letterAt_22 : decode cX1_letterAt 22 = .ok (.iconst 0, 1) := by decide +kernel
theorem dX1_letterAt_23 : decode cX1_letterAt 23 = .ok (.ireturn, 1) := by decide +kernel
theorem dX1_firstWrong_0 : decode cX1_firstWrong 0 = .ok (.iconst 0, 1) := by decide +kernel
theorem dX1_firstWrong_1 : decode cX1_firstWrong 1 = .ok (.istore_n 1, 1) := by decide +kernel
theorem dX1_firstWrong_2 : decode cX1_firstWrong 2 = .ok (.iload_n 1, 1) := by decide +kernel
theorem dX1_firstWrong_3 : decode cX1_firstWrong 3 = .ok (.aload_n 0, 1) := by decide +kernel
theorem dX1_firstWrong_4 : decode cX1_firstWrong 4 = .ok (.getfield 15, 3) := by decide +kernel
theorem dX1_firstWrong_7 : decode cX1_firstWrong 7 = .ok (.if_icmp .ge 17, 3) := by decide +kernel
theorem dX1_firstWrong_10 : decode cX1_firstWrong 10 = .ok (.aload_n 0, 1) := by decide +kernel
theorem dX1_firstWrong_11 : decode cX1_firstWrong 11 = .ok (.iload_n 1, 1) := by decide +kernel
theorem dX1_firstWrong_12 : decode cX1_firstWrong 12 = .ok (.invokevirtual 19, 3) := by decide +kernel
theorem dX1_firstWrong_15 : decode cX1_firstWrong 15 = .ok (.ifCond .eq 9, 3) := by decide +kernel
theorem dX1_firstWrong_18 : decode cX1_firstWrong 18 = .ok (.iinc 1 1, 3) := by decide +kernel
theorem dX1_firstWrong_21 : decode cX1_firstWrong 21 = .ok (.goto (-19), 3) := by decide +kernel
theorem dX1_firstWrong_24 : decode cX1_firstWrong 24 = .ok (.iload_n 1, 1) := by decide +kernel
theorem dX1_firstWrong_25 : decode cX1_firstWrong 25 = .ok (.ireturn, 1) := by decide +kernel
theorem dX1_isWholeDesk_0 : decode cX1_isWholeDesk 0 = .ok (.aload_n 0, 1) := by decide +kernel
theorem dX1_isWholeDesk_1 : decode cX1_isWholeDesk 1 = .ok (.getfield 15, 3) := by decide +kernel
theorem dX1_isWholeDesk_4 : decode cX1_isWholeDesk 4 = .ok (.bipush 12, 2) := by decide +kernel
theorem dX1_isWholeDesk_6 : decode cX1_isWholeDesk 6 = .ok (.irem, 1) := by decide +kernel
theorem dX1_isWholeDesk_7 : decode cX1_isWholeDesk 7 = .ok (.bipush 11, 2) := by decide +kernel
theorem dX1_isWholeDesk_9 : decode cX1_isWholeDesk 9 = .ok (.if_icmp .ne 18, 3) := by decide +kernel
theorem dX1_isWholeDesk_12 : decode cX1_isWholeDesk 12 = .ok (.aload_n 0, 1) := by decide +kernel
theorem dX1_isWholeDesk_13 : decode cX1_isWholeDesk 13 = .ok (.invokevirtual 23, 3) := by decide +kernel
theorem dX1_isWholeDesk_16 : decode cX1_isWholeDesk 16 = .ok (.aload_n 0, 1) := by decide +kernel
theorem dX1_isWholeDesk_17 : decode cX1_isWholeDesk 17 = .ok (.getfield 15, 3) := by decide +kernel
theorem dX1_isWholeDesk_20 : decode cX1_isWholeDesk 20 = .ok (.if_icmp .ne 7, 3) := by decide +kernel
theorem dX1_isWholeDesk_23 : decode cX1_isWholeDesk 23 = .ok (.iconst 1, 1) := by decide +kernel
theorem dX1_isWholeDesk_24 : decode cX1_isWholeDesk 24 = .ok (.goto 4, 3) := by decide +kernel
theorem dX1_isWholeDesk_27 : decode cX1_isWholeDesk 27 = .ok (.iconst 0, 1) := by decide +kernel
theorem dX1_isWholeDesk_28 : decode cX1_isWholeDesk 28 = .ok (.ireturn, 1) := by decide +kernel
theorem dX1_goesOn_0 : decode cX1_goesOn 0 = .ok (.iload_n 1, 1) := by decide +kernel
theorem dX1_goesOn_1 : decode cX1_goesOn 1 = .ok (.bipush 47, 2) := by decide +kernel
theorem dX1_goesOn_3 : decode cX1_goesOn 3 = .ok (.if_icmp .lt 5, 3) := by decide +kernel
theorem dX1_goesOn_6 : decode cX1_goesOn 6 = .ok (.iconst 0, 1) := by decide +kernel
theorem dX1_goesOn_7 : decode cX1_goesOn 7 = .ok (.ireturn, 1) := by decide +kernel
theorem dX1_goesOn_8 : decode cX1_goesOn 8 = .ok (.aload_n 0, 1) := by decide +kernel
theorem dX1_goesOn_9 : decode cX1_goesOn 9 = .ok (.iload_n 1, 1) := by decide +kernel
theorem dX1_goesOn_10 : decode cX1_goesOn 10 = .ok (.invokevirtual 27, 3) := by decide +kernel
theorem dX1_goesOn_13 : decode cX1_goesOn 13 = .ok (.istore_n 2, 1) := by decide +kernel
theorem dX1_goesOn_14 : decode cX1_goesOn 14 = .ok (.iload_n 1, 1) := by decide +kernel
theorem dX1_goesOn_15 : decode cX1_goesOn 15 = .ok (.bipush 12, 2) := by decide +kernel
theorem dX1_goesOn_17 : decode cX1_goesOn 17 = .ok (.irem, 1) := by decide +kernel
theorem dX1_goesOn_18 : decode cX1_goesOn 18 = .ok (.tableswitch 237 0 10 #[58, 74, 92, 74, 92, 92, 97, 109, 132, 157, 195], 58) := by decide +kernel
theorem dX1_goesOn_76 : decode cX1_goesOn 76 = .ok (.ldc 31, 2) := by decide +kernel
theorem dX1_goesOn_78 : decode cX1_goesOn 78 = .ok (.iload_n 2, 1) := by decide +kernel
theorem dX1_goesOn_79 : decode cX1_goesOn 79 = .ok (.i2c, 1) := by decide +kernel
theorem dX1_goesOn_80 : decode cX1_goesOn 80 = .ok (.invokevirtual 33, 3) := by decide +kernel
theorem dX1_goesOn_83 : decode cX1_goesOn 83 = .ok (.ifCond .lt 7, 3) := by decide +kernel
theorem dX1_goesOn_86 : decode cX1_goesOn 86 = .ok (.iconst 1, 1) := by decide +kernel
theorem dX1_goesOn_87 : decode cX1_goesOn 87 = .ok (.goto 4, 3) := by decide +kernel
theorem dX1_goesOn_90 : decode cX1_goesOn 90 = .ok (.iconst 0, 1) := by decide +kernel
theorem dX1_goesOn_91 : decode cX1_goesOn 91 = .ok (.ireturn, 1) := by decide +kernel
theorem dX1_goesOn_92 : decode cX1_goesOn 92 = .ok (.iload_n 2, 1) := by decide +kernel
theorem dX1_goesOn_93 : decode cX1_goesOn 93 = .ok (.bipush 43, 2) := by decide +kernel
theorem dX1_goesOn_95 : decode cX1_goesOn 95 = .ok (.if_icmp .eq 9, 3) := by decide +kernel
theorem dX1_goesOn_98 : decode cX1_goesOn 98 = .ok (.iload_n 2, 1) := by decide +kernel
theorem dX1_goesOn_99 : decode cX1_goesOn 99 = .ok (.bipush 45, 2) := by decide +kernel
theorem dX1_goesOn_101 : decode cX1_goesOn 101 = .ok (.if_icmp .ne 7, 3) := by decide +kernel
theorem dX1_goesOn_104 : decode cX1_goesOn 104 = .ok (.iconst 1, 1) := by decide +kernel
theorem dX1_goesOn_105 : decode cX1_goesOn 105 = .ok (.goto 4, 3) := by decide +kernel
theorem dX1_goesOn_108 : decode cX1_goesOn 108 = .ok (.iconst 0, 1) := by decide +kernel
theorem dX1_goesOn_109 : decode cX1_goesOn 109 = .ok (.ireturn, 1) := by decide +kernel
theorem dX1_goesOn_110 : decode cX1_goesOn 110 = .ok (.iload_n 2, 1) := by decide +kernel
theorem dX1_goesOn_111 : decode cX1_goesOn 111 = .ok (.invokestatic 38, 3) := by decide +kernel
theorem dX1_goesOn_114 : decode cX1_goesOn 114 = .ok (.ireturn, 1) := by decide +kernel
theorem dX1_goesOn_115 : decode cX1_goesOn 115 = .ok (.iload_n 2, 1) := by decide +kernel
theorem dX1_goesOn_116 : decode cX1_goesOn 116 = .ok (.bipush 64, 2) := by decide +kernel
theorem dX1_goesOn_118 : decode cX1_goesOn 118 = .ok (.if_icmp .ne 7, 3) := by decide +kernel
theorem dX1_goesOn_121 : decode cX1_goesOn 121 = .ok (.iconst 1, 1) := by decide +kernel
theorem dX1_goesOn_122 : decode cX1_goesOn 122 = .ok (.goto 4, 3) := by decide +kernel
theorem dX1_goesOn_125 : decode cX1_goesOn 125 = .ok (.iconst 0, 1) := by decide +kernel
theorem dX1_goesOn_126 : decode cX1_goesOn 126 = .ok (.ireturn, 1) := by decide +kernel
theorem dX1_goesOn_127 : decode cX1_goesOn 127 = .ok (.iload_n 2, 1) := by decide +kernel
theorem dX1_goesOn_128 : decode cX1_goesOn 128 = .ok (.invokestatic 38, 3) := by decide +kernel
theorem dX1_goesOn_131 : decode cX1_goesOn 131 = .ok (.ifCond .eq 17, 3) := by decide +kernel
theorem dX1_goesOn_134 : decode cX1_goesOn 134 = .ok (.aload_n 0, 1) := by decide +kernel
theorem dX1_goesOn_135 : decode cX1_goesOn 135 = .ok (.iload_n 1, 1) := by decide +kernel
theorem dX1_goesOn_136 : decode cX1_goesOn 136 = .ok (.invokevirtual 41, 3) := by decide +kernel
theorem dX1_goesOn_139 : decode cX1_goesOn 139 = .ok (.bipush 6, 2) := by decide +kernel
theorem dX1_goesOn_141 : decode cX1_goesOn 141 = .ok (.if_icmp .gt 7, 3) := by decide +kernel
theorem dX1_goesOn_144 : decode cX1_goesOn 144 = .ok (.iconst 1, 1) := by decide +kernel
theorem dX1_goesOn_145 : decode cX1_goesOn 145 = .ok (.goto 4, 3) := by decide +kernel
theorem dX1_goesOn_148 : decode cX1_goesOn 148 = .ok (.iconst 0, 1) := by decide +kernel
theorem dX1_goesOn_149 : decode cX1_goesOn 149 = .ok (.ireturn, 1) := by decide +kernel
theorem dX1_goesOn_150 : decode cX1_goesOn 150 = .ok (.iload_n 2, 1) := by decide +kernel
theorem dX1_goesOn_151 : decode cX1_goesOn 151 = .ok (.invokestatic 38, 3) := by decide +kernel
theorem dX1_goesOn_154 : decode cX1_goesOn 154 = .ok (.ifCond .eq 19, 3) := by decide +kernel
theorem dX1_goesOn_157 : decode cX1_goesOn 157 = .ok (.aload_n 0, 1) := by decide +kernel
theorem dX1_goesOn_158 : decode cX1_goesOn 158 = .ok (.iload_n 1, 1) := by decide +kernel
theorem dX1_goesOn_159 : decode cX1_goesOn 159 = .ok (.iconst 1, 1) := by decide +kernel
theorem dX1_goesOn_160 : decode cX1_goesOn 160 = .ok (.isub, 1) := by decide +kernel
theorem dX1_goesOn_161 : decode cX1_goesOn 161 = .ok (.invokevirtual 44, 3) := by decide +kernel
theorem dX1_goesOn_164 : decode cX1_goesOn 164 = .ok (.bipush 63, 2) := by decide +kernel
theorem dX1_goesOn_166 : decode cX1_goesOn 166 = .ok (.if_icmp .gt 7, 3) := by decide +kernel
theorem dX1_goesOn_169 : decode cX1_goesOn 169 = .ok (.iconst 1, 1) := by decide +kernel
theorem dX1_goesOn_170 : decode cX1_goesOn 170 = .ok (.goto 4, 3) := by decide +kernel
theorem dX1_goesOn_173 : decode cX1_goesOn 173 = .ok (.iconst 0, 1) := by decide +kernel
theorem dX1_goesOn_174 : decode cX1_goesOn 174 = .ok (.ireturn, 1) := by decide +kernel
theorem dX1_goesOn_175 : decode cX1_goesOn 175 = .ok (.iload_n 2, 1) := by decide +kernel
theorem dX1_goesOn_176 : decode cX1_goesOn 176 = .ok (.invokestatic 38, 3) := by decide +kernel
theorem dX1_goesOn_179 : decode cX1_goesOn 179 = .ok (.ifCond .eq 32, 3) := by decide +kernel
theorem dX1_goesOn_182 : decode cX1_goesOn 182 = .ok (.aload_n 0, 1) := by decide +kernel
theorem dX1_goesOn_183 : decode cX1_goesOn 183 = .ok (.iload_n 1, 1) := by decide +kernel
theorem dX1_goesOn_184 : decode cX1_goesOn 184 = .ok (.invokevirtual 41, 3) := by decide +kernel
theorem dX1_goesOn_187 : decode cX1_goesOn 187 = .ok (.bipush 6, 2) := by decide +kernel
theorem dX1_goesOn_189 : decode cX1_goesOn 189 = .ok (.if_icmp .gt 22, 3) := by decide +kernel
theorem dX1_goesOn_192 : decode cX1_goesOn 192 = .ok (.aload_n 0, 1) := by decide +kernel
theorem dX1_goesOn_193 : decode cX1_goesOn 193 = .ok (.iload_n 1, 1) := by decide +kernel
theorem dX1_goesOn_194 : decode cX1_goesOn 194 = .ok (.invokevirtual 41, 3) := by decide +kernel
theorem dX1_goesOn_197 : decode cX1_goesOn 197 = .ok (.aload_n 0, 1) := by decide +kernel
theorem dX1_goesOn_198 : decode cX1_goesOn 198 = .ok (.iload_n 1, 1) := by decide +kernel
theorem dX1_goesOn_199 : decode cX1_goesOn 199 = .ok (.iconst 2, 1) := by decide +kernel
theorem dX1_goesOn_200 : decode cX1_goesOn 200 = .ok (.isub, 1) := by decide +kernel
theorem dX1_goesOn_201 : decode cX1_goesOn 201 = .ok (.invokevirtual 41, 3) := by decide +kernel
theorem dX1_goesOn_204 : decode cX1_goesOn 204 = .ok (.if_icmp .lt 7, 3) := by decide +kernel
theorem dX1_goesOn_207 : decode cX1_goesOn 207 = .ok (.iconst 1, 1) := by decide +kernel
theorem dX1_goesOn_208 : decode cX1_goesOn 208 = .ok (.goto 4, 3) := by decide +kernel
theorem dX1_goesOn_211 : decode cX1_goesOn 211 = .ok (.iconst 0, 1) := by decide +kernel
theorem dX1_goesOn_212 : decode cX1_goesOn 212 = .ok (.ireturn, 1) := by decide +kernel
theorem dX1_goesOn_213 : decode cX1_goesOn 213 = .ok (.iload_n 2, 1) := by decide +kernel
theorem dX1_goesOn_214 : decode cX1_goesOn 214 = .ok (.invokestatic 38, 3) := by decide +kernel
theorem dX1_goesOn_217 : decode cX1_goesOn 217 = .ok (.ifCond .eq 36, 3) := by decide +kernel
theorem dX1_goesOn_220 : decode cX1_goesOn 220 = .ok (.aload_n 0, 1) := by decide +kernel
theorem dX1_goesOn_221 : decode cX1_goesOn 221 = .ok (.iload_n 1, 1) := by decide +kernel
theorem dX1_goesOn_222 : decode cX1_goesOn 222 = .ok (.iconst 1, 1) := by decide +kernel
theorem dX1_goesOn_223 : decode cX1_goesOn 223 = .ok (.isub, 1) := by decide +kernel
theorem dX1_goesOn_224 : decode cX1_goesOn 224 = .ok (.invokevirtual 44, 3) := by decide +kernel
theorem dX1_goesOn_227 : decode cX1_goesOn 227 = .ok (.bipush 63, 2) := by decide +kernel
theorem dX1_goesOn_229 : decode cX1_goesOn 229 = .ok (.if_icmp .gt 24, 3) := by decide +kernel
theorem dX1_goesOn_232 : decode cX1_goesOn 232 = .ok (.aload_n 0, 1) := by decide +kernel
theorem dX1_goesOn_233 : decode cX1_goesOn 233 = .ok (.iload_n 1, 1) := by decide +kernel
theorem dX1_goesOn_234 : decode cX1_goesOn 234 = .ok (.iconst 1, 1) := by decide +kernel
theorem dX1_goesOn_235 : decode cX1_goesOn 235 = .ok (.isub, 1) := by decide +kernel
theorem dX1_goesOn_236 : decode cX1_goesOn 236 = .ok (.invokevirtual 44, 3) := by decide +kernel
theorem dX1_goesOn_239 : decode cX1_goesOn 239 = .ok (.aload_n 0, 1) := by decide +kernel
theorem dX1_goesOn_240 : decode cX1_goesOn 240 = .ok (.iload_n 1, 1) := by decide +kernel
theorem dX1_goesOn_241 : decode cX1_goesOn 241 = .ok (.iconst 3, 1) := by decide +kernel
theorem dX1_goesOn_242 : decode cX1_goesOn 242 = .ok (.isub, 1) := by decide +kernel
theorem dX1_goesOn_243 : decode cX1_goesOn 243 = .ok (.invokevirtual 44, 3) := by decide +kernel
theorem dX1_goesOn_246 : decode cX1_goesOn 246 = .ok (.if_icmp .lt 7, 3) := by decide +kernel
theorem dX1_goesOn_249 : decode cX1_goesOn 249 = .ok (.iconst 1, 1) := by decide +kernel
theorem dX1_goesOn_250 : decode cX1_goesOn 250 = .ok (.goto 4, 3) := by decide +kernel
theorem dX1_goesOn_253 : decode cX1_goesOn 253 = .ok (.iconst 0, 1) := by decide +kernel
theorem dX1_goesOn_254 : decode cX1_goesOn 254 = .ok (.ireturn, 1) := by decide +kernel
theorem dX1_goesOn_255 : decode cX1_goesOn 255 = .ok (.iload_n 2, 1) := by decide +kernel
theorem dX1_goesOn_256 : decode cX1_goesOn 256 = .ok (.bipush 44, 2) := by decide +kernel
theorem dX1_goesOn_258 : decode cX1_goesOn 258 = .ok (.if_icmp .ne 7, 3) := by decide +kernel
theorem dX1_goesOn_261 : decode cX1_goesOn 261 = .ok (.iconst 1, 1) := by decide +kernel
theorem dX1_goesOn_262 : decode cX1_goesOn 262 = .ok (.goto 4, 3) := by decide +kernel
theorem dX1_goesOn_265 : decode cX1_goesOn 265 = .ok (.iconst 0, 1) := by decide +kernel
theorem dX1_goesOn_266 : decode cX1_goesOn 266 = .ok (.ireturn, 1) := by decide +kernel
theorem dX1_readTariff_0 : decode cX1_readTariff 0 = .ok (.ldc 31, 2) := by decide +kernel
theorem dX1_readTariff_2 : decode cX1_readTariff 2 = .ok (.aload_n 0, 1) := by decide +kernel
theorem dX1_readTariff_3 : decode cX1_readTariff 3 = .ok (.iload_n 1, 1) := by decide +kernel
theorem dX1_readTariff_4 : decode cX1_readTariff 4 = .ok (.invokevirtual 27, 3) := by decide +kernel
theorem dX1_readTariff_7 : decode cX1_readTariff 7 = .ok (.i2c, 1) := by decide +kernel
theorem dX1_readTariff_8 : decode cX1_readTariff 8 = .ok (.invokevirtual 33, 3) := by decide +kernel
theorem dX1_readTariff_11 : decode cX1_readTariff 11 = .ok (.istore_n 3, 1) := by decide +kernel
theorem dX1_readTariff_12 : decode cX1_readTariff 12 = .ok (.aload_n 0, 1) := by decide +kernel
theorem dX1_readTariff_13 : decode cX1_readTariff 13 = .ok (.iload_n 1, 1) := by decide +kernel
theorem dX1_readTariff_14 : decode cX1_readTariff 14 = .ok (.iconst 1, 1) := by decide +kernel
theorem dX1_readTariff_15 : decode cX1_readTariff 15 = .ok (.iadd, 1) := by decide +kernel
theorem dX1_readTariff_16 : decode cX1_readTariff 16 = .ok (.invokevirtual 47, 3) := by decide +kernel
theorem dX1_readTariff_19 : decode cX1_readTariff 19 = .ok (.aload_n 0, 1) := by decide +kernel
theorem dX1_readTariff_20 : decode cX1_readTariff 20 = .ok (.iload_n 1, 1) := by decide +kernel
theorem dX1_readTariff_21 : decode cX1_readTariff 21 = .ok (.iconst 2, 1) := by decide +kernel
theorem dX1_readTariff_22 : decode cX1_readTariff 22 = .ok (.iadd, 1) := by decide +kernel
theorem dX1_readTariff_23 : decode cX1_readTariff 23 = .ok (.invokevirtual 41, 3) := by decide +kernel
theorem dX1_readTariff_26 : decode cX1_readTariff 26 = .ok (.imul, 1) := by decide +kernel
theorem dX1_readTariff_27 : decode cX1_readTariff 27 = .ok (.istore 4, 2) := by decide +kernel
theorem dX1_readTariff_29 : decode cX1_readTariff 29 = .ok (.aload_n 0, 1) := by decide +kernel
theorem dX1_readTariff_30 : decode cX1_readTariff 30 = .ok (.iload_n 1, 1) := by decide +kernel
theorem dX1_readTariff_31 : decode cX1_readTariff 31 = .ok (.iconst 3, 1) := by decide +kernel
theorem dX1_readTariff_32 : decode cX1_readTariff 32 = .ok (.iadd, 1) := by decide +kernel
theorem dX1_readTariff_33 : decode cX1_readTariff 33 = .ok (.invokevirtual 47, 3) := by decide +kernel
theorem dX1_readTariff_36 : decode cX1_readTariff 36 = .ok (.aload_n 0, 1) := by decide +kernel
theorem dX1_readTariff_37 : decode cX1_readTariff 37 = .ok (.iload_n 1, 1) := by decide +kernel
theorem dX1_readTariff_38 : decode cX1_readTariff 38 = .ok (.iconst 4, 1) := by decide +kernel
theorem dX1_readTariff_39 : decode cX1_readTariff 39 = .ok (.iadd, 1) := by decide +kernel
theorem dX1_readTariff_40 : decode cX1_readTariff 40 = .ok (.invokevirtual 44, 3) := by decide +kernel
theorem dX1_readTariff_43 : decode cX1_readTariff 43 = .ok (.imul, 1) := by decide +kernel
theorem dX1_readTariff_44 : decode cX1_readTariff 44 = .ok (.istore 5, 2) := by decide +kernel
theorem dX1_readTariff_46 : decode cX1_readTariff 46 = .ok (.aload_n 2, 1) := by decide +kernel
theorem dX1_readTariff_47 : decode cX1_readTariff 47 = .ok (.iload_n 3, 1) := by decide +kernel
theorem dX1_readTariff_48 : decode cX1_readTariff 48 = .ok (.iload 4, 2) := by decide +kernel
theorem dX1_readTariff_50 : decode cX1_readTariff 50 = .ok (.iload 5, 2) := by decide +kernel
theorem dX1_readTariff_52 : decode cX1_readTariff 52 = .ok (.aload_n 0, 1) := by decide +kernel
theorem dX1_readTariff_53 : decode cX1_readTariff 53 = .ok (.iload_n 1, 1) := by decide +kernel
theorem dX1_readTariff_54 : decode cX1_readTariff 54 = .ok (.bipush 7, 2) := by decide +kernel
theorem dX1_readTariff_56 : decode cX1_readTariff 56 = .ok (.iadd, 1) := by decide +kernel
theorem dX1_readTariff_57 : decode cX1_readTariff 57 = .ok (.invokevirtual 44, 3) := by decide +kernel
theorem dX1_readTariff_60 : decode cX1_readTariff 60 = .ok (.aload_n 0, 1) := by decide +kernel
theorem dX1_readTariff_61 : decode cX1_readTariff 61 = .ok (.iload_n 1, 1) := by decide +kernel
theorem dX1_readTariff_62 : decode cX1_readTariff 62 = .ok (.bipush 9, 2) := by decide +kernel
theorem dX1_readTariff_64 : decode cX1_readTariff 64 = .ok (.iadd, 1) := by decide +kernel
theorem dX1_readTariff_65 : decode cX1_readTariff 65 = .ok (.invokevirtual 44, 3) := by decide +kernel
theorem dX1_readTariff_68 : decode cX1_readTariff 68 = .ok (.invokevirtual 50, 3) := by decide +kernel
theorem dX1_readTariff_71 : decode cX1_readTariff 71 = .ok (.return_, 1) := by decide +kernel
theorem dX1_isDigit_0 : decode cX1_isDigit 0 = .ok (.iload_n 0, 1) := by decide +kernel
theorem dX1_isDigit_1 : decode cX1_isDigit 1 = .ok (.bipush 48, 2) := by decide +kernel
theorem dX1_isDigit_3 : decode cX1_isDigit 3 = .ok (.if_icmp .lt 13, 3) := by decide +kernel
theorem dX1_isDigit_6 : decode cX1_isDigit 6 = .ok (.iload_n 0, 1) := by decide +kernel
theorem dX1_isDigit_7 : decode cX1_isDigit 7 = .ok (.bipush 57, 2) := by decide +kernel
theorem dX1_isDigit_9 : decode cX1_isDigit 9 = .ok (.if_icmp .gt 7, 3) := by decide +kernel
theorem dX1_isDigit_12 : decode cX1_isDigit 12 = .ok (.iconst 1, 1) := by decide +kernel
theorem dX1_isDigit_13 : decode cX1_isDigit 13 = .ok (.goto 4, 3) := by decide +kernel
theorem dX1_isDigit_16 : decode cX1_isDigit 16 = .ok (.iconst 0, 1) := by decide +kernel
theorem dX1_isDigit_17 : decode cX1_isDigit 17 = .ok (.ireturn, 1) := by decide +kernel
theorem dX1_signAt_0 : decode cX1_signAt 0 = .ok (.aload_n 0, 1) := by decide +kernel
theorem dX1_signAt_1 : decode cX1_signAt 1 = .ok (.iload_n 1, 1) := by decide +kernel
theorem dX1_signAt_2 : decode cX1_signAt 2 = .ok (.invokevirtual 27, 3) := by decide +kernel
theorem dX1_signAt_5 : decode cX1_signAt 5 = .ok (.bipush 45, 2) := by decide +kernel
theorem dX1_signAt_7 : decode cX1_signAt 7 = .ok (.if_icmp .ne 7, 3) := by decide +kernel
theorem dX1_signAt_10 : decode cX1_signAt 10 = .ok (.iconst (-1), 1) := by decide +kernel
theorem dX1_signAt_11 : decode cX1_signAt 11 = .ok (.goto 4, 3) := by decide +kernel
theorem dX1_signAt_14 : decode cX1_signAt 14 = .ok (.iconst 1, 1) := by decide +kernel
theorem dX1_signAt_15 : decode cX1_signAt 15 = .ok (.ireturn, 1) := by decide +kernel
theorem dX1_digitAt_0 : decode cX1_digitAt 0 = .ok (.aload_n 0, 1) := by decide +kernel
theorem dX1_digitAt_1 : decode cX1_digitAt 1 = .ok (.iload_n 1, 1) := by decide +kernel
theorem dX1_digitAt_2 : decode cX1_digitAt 2 = .ok (.invokevirtual 27, 3) := by decide +kernel
theorem dX1_digitAt_5 : decode cX1_digitAt 5 = .ok (.bipush 48, 2) := by decide +kernel
theorem dX1_digitAt_7 : decode cX1_digitAt 7 = .ok (.isub, 1) := by decide +kernel
theorem dX1_digitAt_8 : decode cX1_digitAt 8 = .ok (.ireturn, 1) := by decide +kernel
theorem dX1_pairAt_0 : decode cX1_pairAt 0 = .ok (.bipush 10, 2) := by decide +kernel
theorem dX1_pairAt_2 : decode cX1_pairAt 2 = .ok (.aload_n 0, 1) := by decide +kernel
theorem dX1_pairAt_3 : decode cX1_pairAt 3 = .ok (.iload_n 1, 1) := by decide +kernel
theorem dX1_pairAt_4 : decode cX1_pairAt 4 = .ok (.invokevirtual 41, 3) := by decide +kernel
theorem dX1_pairAt_7 : decode cX1_pairAt 7 = .ok (.imul, 1) := by decide +kernel
theorem dX1_pairAt_8 : decode cX1_pairAt 8 = .ok (.aload_n 0, 1) := by decide +kernel
theorem dX1_pairAt_9 : decode cX1_pairAt 9 = .ok (.iload_n 1, 1) := by decide +kernel
theorem dX1_pairAt_10 : decode cX1_pairAt 10 = .ok (.iconst 1, 1) := by decide +kernel
theorem dX1_pairAt_11 : decode cX1_pairAt 11 = .ok (.iadd, 1) := by decide +kernel
theorem dX1_pairAt_12 : decode cX1_pairAt 12 = .ok (.invokevirtual 41, 3) := by decide +kernel
theorem dX1_pairAt_15 : decode cX1_pairAt 15 = .ok (.iadd, 1) := by decide +kernel
theorem dX1_pairAt_16 : decode cX1_pairAt 16 = .ok (.ireturn, 1) := by decide +kernel
theorem dX2_init_0 : decode cX2_init 0 = .ok (.aload_n 0, 1) := by decide +kernel
theorem dX2_init_1 : decode cX2_init 1 = .ok (.invokespecial 3, 3) := by decide +kernel
theorem dX2_init_4 : decode cX2_init 4 = .ok (.aload_n 0, 1) := by decide +kernel
theorem dX2_init_5 : decode cX2_init 5 = .ok (.bipush 6, 2) := by decide +kernel
theorem dX2_init_7 : decode cX2_init 7 = .ok (.newarray .int, 2) := by decide +kernel
theorem dX2_init_9 : decode cX2_init 9 = .ok (.putfield 9, 3) := by decide +kernel
theorem dX2_init_12 : decode cX2_init 12 = .ok (.aload_n 0, 1) := by decide +kernel
theorem dX2_init_13 : decode cX2_init 13 = .ok (.bipush 6, 2) := by decide +kernel
theorem dX2_init_15 : decode cX2_init 15 = .ok (.newarray .int, 2) := by decide +kernel
theorem dX2_init_17 : decode cX2_init 17 = .ok (.putfield 15, 3) := by decide +kernel
theorem dX2_init_20 : decode cX2_init 20 = .ok (.aload_n 0, 1) := by decide +kernel
theorem dX2_init_21 : decode cX2_init 21 = .ok (.bipush 6, 2) := by decide +kernel
theorem dX2_init_23 : decode cX2_init 23 = .ok (.newarray .int, 2) := by decide +kernel
theorem dX2_init_25 : decode cX2_init 25 = .ok (.putfield 18, 3) := by decide +kernel
theorem dX2_init_28 : decode cX2_init 28 = .ok (.aload_n 0, 1) := by decide +kernel
theorem dX2_init_29 : decode cX2_init 29 = .ok (.iconst 5, 1) := by decide +kernel
theorem dX2_init_30 : decode cX2_init 30 = .ok (.newarray .long, 2) := by decide +kernel
theorem dX2_init_32 : decode cX2_init 32 = .ok (.putfield 21, 3) := by decide +kernel
theorem dX2_init_35 : decode cX2_init 35 = .ok (.return_, 1) := by decide +kernel
theorem dX2_write_0 : decode cX2_write 0 = .ok (.aload_n 0, 1) := by decide +kernel
theorem dX2_write_1 : decode cX2_write 1 = .ok (.getfield 25, 3) := by decide +kernel
theorem dX2_write_4 : decode cX2_write 4 = .ok (.ifCond .lt 12, 3) := by decide +kernel
theorem dX2_write_7 : decode cX2_write 7 = .ok (.aload_n 0, 1) := by decide +kernel
theorem dX2_write_8 : decode cX2_write 8 = .ok (.getfield 25, 3) := by decide +kernel
theorem dX2_write_11 : decode cX2_write 11 = .ok (.bipush 6, 2) := by decide +kernel
theorem dX2_write_13 : decode cX2_write 13 = .ok (.if_icmp .lt 5, 3) := by decide +kernel
theorem dX2_write_16 : decode cX2_write 16 = .ok (.iconst 0, 1) := by decide +kernel
theorem dX2_write_17 : decode cX2_write 17 = .ok (.ireturn, 1) := by decide +kernel
theorem dX2_write_18 : decode cX2_write 18 = .ok (.aload_n 0, 1) := by decide +kernel
theorem dX2_write_19 : decode cX2_write 19 = .ok (.getfield 9, 3) := by decide +kernel
theorem dX2_write_22 : decode cX2_write 22 = .ok (.aload_n 0, 1) := by decide +kernel
theorem dX2_write_23 : decode cX2_write 23 = .ok (.getfield 25, 3) := by decide +kernel
theorem dX2_write_26 : decode cX2_write 26 = .ok (.iload_n 1, 1) := by decide +kernel
theorem dX2_write_27 : decode cX2_write 27 = .ok (.iastore, 1) := by decide +kernel
theorem dX2_write_28 : decode cX2_write 28 = .ok (.aload_n 0, 1) := by decide +kernel
theorem dX2_write_29 : decode cX2_write 29 = .ok (.getfield 15, 3) := by decide +kernel
theorem dX2_write_32 : decode cX2_write 32 = .ok (.aload_n 0, 1) := by decide +kernel
theorem dX2_write_33 : decode cX2_write 33 = .ok (.getfield 25, 3) := by decide +kernel
theorem dX2_write_36 : decode cX2_write 36 = .ok (.iload_n 2, 1) := by decide +kernel
theorem dX2_write_37 : decode cX2_write 37 = .ok (.iastore, 1) := by decide +kernel
theorem dX2_write_38 : decode cX2_write 38 = .ok (.aload_n 0, 1) := by decide +kernel
theorem dX2_write_39 : decode cX2_write 39 = .ok (.getfield 18, 3) := by decide +kernel
theorem dX2_write_42 : decode cX2_write 42 = .ok (.aload_n 0, 1) := by decide +kernel
theorem dX2_write_43 : decode cX2_write 43 = .ok (.getfield 25, 3) := by decide +kernel
theorem dX2_write_46 : decode cX2_write 46 = .ok (.iload_n 3, 1) := by decide +kernel
theorem dX2_write_47 : decode cX2_write 47 = .ok (.iastore, 1) := by decide +kernel
theorem dX2_write_48 : decode cX2_write 48 = .ok (.aload_n 0, 1) := by decide +kernel
theorem dX2_write_49 : decode cX2_write 49 = .ok (.dup, 1) := by decide +kernel
theorem dX2_write_50 : decode cX2_write 50 = .ok (.getfield 25, 3) := by decide +kernel
theorem dX2_write_53 : decode cX2_write 53 = .ok (.iconst 1, 1) := by decide +kernel
theorem dX2_write_54 : decode cX2_write 54 = .ok (.iadd, 1) := by decide +kernel
theorem dX2_write_55 : decode cX2_write 55 = .ok (.putfield 25, 3) := by decide +kernel
theorem dX2_write_58 : decode cX2_write 58 = .ok (.iconst 1, 1) := by decide +kernel
theorem dX2_write_59 : decode cX2_write 59 = .ok (.ireturn, 1) := by decide +kernel
theorem dX2_copyFrom_0 : decode cX2_copyFrom 0 = .ok (.aload_n 0, 1) := by decide +kernel
theorem dX2_copyFrom_1 : decode cX2_copyFrom 1 = .ok (.iconst 0, 1) := by decide +kernel
theorem dX2_copyFrom_2 : decode cX2_copyFrom 2 = .ok (.putfield 25, 3) := by decide +kernel
theorem dX2_copyFrom_5 : decode cX2_copyFrom 5 = .ok (.iconst 0, 1) := by decide +kernel
theorem dX2_copyFrom_6 : decode cX2_copyFrom 6 = .ok (.istore_n 2, 1) := by decide +kernel
theorem dX2_copyFrom_7 : decode cX2_copyFrom 7 = .ok (.iload_n 2, 1) := by decide +kernel
theorem dX2_copyFrom_8 : decode cX2_copyFrom 8 = .ok (.aload_n 1, 1) := by decide +kernel
theorem dX2_copyFrom_9 : decode cX2_copyFrom 9 = .ok (.getfield 25, 3) := by decide +kernel
theorem dX2_copyFrom_12 : decode cX2_copyFrom 12 = .ok (.if_icmp .ge 38, 3) := by decide +kernel
theorem dX2_copyFrom_15 : decode cX2_copyFrom 15 = .ok (.iload_n 2, 1) := by decide +kernel
theorem dX2_copyFrom_16 : decode cX2_copyFrom 16 = .ok (.bipush 6, 2) := by decide +kernel
theorem dX2_copyFrom_18 : decode cX2_copyFrom 18 = .ok (.if_icmp .ge 32, 3) := by decide +kernel
theorem dX2_copyFrom_21 : decode cX2_copyFrom 21 = .ok (.aload_n 0, 1) := by decide +kernel
theorem dX2_copyFrom_22 : decode cX2_copyFrom 22 = .ok (.aload_n 1, 1) := by decide +kernel
theorem dX2_copyFrom_23 : decode cX2_copyFrom 23 = .ok (.getfield 9, 3) := by decide +kernel
theorem dX2_copyFrom_26 : decode cX2_copyFrom 26 = .ok (.iload_n 2, 1) := by decide +kernel
theorem dX2_copyFrom_27 : decode cX2_copyFrom 27 = .ok (.iaload, 1) := by decide +kernel
theorem dX2_copyFrom_28 : decode cX2_copyFrom 28 = .ok (.aload_n 1, 1) := by decide +kernel
theorem dX2_copyFrom_29 : decode cX2_copyFrom 29 = .ok (.getfield 15, 3) := by decide +kernel
theorem dX2_copyFrom_32 : decode cX2_copyFrom 32 = .ok (.iload_n 2, 1) := by decide +kernel
theorem dX2_copyFrom_33 : decode cX2_copyFrom 33 = .ok (.iaload, 1) := by decide +kernel
theorem dX2_copyFrom_34 : decode cX2_copyFrom 34 = .ok (.aload_n 1, 1) := by decide +kernel
theorem dX2_copyFrom_35 : decode cX2_copyFrom 35 = .ok (.getfield 18, 3) := by decide +kernel
theorem dX2_copyFrom_38 : decode cX2_copyFrom 38 = .ok (.iload_n 2, 1) := by decide +kernel
theorem dX2_copyFrom_39 : decode cX2_copyFrom 39 = .ok (.iaload, 1) := by decide +kernel
theorem dX2_copyFrom_40 : decode cX2_copyFrom 40 = .ok (.invokevirtual 29, 3) := by decide +kernel
theorem dX2_copyFrom_43 : decode cX2_copyFrom 43 = .ok (.pop, 1) := by decide +kernel
theorem dX2_copyFrom_44 : decode cX2_copyFrom 44 = .ok (.iinc 2 1, 3) := by decide +kernel
theorem dX2_copyFrom_47 : decode cX2_copyFrom 47 = .ok (.goto (-40), 3) := by decide +kernel
theorem dX2_copyFrom_50 : decode cX2_copyFrom 50 = .ok (.return_, 1) := by decide +kernel
theorem dX2_sortsOf_0 : decode cX2_sortsOf 0 = .ok (.iconst 0, 1) := by decide +kernel
theorem dX2_sortsOf_1 : decode cX2_sortsOf 1 = .ok (.istore_n 3, 1) := by decide +kernel
theorem dX2_sortsOf_2 : decode cX2_sortsOf 2 = .ok (.iconst 0, 1) := by decide +kernel
theorem dX2_sortsOf_3 : decode cX2_sortsOf 3 = .ok (.istore 4, 2) := by decide +kernel
theorem dX2_sortsOf_5 : decode cX2_sortsOf 5 = .ok (.iload 4, 2) := by decide +kernel
theorem dX2_sortsOf_7 : decode cX2_sortsOf 7 = .ok (.iconst 5, 1) := by decide +kernel
theorem dX2_sortsOf_8 : decode cX2_sortsOf 8 = .ok (.if_icmp .ge 27, 3) := by decide +kernel
theorem dX2_sortsOf_11 : decode cX2_sortsOf 11 = .ok (.aload_n 0, 1) := by decide +kernel
theorem dX2_sortsOf_12 : decode cX2_sortsOf 12 = .ok (.iload 4, 2) := by decide +kernel
theorem dX2_sortsOf_14 : decode cX2_sortsOf 14 = .ok (.iload_n 1, 1) := by decide +kernel
theorem dX2_sortsOf_15 : decode cX2_sortsOf 15 = .ok (.aload_n 2, 1) := by decide +kernel
theorem dX2_sortsOf_16 : decode cX2_sortsOf 16 = .ok (.invokevirtual 33, 3) := by decide +kernel
theorem dX2_sortsOf_19 : decode cX2_sortsOf 19 = .ok (.ifCond .eq 10, 3) := by decide +kernel
theorem dX2_sortsOf_22 : decode cX2_sortsOf 22 = .ok (.iload_n 3, 1) := by decide +kernel
theorem dX2_sortsOf_23 : decode cX2_sortsOf 23 = .ok (.iconst 1, 1) := by decide +kernel
theorem dX2_sortsOf_24 : decode cX2_sortsOf 24 = .ok (.iload 4, 2) := by decide +kernel
theorem dX2_sortsOf_26 : decode cX2_sortsOf 26 = .ok (.ishl, 1) := by decide +kernel
theorem dX2_sortsOf_27 : decode cX2_sortsOf 27 = .ok (.ior, 1) := by decide +kernel
theorem dX2_sortsOf_28 : decode cX2_sortsOf 28 = .ok (.istore_n 3, 1) := by decide +kernel
theorem dX2_sortsOf_29 : decode cX2_sortsOf 29 = .ok (.iinc 4 1, 3) := by decide +kernel
theorem dX2_sortsOf_32 : decode cX2_sortsOf 32 = .ok (.goto (-27), 3) := by decide +kernel
theorem dX2_sortsOf_35 : decode cX2_sortsOf 35 = .ok (.iload_n 3, 1) := by decide +kernel
theorem dX2_sortsOf_36 : decode cX2_sortsOf 36 = .ok (.ireturn, 1) := by decide +kernel
theorem dX2_nextToAsk_0 : decode cX2_nextToAsk 0 = .ok (.aload_n 0, 1) := by decide +kernel
theorem dX2_nextToAsk_1 : decode cX2_nextToAsk 1 = .ok (.iload_n 1, 1) := by decide +kernel
theorem dX2_nextToAsk_2 : decode cX2_nextToAsk 2 = .ok (.aload_n 2, 1) := by decide +kernel
theorem dX2_nextToAsk_3 : decode cX2_nextToAsk 3 = .ok (.invokevirtual 37, 3) := by decide +kernel
theorem dX2_nextToAsk_6 : decode cX2_nextToAsk 6 = .ok (.istore_n 3, 1) := by decide +kernel
theorem dX2_nextToAsk_7 : decode cX2_nextToAsk 7 = .ok (.iconst (-1), 1) := by decide +kernel
theorem dX2_nextToAsk_8 : decode cX2_nextToAsk 8 = .ok (.istore 4, 2) := by decide +kernel
theorem dX2_nextToAsk_10 : decode cX2_nextToAsk 10 = .ok (.bipush 6, 2) := by decide +kernel
theorem dX2_nextToAsk_12 : decode cX2_nextToAsk 12 = .ok (.istore 5, 2) := by decide +kernel
theorem dX2_nextToAsk_14 : decode cX2_nextToAsk 14 = .ok (.aload_n 2, 1) := by decide +kernel
theorem dX2_nextToAsk_15 : decode cX2_nextToAsk 15 = .ok (.getfield 41, 3) := by decide +kernel
theorem dX2_nextToAsk_18 : decode cX2_nextToAsk 18 = .ok (.istore 6, 2) := by decide +kernel
theorem dX2_nextToAsk_20 : decode cX2_nextToAsk 20 = .ok (.iload_n 3, 1) := by decide +kernel
theorem dX2_nextToAsk_21 : decode cX2_nextToAsk 21 = .ok (.ifCond .eq 43, 3) := by decide +kernel
theorem dX2_nextToAsk_24 : decode cX2_nextToAsk 24 = .ok (.iload 6, 2) := by decide +kernel
theorem dX2_nextToAsk_26 : decode cX2_nextToAsk 26 = .ok (.aload_n 2, 1) := by decide +kernel
theorem dX2_nextToAsk_27 : decode cX2_nextToAsk 27 = .ok (.getfield 46, 3) := by decide +kernel
theorem dX2_nextToAsk_30 : decode cX2_nextToAsk 30 = .ok (.if_icmp .gt 34, 3) := by decide +kernel
theorem dX2_nextToAsk_33 : decode cX2_nextToAsk 33 = .ok (.aload_n 0, 1) := by decide +kernel
theorem dX2_nextToAsk_34 : decode cX2_nextToAsk 34 = .ok (.iload_n 3, 1) := by decide +kernel
theorem dX2_nextToAsk_35 : decode cX2_nextToAsk 35 = .ok (.aload_n 2, 1) := by decide +kernel
theorem dX2_nextToAsk_36 : decode cX2_nextToAsk 36 = .ok (.iload 6, 2) := by decide +kernel
theorem dX2_nextToAsk_38 : decode cX2_nextToAsk 38 = .ok (.invokevirtual 49, 3) := by decide +kernel
theorem dX2_nextToAsk_41 : decode cX2_nextToAsk 41 = .ok (.istore 7, 2) := by decide +kernel
theorem dX2_nextToAsk_43 : decode cX2_nextToAsk 43 = .ok (.iload 7, 2) := by decide +kernel
theorem dX2_nextToAsk_45 : decode cX2_nextToAsk 45 = .ok (.iload 5, 2) := by decide +kernel
theorem dX2_nextToAsk_47 : decode cX2_nextToAsk 47 = .ok (.if_icmp .ge 11, 3) := by decide +kernel
theorem dX2_nextToAsk_50 : decode cX2_nextToAsk 50 = .ok (.iload 7, 2) := by decide +kernel
theorem dX2_nextToAsk_52 : decode cX2_nextToAsk 52 = .ok (.istore 5, 2) := by decide +kernel
theorem dX2_nextToAsk_54 : decode cX2_nextToAsk 54 = .ok (.iload 6, 2) := by decide +kernel
theorem dX2_nextToAsk_56 : decode cX2_nextToAsk 56 = .ok (.istore 4, 2) := by decide +kernel
theorem dX2_nextToAsk_58 : decode cX2_nextToAsk 58 = .ok (.iinc 6 1, 3) := by decide +kernel
theorem dX2_nextToAsk_61 : decode cX2_nextToAsk 61 = .ok (.goto (-41), 3) := by decide +kernel
theorem dX2_nextToAsk_64 : decode cX2_nextToAsk 64 = .ok (.iload 4, 2) := by decide +kernel
theorem dX2_nextToAsk_66 : decode cX2_nextToAsk 66 = .ok (.ireturn, 1) := by decide +kernel
theorem dX2_canBe_0 : decode cX2_canBe 0 = .ok (.iconst 0, 1) := by decide +kernel
theorem dX2_canBe_1 : decode cX2_canBe 1 = .ok (.istore 4, 2) := by decide +kernel
theorem dX2_canBe_3 : decode cX2_canBe 3 = .ok (.iload 4, 2) := by decide +kernel
theorem dX2_canBe_5 : decode cX2_canBe 5 = .ok (.aload_n 0, 1) := by decide +kernel
theorem dX2_canBe_6 : decode cX2_canBe 6 = .ok (.getfield 25, 3) := by decide +kernel
theorem dX2_canBe_9 : decode cX2_canBe 9 = .ok (.if_icmp .ge 53, 3) := by decide +kernel
theorem dX2_canBe_12 : decode cX2_canBe 12 = .ok (.iload 4, 2) := by decide +kernel
theorem dX2_canBe_14 : decode cX2_canBe 14 = .ok (.bipush 6, 2) := by decide +kernel
theorem dX2_canBe_16 : decode cX2_canBe 16 = .ok (.if_icmp .ge 46, 3) := by decide +kernel
theorem dX2_canBe_19 : decode cX2_canBe 19 = .ok (.aload_n 0, 1) := by decide +kernel
theorem dX2_canBe_20 : decode cX2_canBe 20 = .ok (.getfield 9, 3) := by decide +kernel
theorem dX2_canBe_23 : decode cX2_canBe 23 = .ok (.iload 4, 2) := by decide +kernel
theorem dX2_canBe_25 : decode cX2_canBe 25 = .ok (.iaload, 1) := by decide +kernel
theorem dX2_canBe_26 : decode cX2_canBe 26 = .ok (.iload_n 2, 1) := by decide +kernel
theorem dX2_canBe_27 : decode cX2_canBe 27 = .ok (.if_icmp .ne 29, 3) := by decide +kernel
theorem dX2_canBe_30 : decode cX2_canBe 30 = .ok (.aload_n 3, 1) := by decide +kernel
theorem dX2_canBe_31 : decode cX2_canBe 31 = .ok (.iload_n 1, 1) := by decide +kernel
theorem dX2_canBe_32 : decode cX2_canBe 32 = .ok (.aload_n 0, 1) := by decide +kernel
theorem dX2_canBe_33 : decode cX2_canBe 33 = .ok (.getfield 15, 3) := by decide +kernel
theorem dX2_canBe_36 : decode cX2_canBe 36 = .ok (.iload 4, 2) := by decide +kernel
theorem dX2_canBe_38 : decode cX2_canBe 38 = .ok (.iaload, 1) := by decide +kernel
theorem dX2_canBe_39 : decode cX2_canBe 39 = .ok (.invokevirtual 53, 3) := by decide +kernel
theorem dX2_canBe_42 : decode cX2_canBe 42 = .ok (.aload_n 0, 1) := by decide +kernel
theorem dX2_canBe_43 : decode cX2_canBe 43 = .ok (.getfield 18, 3) := by decide +kernel
theorem dX2_canBe_46 : decode cX2_canBe 46 = .ok (.iload 4, 2) := by decide +kernel
theorem dX2_canBe_48 : decode cX2_canBe 48 = .ok (.iaload, 1) := by decide +kernel
theorem dX2_canBe_49 : decode cX2_canBe 49 = .ok (.i2l, 1) := by decide +kernel
theorem dX2_canBe_50 : decode cX2_canBe 50 = .ok (.lcmp, 1) := by decide +kernel
theorem dX2_canBe_51 : decode cX2_canBe 51 = .ok (.ifCond .eq 5, 3) := by decide +kernel
theorem dX2_canBe_54 : decode cX2_canBe 54 = .ok (.iconst 0, 1) := by decide +kernel
theorem dX2_canBe_55 : decode cX2_canBe 55 = .ok (.ireturn, 1) := by decide +kernel
theorem dX2_canBe_56 : decode cX2_canBe 56 = .ok (.iinc 4 1, 3) := by decide +kernel
theorem dX2_canBe_59 : decode cX2_canBe 59 = .ok (.goto (-56), 3) := by decide +kernel
theorem dX2_canBe_62 : decode cX2_canBe 62 = .ok (.iconst 1, 1) := by decide +kernel
theorem dX2_canBe_63 : decode cX2_canBe 63 = .ok (.ireturn, 1) := by decide +kernel
theorem dX2_leftAtWorst_0 : decode cX2_leftAtWorst 0 = .ok (.iconst 0, 1) := by decide +kernel
theorem dX2_leftAtWorst_1 : decode cX2_leftAtWorst 1 = .ok (.istore 4, 2) := by decide +kernel
theorem dX2_leftAtWorst_3 : decode cX2_leftAtWorst 3 = .ok (.iconst 0, 1) := by decide +kernel
theorem dX2_leftAtWorst_4 : decode cX2_leftAtWorst 4 = .ok (.istore 5, 2) := by decide +kernel
theorem dX2_leftAtWorst_6 : decode cX2_leftAtWorst 6 = .ok (.iload 5, 2) := by decide +kernel
theorem dX2_leftAtWorst_8 : decode cX2_leftAtWorst 8 = .ok (.iconst 5, 1) := by decide +kernel
theorem dX2_leftAtWorst_9 : decode cX2_leftAtWorst 9 = .ok (.if_icmp .ge 92, 3) := by decide +kernel
theorem dX2_leftAtWorst_12 : decode cX2_leftAtWorst 12 = .ok (.aload_n 0, 1) := by decide +kernel
theorem dX2_leftAtWorst_13 : decode cX2_leftAtWorst 13 = .ok (.getfield 21, 3) := by decide +kernel
theorem dX2_leftAtWorst_16 : decode cX2_leftAtWorst 16 = .ok (.iload 5, 2) := by decide +kernel
theorem dX2_leftAtWorst_18 : decode cX2_leftAtWorst 18 = .ok (.aload_n 2, 1) := by decide +kernel
theorem dX2_leftAtWorst_19 : decode cX2_leftAtWorst 19 = .ok (.iload 5, 2) := by decide +kernel
theorem dX2_leftAtWorst_21 : decode cX2_leftAtWorst 21 = .ok (.iload_n 3, 1) := by decide +kernel
theorem dX2_leftAtWorst_22 : decode cX2_leftAtWorst 22 = .ok (.invokevirtual 53, 3) := by decide +kernel
theorem dX2_leftAtWorst_25 : decode cX2_leftAtWorst 25 = .ok (.lastore, 1) := by decide +kernel
theorem dX2_leftAtWorst_26 : decode cX2_leftAtWorst 26 = .ok (.iconst 0, 1) := by decide +kernel
theorem dX2_leftAtWorst_27 : decode cX2_leftAtWorst 27 = .ok (.istore 6, 2) := by decide +kernel
theorem dX2_leftAtWorst_29 : decode cX2_leftAtWorst 29 = .ok (.iconst 0, 1) := by decide +kernel
theorem dX2_leftAtWorst_30 : decode cX2_leftAtWorst 30 = .ok (.istore 7, 2) := by decide +kernel
theorem dX2_leftAtWorst_32 : decode cX2_leftAtWorst 32 = .ok (.iload 7, 2) := by decide +kernel
theorem dX2_leftAtWorst_34 : decode cX2_leftAtWorst 34 = .ok (.iload 5, 2) := by decide +kernel
theorem dX2_leftAtWorst_36 : decode cX2_leftAtWorst 36 = .ok (.if_icmp .gt 40, 3) := by decide +kernel
theorem dX2_leftAtWorst_39 : decode cX2_leftAtWorst 39 = .ok (.iload_n 1, 1) := by decide +kernel
theorem dX2_leftAtWorst_40 : decode cX2_leftAtWorst 40 = .ok (.iload 7, 2) := by decide +kernel
theorem dX2_leftAtWorst_42 : decode cX2_leftAtWorst 42 = .ok (.ishr, 1) := by decide +kernel
theorem dX2_leftAtWorst_43 : decode cX2_leftAtWorst 43 = .ok (.iconst 1, 1) := by decide +kernel
theorem dX2_leftAtWorst_44 : decode cX2_leftAtWorst 44 = .ok (.iand, 1) := by decide +kernel
theorem dX2_leftAtWorst_45 : decode cX2_leftAtWorst 45 = .ok (.iconst 1, 1) := by decide +kernel
theorem dX2_leftAtWorst_46 : decode cX2_leftAtWorst 46 = .ok (.if_icmp .ne 24, 3) := by decide +kernel
theorem dX2_leftAtWorst_49 : decode cX2_leftAtWorst 49 = .ok (.aload_n 0, 1) := by decide +kernel
theorem dX2_leftAtWorst_50 : decode cX2_leftAtWorst 50 = .ok (.getfield 21, 3) := by decide +kernel
theorem dX2_leftAtWorst_53 : decode cX2_leftAtWorst 53 = .ok (.iload 7, 2) := by decide +kernel
theorem dX2_leftAtWorst_55 : decode cX2_leftAtWorst 55 = .ok (.laload, 1) := by decide +kernel
theorem dX2_leftAtWorst_56 : decode cX2_leftAtWorst 56 = .ok (.aload_n 0, 1) := by decide +kernel
theorem dX2_leftAtWorst_57 : decode cX2_leftAtWorst 57 = .ok (.getfield 21, 3) := by decide +kernel
theorem dX2_leftAtWorst_60 : decode cX2_leftAtWorst 60 = .ok (.iload 5, 2) := by decide +kernel
theorem dX2_leftAtWorst_62 : decode cX2_leftAtWorst 62 = .ok (.laload, 1) := by decide +kernel
theorem dX2_leftAtWorst_63 : decode cX2_leftAtWorst 63 = .ok (.lcmp, 1) := by decide +kernel
theorem dX2_leftAtWorst_64 : decode cX2_leftAtWorst 64 = .ok (.ifCond .ne 6, 3) := by decide +kernel
theorem dX2_leftAtWorst_67 : decode cX2_leftAtWorst 67 = .ok (.iinc 6 1, 3) := by decide +kernel
theorem dX2_leftAtWorst_70 : decode cX2_leftAtWorst 70 = .ok (.iinc 7 1, 3) := by decide +kernel
theorem dX2_leftAtWorst_73 : decode cX2_leftAtWorst 73 = .ok (.goto (-41), 3) := by decide +kernel
theorem dX2_leftAtWorst_76 : decode cX2_leftAtWorst 76 = .ok (.iload_n 1, 1) := by decide +kernel
theorem dX2_leftAtWorst_77 : decode cX2_leftAtWorst 77 = .ok (.iload 5, 2) := by decide +kernel
theorem dX2_leftAtWorst_79 : decode cX2_leftAtWorst 79 = .ok (.ishr, 1) := by decide +kernel
theorem dX2_leftAtWorst_80 : decode cX2_leftAtWorst 80 = .ok (.iconst 1, 1) := by decide +kernel
theorem dX2_leftAtWorst_81 : decode cX2_leftAtWorst 81 = .ok (.iand, 1) := by decide +kernel
theorem dX2_leftAtWorst_82 : decode cX2_leftAtWorst 82 = .ok (.iconst 1, 1) := by decide +kernel
theorem dX2_leftAtWorst_83 : decode cX2_leftAtWorst 83 = .ok (.if_icmp .ne 12, 3) := by decide +kernel
theorem dX2_leftAtWorst_86 : decode cX2_leftAtWorst 86 = .ok (.iload 4, 2) := by decide +kernel
theorem dX2_leftAtWorst_88 : decode cX2_leftAtWorst 88 = .ok (.iload 6, 2) := by decide +kernel
theorem dX2_leftAtWorst_90 : decode cX2_leftAtWorst 90 = .ok (.invokestatic 57, 3) := by decide +kernel
theorem dX2_leftAtWorst_93 : decode cX2_leftAtWorst 93 = .ok (.istore 4, 2) := by decide +kernel
theorem dX2_leftAtWorst_95 : decode cX2_leftAtWorst 95 = .ok (.iinc 5 1, 3) := by decide +kernel
theorem dX2_leftAtWorst_98 : decode cX2_leftAtWorst 98 = .ok (.goto (-92), 3) := by decide +kernel
theorem dX2_leftAtWorst_101 : decode cX2_leftAtWorst 101 = .ok (.iload 4, 2) := by decide +kernel
theorem dX2_leftAtWorst_103 : decode cX2_leftAtWorst 103 = .ok (.ireturn, 1) := by decide +kernel
theorem dX3_init_0 : decode cX3_init 0 = .ok (.aload_n 0, 1) := by decide +kernel
theorem dX3_init_1 : decode cX3_init 1 = .ok (.invokespecial 3, 3) := by decide +kernel
theorem dX3_init_4 : decode cX3_init 4 = .ok (.return_, 1) := by decide +kernel
theorem dX3_write_0 : decode cX3_write 0 = .ok (.aload_n 0, 1) := by decide +kernel
theorem dX3_write_1 : decode cX3_write 1 = .ok (.iload_n 1, 1) := by decide +kernel
theorem dX3_write_2 : decode cX3_write 2 = .ok (.putfield 9, 3) := by decide +kernel
theorem dX3_write_5 : decode cX3_write 5 = .ok (.aload_n 0, 1) := by decide +kernel
theorem dX3_write_6 : decode cX3_write 6 = .ok (.iload_n 2, 1) := by decide +kernel
theorem dX3_write_7 : decode cX3_write 7 = .ok (.putfield 15, 3) := by decide +kernel
theorem dX3_write_10 : decode cX3_write 10 = .ok (.aload_n 0, 1) := by decide +kernel
theorem dX3_write_11 : decode cX3_write 11 = .ok (.iload_n 3, 1) := by decide +kernel
theorem dX3_write_12 : decode cX3_write 12 = .ok (.putfield 18, 3) := by decide +kernel
theorem dX3_write_15 : decode cX3_write 15 = .ok (.aload_n 0, 1) := by decide +kernel
theorem dX3_write_16 : decode cX3_write 16 = .ok (.iload 4, 2) := by decide +kernel
theorem dX3_write_18 : decode cX3_write 18 = .ok (.putfield 21, 3) := by decide +kernel
theorem dX3_write_21 : decode cX3_write 21 = .ok (.aload_n 0, 1) := by decide +kernel
theorem dX3_write_22 : decode cX3_write 22 = .ok (.iload 5, 2) := by decide +kernel
theorem dX3_write_24 : decode cX3_write 24 = .ok (.putfield 24, 3) := by decide +kernel
theorem dX3_write_27 : decode cX3_write 27 = .ok (.return_, 1) := by decide +kernel
theorem dX3_copyFrom_0 : decode cX3_copyFrom 0 = .ok (.aload_n 0, 1) := by decide +kernel
theorem dX3_copyFrom_1 : decode cX3_copyFrom 1 = .ok (.aload_n 1, 1) := by decide +kernel
theorem dX3_copyFrom_2 : decode cX3_copyFrom 2 = .ok (.getfield 9, 3) := by decide +kernel
theorem dX3_copyFrom_5 : decode cX3_copyFrom 5 = .ok (.aload_n 1, 1) := by decide +kernel
theorem dX3_copyFrom_6 : decode cX3_copyFrom 6 = .ok (.getfield 15, 3) := by decide +kernel
theorem dX3_copyFrom_9 : decode cX3_copyFrom 9 = .ok (.aload_n 1, 1) := by decide +kernel
theorem dX3_copyFrom_10 : decode cX3_copyFrom 10 = .ok (.getfield 18, 3) := by decide +kernel
theorem dX3_copyFrom_13 : decode cX3_copyFrom 13 = .ok (.aload_n 1, 1) := by decide +kernel
theorem dX3_copyFrom_14 : decode cX3_copyFrom 14 = .ok (.getfield 21, 3) := by decide +kernel
theorem dX3_copyFrom_17 : decode cX3_copyFrom 17 = .ok (.aload_n 1, 1) := by decide +kernel
theorem dX3_copyFrom_18 : decode cX3_copyFrom 18 = .ok (.getfield 24, 3) := by decide +kernel
theorem dX3_copyFrom_21 : decode cX3_copyFrom 21 = .ok (.invokevirtual 27, 3) := by decide +kernel
theorem dX3_copyFrom_24 : decode cX3_copyFrom 24 = .ok (.return_, 1) := by decide +kernel
theorem dX3_spans_0 : decode cX3_spans 0 = .ok (.aload_n 0, 1) := by decide +kernel
theorem dX3_spans_1 : decode cX3_spans 1 = .ok (.getfield 21, 3) := by decide +kernel
theorem dX3_spans_4 : decode cX3_spans 4 = .ok (.iload_n 1, 1) := by decide +kernel
theorem dX3_spans_5 : decode cX3_spans 5 = .ok (.if_icmp .gt 15, 3) := by decide +kernel
theorem dX3_spans_8 : decode cX3_spans 8 = .ok (.iload_n 1, 1) := by decide +kernel
theorem dX3_spans_9 : decode cX3_spans 9 = .ok (.aload_n 0, 1) := by decide +kernel
theorem dX3_spans_10 : decode cX3_spans 10 = .ok (.getfield 24, 3) := by decide +kernel
theorem dX3_spans_13 : decode cX3_spans 13 = .ok (.if_icmp .gt 7, 3) := by decide +kernel
theorem dX3_spans_16 : decode cX3_spans 16 = .ok (.iconst 1, 1) := by decide +kernel
theorem dX3_spans_17 : decode cX3_spans 17 = .ok (.goto 4, 3) := by decide +kernel
theorem dX3_spans_20 : decode cX3_spans 20 = .ok (.iconst 0, 1) := by decide +kernel
theorem dX3_spans_21 : decode cX3_spans 21 = .ok (.ireturn, 1) := by decide +kernel
theorem dX3_isOf_0 : decode cX3_isOf 0 = .ok (.iload_n 1, 1) := by decide +kernel
theorem dX3_isOf_1 : decode cX3_isOf 1 = .ok (.ifCond .eq 24, 3) := by decide +kernel
theorem dX3_isOf_4 : decode cX3_isOf 4 = .ok (.iload_n 1, 1) := by decide +kernel
theorem dX3_isOf_5 : decode cX3_isOf 5 = .ok (.aload_n 0, 1) := by decide +kernel
theorem dX3_isOf_6 : decode cX3_isOf 6 = .ok (.getfield 9, 3) := by decide +kernel
theorem dX3_isOf_9 : decode cX3_isOf 9 = .ok (.if_icmp .eq 16, 3) := by decide +kernel
theorem dX3_isOf_12 : decode cX3_isOf 12 = .ok (.iload_n 1, 1) := by decide +kernel
theorem dX3_isOf_13 : decode cX3_isOf 13 = .ok (.iconst 3, 1) := by decide +kernel
theorem dX3_isOf_14 : decode cX3_isOf 14 = .ok (.if_icmp .ne 15, 3) := by decide +kernel
theorem dX3_isOf_17 : decode cX3_isOf 17 = .ok (.aload_n 0, 1) := by decide +kernel
theorem dX3_isOf_18 : decode cX3_isOf 18 = .ok (.getfield 9, 3) := by decide +kernel
theorem dX3_isOf_21 : decode cX3_isOf 21 = .ok (.iconst 4, 1) := by decide +kernel
theorem dX3_isOf_22 : decode cX3_isOf 22 = .ok (.if_icmp .ne 7, 3) := by decide +kernel
theorem dX3_isOf_25 : decode cX3_isOf 25 = .ok (.iconst 1, 1) := by decide +kernel
theorem dX3_isOf_26 : decode cX3_isOf 26 = .ok (.goto 4, 3) := by decide +kernel
theorem dX3_isOf_29 : decode cX3_isOf 29 = .ok (.iconst 0, 1) := by decide +kernel
theorem dX3_isOf_30 : decode cX3_isOf 30 = .ok (.ireturn, 1) := by decide +kernel
theorem dX3_priceFor_0 : decode cX3_priceFor 0 = .ok (.aload_n 0, 1) := by decide +kernel
theorem dX3_priceFor_1 : decode cX3_priceFor 1 = .ok (.aload_n 0, 1) := by decide +kernel
theorem dX3_priceFor_2 : decode cX3_priceFor 2 = .ok (.getfield 9, 3) := by decide +kernel
theorem dX3_priceFor_5 : decode cX3_priceFor 5 = .ok (.iload_n 1, 1) := by decide +kernel
theorem dX3_priceFor_6 : decode cX3_priceFor 6 = .ok (.invokevirtual 31, 3) := by decide +kernel
theorem dX3_priceFor_9 : decode cX3_priceFor 9 = .ok (.aload_n 0, 1) := by decide +kernel
theorem dX3_priceFor_10 : decode cX3_priceFor 10 = .ok (.aload_n 0, 1) := by decide +kernel
theorem dX3_priceFor_11 : decode cX3_priceFor 11 = .ok (.getfield 9, 3) := by decide +kernel
theorem dX3_priceFor_14 : decode cX3_priceFor 14 = .ok (.invokevirtual 35, 3) := by decide +kernel
theorem dX3_priceFor_17 : decode cX3_priceFor 17 = .ok (.i2l, 1) := by decide +kernel
theorem dX3_priceFor_18 : decode cX3_priceFor 18 = .ok (.ladd, 1) := by decide +kernel
theorem dX3_priceFor_19 : decode cX3_priceFor 19 = .ok (.lreturn, 1) := by decide +kernel
theorem dX3_priceAs_0 : decode cX3_priceAs 0 = .ok (.aload_n 0, 1) := by decide +kernel
theorem dX3_priceAs_1 : decode cX3_priceAs 1 = .ok (.iload_n 1, 1) := by decide +kernel
theorem dX3_priceAs_2 : decode cX3_priceAs 2 = .ok (.iload_n 2, 1) := by decide +kernel
theorem dX3_priceAs_3 : decode cX3_priceAs 3 = .ok (.invokevirtual 31, 3) := by decide +kernel
theorem dX3_priceAs_6 : decode cX3_priceAs 6 = .ok (.aload_n 0, 1) := by decide +kernel
theorem dX3_priceAs_7 : decode cX3_priceAs 7 = .ok (.iload_n 1, 1) := by decide +kernel
theorem dX3_priceAs_8 : decode cX3_priceAs 8 = .ok (.invokevirtual 35, 3) := by decide +kernel
theorem dX3_priceAs_11 : decode cX3_priceAs 11 = .ok (.i2l, 1) := by decide +kernel
theorem dX3_priceAs_12 : decode cX3_priceAs 12 = .ok (.ladd, 1) := by decide +kernel
theorem dX3_priceAs_13 : decode cX3_priceAs 13 = .ok (.lreturn, 1) := by decide +kernel
theorem dX3_byBase_0 : decode cX3_byBase 0 = .ok (.iload_n 1, 1) := by decide +kernel
theorem dX3_byBase_1 : decode cX3_byBase 1 = .ok (.iconst 4, 1) := by decide +kernel
theorem dX3_byBase_2 : decode cX3_byBase 2 = .ok (.if_icmp .ne 14, 3) := by decide +kernel
theorem dX3_byBase_5 : decode cX3_byBase 5 = .ok (.aload_n 0, 1) := by decide +kernel
theorem dX3_byBase_6 : decode cX3_byBase 6 = .ok (.getfield 18, 3) := by decide +kernel
theorem dX3_byBase_9 : decode cX3_byBase 9 = .ok (.iconst 2, 1) := by decide +kernel
theorem dX3_byBase_10 : decode cX3_byBase 10 = .ok (.invokestatic 39, 3) := by decide +kernel
theorem dX3_byBase_13 : decode cX3_byBase 13 = .ok (.goto 7, 3) := by decide +kernel
theorem dX3_byBase_16 : decode cX3_byBase 16 = .ok (.aload_n 0, 1) := by decide +kernel
theorem dX3_byBase_17 : decode cX3_byBase 17 = .ok (.getfield 18, 3) := by decide +kernel
theorem dX3_byBase_20 : decode cX3_byBase 20 = .ok (.ireturn, 1) := by decide +kernel
theorem dX3_byRate_0 : decode cX3_byRate 0 = .ok (.iload_n 1, 1) := by decide +kernel
theorem dX3_byRate_1 : decode cX3_byRate 1 = .ok (.tableswitch 60 1 4 #[31, 33, 46, 46], 31) := by decide +kernel
theorem dX3_byRate_32 : decode cX3_byRate 32 = .ok (.lconst 0, 1) := by decide +kernel
theorem dX3_byRate_33 : decode cX3_byRate 33 = .ok (.lreturn, 1) := by decide +kernel
theorem dX3_byRate_34 : decode cX3_byRate 34 = .ok (.ldc2_w 45, 3) := by decide +kernel
theorem dX3_byRate_37 : decode cX3_byRate 37 = .ok (.aload_n 0, 1) := by decide +kernel
theorem dX3_byRate_38 : decode cX3_byRate 38 = .ok (.getfield 15, 3) := by decide +kernel
theorem dX3_byRate_41 : decode cX3_byRate 41 = .ok (.i2l, 1) := by decide +kernel
theorem dX3_byRate_42 : decode cX3_byRate 42 = .ok (.lmul, 1) := by decide +kernel
theorem dX3_byRate_43 : decode cX3_byRate 43 = .ok (.iload_n 2, 1) := by decide +kernel
theorem dX3_byRate_44 : decode cX3_byRate 44 = .ok (.i2l, 1) := by decide +kernel
theorem dX3_byRate_45 : decode cX3_byRate 45 = .ok (.lmul, 1) := by decide +kernel
theorem dX3_byRate_46 : decode cX3_byRate 46 = .ok (.lreturn, 1) := by decide +kernel
theorem dX3_byRate_47 : decode cX3_byRate 47 = .ok (.aload_n 0, 1) := by decide +kernel
theorem dX3_byRate_48 : decode cX3_byRate 48 = .ok (.getfield 15, 3) := by decide +kernel
theorem dX3_byRate_51 : decode cX3_byRate 51 = .ok (.i2l, 1) := by decide +kernel
theorem dX3_byRate_52 : decode cX3_byRate 52 = .ok (.iload_n 2, 1) := by decide +kernel
theorem dX3_byRate_53 : decode cX3_byRate 53 = .ok (.aload_n 0, 1) := by decide +kernel
theorem dX3_byRate_54 : decode cX3_byRate 54 = .ok (.getfield 21, 3) := by decide +kernel
theorem dX3_byRate_57 : decode cX3_byRate 57 = .ok (.isub, 1) := by decide +kernel
theorem dX3_byRate_58 : decode cX3_byRate 58 = .ok (.i2l, 1) := by decide +kernel
theorem dX3_byRate_59 : decode cX3_byRate 59 = .ok (.lmul, 1) := by decide +kernel
theorem dX3_byRate_60 : decode cX3_byRate 60 = .ok (.lreturn, 1) := by decide +kernel
theorem dX3_byRate_61 : decode cX3_byRate 61 = .ok (.aload_n 0, 1) := by decide +kernel
theorem dX3_byRate_62 : decode cX3_byRate 62 = .ok (.getfield 15, 3) := by decide +kernel
theorem dX3_byRate_65 : decode cX3_byRate 65 = .ok (.i2l, 1) := by decide +kernel
theorem dX3_byRate_66 : decode cX3_byRate 66 = .ok (.iload_n 2, 1) := by decide +kernel
theorem dX3_byRate_67 : decode cX3_byRate 67 = .ok (.i2l, 1) := by decide +kernel
theorem dX3_byRate_68 : decode cX3_byRate 68 = .ok (.lmul, 1) := by decide +kernel
theorem dX3_byRate_69 : decode cX3_byRate 69 = .ok (.lreturn, 1) := by decide +kernel
theorem dX3_isTooGreat_0 : decode cX3_isTooGreat 0 = .ok (.aload_n 0, 1) := by decide +kernel
theorem dX3_isTooGreat_1 : decode cX3_isTooGreat 1 = .ok (.getfield 9, 3) := by decide +kernel
theorem dX3_isTooGreat_4 : decode cX3_isTooGreat 4 = .ok (.iconst 2, 1) := by decide +kernel
theorem dX3_isTooGreat_5 : decode cX3_isTooGreat 5 = .ok (.if_icmp .ne 18, 3) := by decide +kernel
theorem dX3_isTooGreat_8 : decode cX3_isTooGreat 8 = .ok (.ldc2_w 45, 3) := by decide +kernel
theorem dX3_isTooGreat_11 : decode cX3_isTooGreat 11 = .ok (.aload_n 0, 1) := by decide +kernel
theorem dX3_isTooGreat_12 : decode cX3_isTooGreat 12 = .ok (.getfield 15, 3) := by decide +kernel
theorem dX3_isTooGreat_15 : decode cX3_isTooGreat 15 = .ok (.i2l, 1) := by decide +kernel
theorem dX3_isTooGreat_16 : decode cX3_isTooGreat 16 = .ok (.lmul, 1) := by decide +kernel
theorem dX3_isTooGreat_17 : decode cX3_isTooGreat 17 = .ok (.invokestatic 47, 3) := by decide +kernel
theorem dX3_isTooGreat_20 : decode cX3_isTooGreat 20 = .ok (.ifCond .eq 7, 3) := by decide +kernel
theorem dX3_isTooGreat_23 : decode cX3_isTooGreat 23 = .ok (.iconst 1, 1) := by decide +kernel
theorem dX3_isTooGreat_24 : decode cX3_isTooGreat 24 = .ok (.goto 4, 3) := by decide +kernel
theorem dX3_isTooGreat_27 : decode cX3_isTooGreat 27 = .ok (.iconst 0, 1) := by decide +kernel
theorem dX3_isTooGreat_28 : decode cX3_isTooGreat 28 = .ok (.istore_n 1, 1) := by decide +kernel
theorem dX3_isTooGreat_29 : decode cX3_isTooGreat 29 = .ok (.iload_n 1, 1) := by decide +kernel
theorem dX3_isTooGreat_30 : decode cX3_isTooGreat 30 = .ok (.ifCond .eq 25, 3) := by decide +kernel
theorem dX3_isTooGreat_33 : decode cX3_isTooGreat 33 = .ok (.aload_n 0, 1) := by decide +kernel
theorem dX3_isTooGreat_34 : decode cX3_isTooGreat 34 = .ok (.aload_n 0, 1) := by decide +kernel
theorem dX3_isTooGreat_35 : decode cX3_isTooGreat 35 = .ok (.getfield 21, 3) := by decide +kernel
theorem dX3_isTooGreat_38 : decode cX3_isTooGreat 38 = .ok (.invokevirtual 51, 3) := by decide +kernel
theorem dX3_isTooGreat_41 : decode cX3_isTooGreat 41 = .ok (.ifCond .eq 14, 3) := by decide +kernel
theorem dX3_isTooGreat_44 : decode cX3_isTooGreat 44 = .ok (.aload_n 0, 1) := by decide +kernel
theorem dX3_isTooGreat_45 : decode cX3_isTooGreat 45 = .ok (.aload_n 0, 1) := by decide +kernel
theorem dX3_isTooGreat_46 : decode cX3_isTooGreat 46 = .ok (.getfield 24, 3) := by decide +kernel
theorem dX3_isTooGreat_49 : decode cX3_isTooGreat 49 = .ok (.invokevirtual 51, 3) := by decide +kernel
theorem dX3_isTooGreat_52 : decode cX3_isTooGreat 52 = .ok (.ifCond .ne 7, 3) := by decide +kernel
theorem dX3_isTooGreat_55 : decode cX3_isTooGreat 55 = .ok (.iconst 1, 1) := by decide +kernel
theorem dX3_isTooGreat_56 : decode cX3_isTooGreat 56 = .ok (.goto 4, 3) := by decide +kernel
theorem dX3_isTooGreat_59 : decode cX3_isTooGreat 59 = .ok (.iconst 0, 1) := by decide +kernel
theorem dX3_isTooGreat_60 : decode cX3_isTooGreat 60 = .ok (.ireturn, 1) := by decide +kernel
theorem dX3_fitsFor_0 : decode cX3_fitsFor 0 = .ok (.aload_n 0, 1) := by decide +kernel
theorem dX3_fitsFor_1 : decode cX3_fitsFor 1 = .ok (.aload_n 0, 1) := by decide +kernel
theorem dX3_fitsFor_2 : decode cX3_fitsFor 2 = .ok (.getfield 9, 3) := by decide +kernel
theorem dX3_fitsFor_5 : decode cX3_fitsFor 5 = .ok (.iload_n 1, 1) := by decide +kernel
theorem dX3_fitsFor_6 : decode cX3_fitsFor 6 = .ok (.invokevirtual 31, 3) := by decide +kernel
theorem dX3_fitsFor_9 : decode cX3_fitsFor 9 = .ok (.invokestatic 47, 3) := by decide +kernel
theorem dX3_fitsFor_12 : decode cX3_fitsFor 12 = .ok (.ifCond .eq 18, 3) := by decide +kernel
theorem dX3_fitsFor_15 : decode cX3_fitsFor 15 = .ok (.aload_n 0, 1) := by decide +kernel
theorem dX3_fitsFor_16 : decode cX3_fitsFor 16 = .ok (.iload_n 1, 1) := by decide +kernel
theorem dX3_fitsFor_17 : decode cX3_fitsFor 17 = .ok (.invokevirtual 55, 3) := by decide +kernel
theorem dX3_fitsFor_20 : decode cX3_fitsFor 20 = .ok (.invokestatic 47, 3) := by decide +kernel
theorem dX3_fitsFor_23 : decode cX3_fitsFor 23 = .ok (.ifCond .eq 7, 3) := by decide +kernel
theorem dX3_fitsFor_26 : decode cX3_fitsFor 26 = .ok (.iconst 1, 1) := by decide +kernel
theorem dX3_fitsFor_27 : decode cX3_fitsFor 27 = .ok (.goto 4, 3) := by decide +kernel
theorem dX3_fitsFor_30 : decode cX3_fitsFor 30 = .ok (.iconst 0, 1) := by decide +kernel
theorem dX3_fitsFor_31 : decode cX3_fitsFor 31 = .ok (.ireturn, 1) := by decide +kernel
theorem dX3_fits_0 : decode cX3_fits 0 = .ok (.lload_n 0, 1) := by decide +kernel
theorem dX3_fits_1 : decode cX3_fits 1 = .ok (.ldc2_w 59, 3) := by decide +kernel
theorem dX3_fits_4 : decode cX3_fits 4 = .ok (.lcmp, 1) := by decide +kernel
theorem dX3_fits_5 : decode cX3_fits 5 = .ok (.ifCond .lt 15, 3) := by decide +kernel
theorem dX3_fits_8 : decode cX3_fits 8 = .ok (.lload_n 0, 1) := by decide +kernel
theorem dX3_fits_9 : decode cX3_fits 9 = .ok (.ldc2_w 61, 3) := by decide +kernel
theorem dX3_fits_12 : decode cX3_fits 12 = .ok (.lcmp, 1) := by decide +kernel
theorem dX3_fits_13 : decode cX3_fits 13 = .ok (.ifCond .gt 7, 3) := by decide +kernel
theorem dX3_fits_16 : decode cX3_fits 16 = .ok (.iconst 1, 1) := by decide +kernel
theorem dX3_fits_17 : decode cX3_fits 17 = .ok (.goto 4, 3) := by decide +kernel
theorem dX3_fits_20 : decode cX3_fits 20 = .ok (.iconst 0, 1) := by decide +kernel
theorem dX3_fits_21 : decode cX3_fits 21 = .ok (.ireturn, 1) := by decide +kernel
theorem dX4_init_0 : decode cX4_init 0 = .ok (.aload_n 0, 1) := by decide +kernel
theorem dX4_init_1 : decode cX4_init 1 = .ok (.invokespecial 1, 3) := by decide +kernel
theorem dX4_init_4 : decode cX4_init 4 = .ok (.aload_n 0, 1) := by decide +kernel
theorem dX4_init_5 : decode cX4_init 5 = .ok (.iload_n 1, 1) := by decide +kernel
theorem dX4_init_6 : decode cX4_init 6 = .ok (.iconst 1, 1) := by decide +kernel
theorem dX4_init_7 : decode cX4_init 7 = .ok (.invokestatic 7, 3) := by decide +kernel
theorem dX4_init_10 : decode cX4_init 10 = .ok (.anewarray 13, 3) := by decide +kernel
theorem dX4_init_13 : decode cX4_init 13 = .ok (.putfield 15, 3) := by decide +kernel
theorem dX4_init_16 : decode cX4_init 16 = .ok (.iconst 0, 1) := by decide +kernel
theorem dX4_init_17 : decode cX4_init 17 = .ok (.istore_n 2, 1) := by decide +kernel
theorem dX4_init_18 : decode cX4_init 18 = .ok (.iload_n 2, 1) := by decide +kernel
theorem dX4_init_19 : decode cX4_init 19 = .ok (.aload_n 0, 1) := by decide +kernel
theorem dX4_init_20 : decode cX4_init 20 = .ok (.getfield 15, 3) := by decide +kernel
theorem dX4_init_23 : decode cX4_init 23 = .ok (.arraylength, 1) := by decide +kernel
theorem dX4_init_24 : decode cX4_init 24 = .ok (.if_icmp .ge 22, 3) := by decide +kernel
theorem dX4_init_27 : decode cX4_init 27 = .ok (.aload_n 0, 1) := by decide +kernel
theorem dX4_init_28 : decode cX4_init 28 = .ok (.getfield 15, 3) := by decide +kernel
theorem dX4_init_31 : decode cX4_init 31 = .ok (.iload_n 2, 1) := by decide +kernel
theorem dX4_init_32 : decode cX4_init 32 = .ok (.new 13, 3) := by decide +kernel
theorem dX4_init_35 : decode cX4_init 35 = .ok (.dup, 1) := by decide +kernel
theorem dX4_init_36 : decode cX4_init 36 = .ok (.invokespecial 21, 3) := by decide +kernel
theorem dX4_init_39 : decode cX4_init 39 = .ok (.aastore, 1) := by decide +kernel
theorem dX4_init_40 : decode cX4_init 40 = .ok (.iinc 2 1, 3) := by decide +kernel
theorem dX4_init_43 : decode cX4_init 43 = .ok (.goto (-25), 3) := by decide +kernel
theorem dX4_init_46 : decode cX4_init 46 = .ok (.return_, 1) := by decide +kernel
theorem dX4_hasNumber_0 : decode cX4_hasNumber 0 = .ok (.iload_n 1, 1) := by decide +kernel
theorem dX4_hasNumber_1 : decode cX4_hasNumber 1 = .ok (.ifCond .lt 15, 3) := by decide +kernel
theorem dX4_hasNumber_4 : decode cX4_hasNumber 4 = .ok (.iload_n 1, 1) := by decide +kernel
theorem dX4_hasNumber_5 : decode cX4_hasNumber 5 = .ok (.aload_n 0, 1) := by decide +kernel
theorem dX4_hasNumber_6 : decode cX4_hasNumber 6 = .ok (.getfield 22, 3) := by decide +kernel
theorem dX4_hasNumber_9 : decode cX4_hasNumber 9 = .ok (.if_icmp .ge 7, 3) := by decide +kernel
theorem dX4_hasNumber_12 : decode cX4_hasNumber 12 = .ok (.iconst 1, 1) := by decide +kernel
theorem dX4_hasNumber_13 : decode cX4_hasNumber 13 = .ok (.goto 4, 3) := by decide +kernel
theorem dX4_hasNumber_16 : decode cX4_hasNumber 16 = .ok (.iconst 0, 1) := by decide +kernel
theorem dX4_hasNumber_17 : decode cX4_hasNumber 17 = .ok (.ireturn, 1) := by decide +kernel
theorem dX4_at_0 : decode cX4_at 0 = .ok (.iload_n 1, 1) := by decide +kernel
theorem dX4_at_1 : decode cX4_at 1 = .ok (.ifCond .lt 21, 3) := by decide +kernel
theorem dX4_at_4 : decode cX4_at 4 = .ok (.iload_n 1, 1) := by decide +kernel
theorem dX4_at_5 : decode cX4_at 5 = .ok (.aload_n 0, 1) := by decide +kernel
theorem dX4_at_6 : decode cX4_at 6 = .ok (.getfield 15, 3) := by decide +kernel
theorem dX4_at_9 : decode cX4_at 9 = .ok (.arraylength, 1) := by decide +kernel
theorem dX4_at_10 : decode cX4_at 10 = .ok (.if_icmp .ge 12, 3) := by decide +kernel
theorem dX4_at_13 : decode cX4_at 13 = .ok (.aload_n 0, 1) := by decide +kernel
theorem dX4_at_14 : decode cX4_at 14 = .ok (.getfield 15, 3) := by decide +kernel
theorem dX4_at_17 : decode cX4_at 17 = .ok (.iload_n 1, 1) := by decide +kernel
theorem dX4_at_18 : decode cX4_at 18 = .ok (.aaload, 1) := by decide +kernel
theorem dX4_at_19 : decode cX4_at 19 = .ok (.goto 9, 3) := by decide +kernel
theorem dX4_at_22 : decode cX4_at 22 = .ok (.aload_n 0, 1) := by decide +kernel
theorem dX4_at_23 : decode cX4_at 23 = .ok (.getfield 15, 3) := by decide +kernel
theorem dX4_at_26 : decode cX4_at 26 = .ok (.iconst 0, 1) := by decide +kernel
theorem dX4_at_27 : decode cX4_at 27 = .ok (.aaload, 1) := by decide +kernel
theorem dX4_at_28 : decode cX4_at 28 = .ok (.areturn, 1) := by decide +kernel
theorem dX4_add_0 : decode cX4_add 0 = .ok (.aload_n 0, 1) := by decide +kernel
theorem dX4_add_1 : decode cX4_add 1 = .ok (.getfield 22, 3) := by decide +kernel
theorem dX4_add_4 : decode cX4_add 4 = .ok (.aload_n 0, 1) := by decide +kernel
theorem dX4_add_5 : decode cX4_add 5 = .ok (.getfield 15, 3) := by decide +kernel
theorem dX4_add_8 : decode cX4_add 8 = .ok (.arraylength, 1) := by decide +kernel
theorem dX4_add_9 : decode cX4_add 9 = .ok (.if_icmp .ge 25, 3) := by decide +kernel
theorem dX4_add_12 : decode cX4_add 12 = .ok (.aload_n 0, 1) := by decide +kernel
theorem dX4_add_13 : decode cX4_add 13 = .ok (.aload_n 0, 1) := by decide +kernel
theorem dX4_add_14 : decode cX4_add 14 = .ok (.getfield 22, 3) := by decide +kernel
theorem dX4_add_17 : decode cX4_add 17 = .ok (.invokevirtual 26, 3) := by decide +kernel
theorem dX4_add_20 : decode cX4_add 20 = .ok (.aload_n 1, 1) := by decide +kernel
theorem dX4_add_21 : decode cX4_add 21 = .ok (.invokevirtual 30, 3) := by decide +kernel
theorem dX4_add_24 : decode cX4_add 24 = .ok (.aload_n 0, 1) := by decide +kernel
theorem dX4_add_25 : decode cX4_add 25 = .ok (.dup, 1) := by decide +kernel
theorem dX4_add_26 : decode cX4_add 26 = .ok (.getfield 22, 3) := by decide +kernel
theorem dX4_add_29 : decode cX4_add 29 = .ok (.iconst 1, 1) := by decide +kernel
theorem dX4_add_30 : decode cX4_add 30 = .ok (.iadd, 1) := by decide +kernel
theorem dX4_add_31 : decode cX4_add 31 = .ok (.putfield 22, 3) := by decide +kernel
theorem dX4_add_34 : decode cX4_add 34 = .ok (.return_, 1) := by decide +kernel
theorem dX4_copyFrom_0 : decode cX4_copyFrom 0 = .ok (.aload_n 0, 1) := by decide +kernel
theorem dX4_copyFrom_1 : decode cX4_copyFrom 1 = .ok (.iconst 0, 1) := by decide +kernel
theorem dX4_copyFrom_2 : decode cX4_copyFrom 2 = .ok (.putfield 22, 3) := by decide +kernel
theorem dX4_copyFrom_5 : decode cX4_copyFrom 5 = .ok (.iconst 0, 1) := by decide +kernel
theorem dX4_copyFrom_6 : decode cX4_copyFrom 6 = .ok (.istore_n 2, 1) := by decide +kernel
theorem dX4_copyFrom_7 : decode cX4_copyFrom 7 = .ok (.iload_n 2, 1) := by decide +kernel
theorem dX4_copyFrom_8 : decode cX4_copyFrom 8 = .ok (.aload_n 1, 1) := by decide +kernel
theorem dX4_copyFrom_9 : decode cX4_copyFrom 9 = .ok (.getfield 22, 3) := by decide +kernel
theorem dX4_copyFrom_12 : decode cX4_copyFrom 12 = .ok (.if_icmp .ge 18, 3) := by decide +kernel
theorem dX4_copyFrom_15 : decode cX4_copyFrom 15 = .ok (.aload_n 0, 1) := by decide +kernel
theorem dX4_copyFrom_16 : decode cX4_copyFrom 16 = .ok (.aload_n 1, 1) := by decide +kernel
theorem dX4_copyFrom_17 : decode cX4_copyFrom 17 = .ok (.iload_n 2, 1) := by decide +kernel
theorem dX4_copyFrom_18 : decode cX4_copyFrom 18 = .ok (.invokevirtual 26, 3) := by decide +kernel
theorem dX4_copyFrom_21 : decode cX4_copyFrom 21 = .ok (.invokevirtual 34, 3) := by decide +kernel
theorem dX4_copyFrom_24 : decode cX4_copyFrom 24 = .ok (.iinc 2 1, 3) := by decide +kernel
theorem dX4_copyFrom_27 : decode cX4_copyFrom 27 = .ok (.goto (-20), 3) := by decide +kernel
theorem dX4_copyFrom_30 : decode cX4_copyFrom 30 = .ok (.return_, 1) := by decide +kernel
theorem dX4_isBetter_0 : decode cX4_isBetter 0 = .ok (.aload_n 0, 1) := by decide +kernel
theorem dX4_isBetter_1 : decode cX4_isBetter 1 = .ok (.iload_n 1, 1) := by decide +kernel
theorem dX4_isBetter_2 : decode cX4_isBetter 2 = .ok (.invokevirtual 26, 3) := by decide +kernel
theorem dX4_isBetter_5 : decode cX4_isBetter 5 = .ok (.iload_n 3, 1) := by decide +kernel
theorem dX4_isBetter_6 : decode cX4_isBetter 6 = .ok (.invokevirtual 37, 3) := by decide +kernel
theorem dX4_isBetter_9 : decode cX4_isBetter 9 = .ok (.lstore 4, 2) := by decide +kernel
theorem dX4_isBetter_11 : decode cX4_isBetter 11 = .ok (.aload_n 0, 1) := by decide +kernel
theorem dX4_isBetter_12 : decode cX4_isBetter 12 = .ok (.iload_n 2, 1) := by decide +kernel
theorem dX4_isBetter_13 : decode cX4_isBetter 13 = .ok (.invokevirtual 26, 3) := by decide +kernel
theorem dX4_isBetter_16 : decode cX4_isBetter 16 = .ok (.iload_n 3, 1) := by decide +kernel
theorem dX4_isBetter_17 : decode cX4_isBetter 17 = .ok (.invokevirtual 37, 3) := by decide +kernel
theorem dX4_isBetter_20 : decode cX4_isBetter 20 = .ok (.lstore 6, 2) := by decide +kernel
theorem dX4_isBetter_22 : decode cX4_isBetter 22 = .ok (.lload 4, 2) := by decide +kernel
theorem dX4_isBetter_24 : decode cX4_isBetter 24 = .ok (.lload 6, 2) := by decide +kernel
theorem dX4_isBetter_26 : decode cX4_isBetter 26 = .ok (.lcmp, 1) := by decide +kernel
theorem dX4_isBetter_27 : decode cX4_isBetter 27 = .ok (.ifCond .lt 16, 3) := by decide +kernel
theorem dX4_isBetter_30 : decode cX4_isBetter 30 = .ok (.lload 4, 2) := by decide +kernel
theorem dX4_isBetter_32 : decode cX4_isBetter 32 = .ok (.lload 6, 2) := by decide +kernel
theorem dX4_isBetter_34 : decode cX4_isBetter 34 = .ok (.lcmp, 1) := by decide +kernel
theorem dX4_isBetter_35 : decode cX4_isBetter 35 = .ok (.ifCond .ne 12, 3) := by decide +kernel
theorem dX4_isBetter_38 : decode cX4_isBetter 38 = .ok (.iload_n 1, 1) := by decide +kernel
theorem dX4_isBetter_39 : decode cX4_isBetter 39 = .ok (.iload_n 2, 1) := by decide +kernel
theorem dX4_isBetter_40 : decode cX4_isBetter 40 = .ok (.if_icmp .ge 7, 3) := by decide +kernel
theorem dX4_isBetter_43 : decode cX4_isBetter 43 = .ok (.iconst 1, 1) := by decide +kernel
theorem dX4_isBetter_44 : decode cX4_isBetter 44 = .ok (.goto 4, 3) := by decide +kernel
theorem dX4_isBetter_47 : decode cX4_isBetter 47 = .ok (.iconst 0, 1) := by decide +kernel
theorem dX4_isBetter_48 : decode cX4_isBetter 48 = .ok (.ireturn, 1) := by decide +kernel
end
section
theorem dX5_init_0 : decode cX5_init 0 = .ok (.aload_n 0, 1) := by decide +kernel
theorem dX5_init_1 : decode cX5_init 1 = .ok (.invokespecial 3, 3) := by decide +kernel
theorem dX5_init_4 : decode cX5_init 4 = .ok (.aload_n 0, 1) := by decide +kernel
theorem dX5_init_5 : decode cX5_init 5 = .ok (.sipush 128, 3) := by decide +kernel
theorem dX5_init_8 : decode cX5_init 8 = .ok (.newarray .int, 2) := by decide +kernel
theorem dX5_init_10 : decode cX5_init 10 = .ok (.putfield 9, 3) := by decide +kernel
theorem dX5_init_13 : decode cX5_init 13 = .ok (.aload_n 0, 1) := by decide +kernel
theorem dX5_init_14 : decode cX5_init 14 = .ok (.sipush 2100, 3) := by decide +kernel
theorem dX5_init_17 : decode cX5_init 17 = .ok (.newarray .int, 2) := by decide +kernel
theorem dX5_init_19 : decode cX5_init 19 = .ok (.putfield 15, 3) := by decide +kernel
theorem dX5_init_22 : decode cX5_init 22 = .ok (.aload_n 0, 1) := by decide +kernel
theorem dX5_init_23 : decode cX5_init 23 = .ok (.sipush 2100, 3) := by decide +kernel
theorem dX5_init_26 : decode cX5_init 26 = .ok (.newarray .int, 2) := by decide +kernel
theorem dX5_init_28 : decode cX5_init 28 = .ok (.putfield 18, 3) := by decide +kernel
theorem dX5_init_31 : decode cX5_init 31 = .ok (.aload_n 0, 1) := by decide +kernel
theorem dX5_init_32 : decode cX5_init 32 = .ok (.bipush 70, 2) := by decide +kernel
theorem dX5_init_34 : decode cX5_init 34 = .ok (.newarray .int, 2) := by decide +kernel
theorem dX5_init_36 : decode cX5_init 36 = .ok (.putfield 21, 3) := by decide +kernel
theorem dX5_init_39 : decode cX5_init 39 = .ok (.aload_n 0, 1) := by decide +kernel
theorem dX5_init_40 : decode cX5_init 40 = .ok (.bipush 64, 2) := by decide +kernel
theorem dX5_init_42 : decode cX5_init 42 = .ok (.newarray .int, 2) := by decide +kernel
theorem dX5_init_44 : decode cX5_init 44 = .ok (.putfield 24, 3) := by decide +kernel
theorem dX5_init_47 : decode cX5_init 47 = .ok (.aload_n 0, 1) := by decide +kernel
theorem dX5_init_48 : decode cX5_init 48 = .ok (.aload_n 1, 1) := by decide +kernel
theorem dX5_init_49 : decode cX5_init 49 = .ok (.putfield 27, 3) := by decide +kernel
theorem dX5_init_52 : decode cX5_init 52 = .ok (.aload_n 0, 1) := by decide +kernel
theorem dX5_init_53 : decode cX5_init 53 = .ok (.getfield 9, 3) := by decide +kernel
theorem dX5_init_56 : decode cX5_init 56 = .ok (.iconst (-1), 1) := by decide +kernel
theorem dX5_init_57 : decode cX5_init 57 = .ok (.invokestatic 31, 3) := by decide +kernel
theorem dX5_init_60 : decode cX5_init 60 = .ok (.aload_n 0, 1) := by decide +kernel
theorem dX5_init_61 : decode cX5_init 61 = .ok (.getfield 24, 3) := by decide +kernel
theorem dX5_init_64 : decode cX5_init 64 = .ok (.iconst (-1), 1) := by decide +kernel
theorem dX5_init_65 : decode cX5_init 65 = .ok (.invokestatic 31, 3) := by decide +kernel
theorem dX5_init_68 : decode cX5_init 68 = .ok (.return_, 1) := by decide +kernel
theorem dX5_empty_0 : decode cX5_empty 0 = .ok (.aload_n 0, 1) := by decide +kernel
theorem dX5_empty_1 : decode cX5_empty 1 = .ok (.getfield 9, 3) := by decide +kernel
theorem dX5_empty_4 : decode cX5_empty 4 = .ok (.iconst (-1), 1) := by decide +kernel
theorem dX5_empty_5 : decode cX5_empty 5 = .ok (.invokestatic 31, 3) := by decide +kernel
theorem dX5_empty_8 : decode cX5_empty 8 = .ok (.aload_n 0, 1) := by decide +kernel
theorem dX5_empty_9 : decode cX5_empty 9 = .ok (.getfield 24, 3) := by decide +kernel
theorem dX5_empty_12 : decode cX5_empty 12 = .ok (.iconst (-1), 1) := by decide +kernel
theorem dX5_empty_13 : decode cX5_empty 13 = .ok (.invokestatic 31, 3) := by decide +kernel
theorem dX5_empty_16 : decode cX5_empty 16 = .ok (.aload_n 0, 1) := by decide +kernel
theorem dX5_empty_17 : decode cX5_empty 17 = .ok (.getfield 27, 3) := by decide +kernel
theorem dX5_empty_20 : decode cX5_empty 20 = .ok (.iconst 0, 1) := by decide +kernel
theorem dX5_empty_21 : decode cX5_empty 21 = .ok (.putfield 37, 3) := by decide +kernel
theorem dX5_empty_24 : decode cX5_empty 24 = .ok (.aload_n 0, 1) := by decide +kernel
theorem dX5_empty_25 : decode cX5_empty 25 = .ok (.iconst 0, 1) := by decide +kernel
theorem dX5_empty_26 : decode cX5_empty 26 = .ok (.putfield 43, 3) := by decide +kernel
theorem dX5_empty_29 : decode cX5_empty 29 = .ok (.return_, 1) := by decide +kernel
theorem dX5_take_0 : decode cX5_take 0 = .ok (.aload_n 0, 1) := by decide +kernel
theorem dX5_take_1 : decode cX5_take 1 = .ok (.getfield 27, 3) := by decide +kernel
theorem dX5_take_4 : decode cX5_take 4 = .ok (.getfield 37, 3) := by decide +kernel
theorem dX5_take_7 : decode cX5_take 7 = .ok (.istore_n 2, 1) := by decide +kernel
theorem dX5_take_8 : decode cX5_take 8 = .ok (.iload_n 2, 1) := by decide +kernel
theorem dX5_take_9 : decode cX5_take 9 = .ok (.ifCond .lt 12, 3) := by decide +kernel
theorem dX5_take_12 : decode cX5_take 12 = .ok (.iload_n 2, 1) := by decide +kernel
theorem dX5_take_13 : decode cX5_take 13 = .ok (.aload_n 0, 1) := by decide +kernel
theorem dX5_take_14 : decode cX5_take 14 = .ok (.getfield 21, 3) := by decide +kernel
theorem dX5_take_17 : decode cX5_take 17 = .ok (.arraylength, 1) := by decide +kernel
theorem dX5_take_18 : decode cX5_take 18 = .ok (.if_icmp .lt 5, 3) := by decide +kernel
theorem dX5_take_21 : decode cX5_take 21 = .ok (.iconst 0, 1) := by decide +kernel
theorem dX5_take_22 : decode cX5_take 22 = .ok (.ireturn, 1) := by decide +kernel
theorem dX5_take_23 : decode cX5_take 23 = .ok (.aload_n 0, 1) := by decide +kernel
theorem dX5_take_24 : decode cX5_take 24 = .ok (.getfield 43, 3) := by decide +kernel
theorem dX5_take_27 : decode cX5_take 27 = .ok (.istore_n 3, 1) := by decide +kernel
theorem dX5_take_28 : decode cX5_take 28 = .ok (.aload_n 0, 1) := by decide +kernel
theorem dX5_take_29 : decode cX5_take 29 = .ok (.getfield 21, 3) := by decide +kernel
theorem dX5_take_32 : decode cX5_take 32 = .ok (.iload_n 2, 1) := by decide +kernel
theorem dX5_take_33 : decode cX5_take 33 = .ok (.iload_n 3, 1) := by decide +kernel
theorem dX5_take_34 : decode cX5_take 34 = .ok (.iastore, 1) := by decide +kernel
theorem dX5_take_35 : decode cX5_take 35 = .ok (.aload_n 0, 1) := by decide +kernel
theorem dX5_take_36 : decode cX5_take 36 = .ok (.getfield 27, 3) := by decide +kernel
theorem dX5_take_39 : decode cX5_take 39 = .ok (.aload_n 1, 1) := by decide +kernel
theorem dX5_take_40 : decode cX5_take 40 = .ok (.invokevirtual 46, 3) := by decide +kernel
theorem dX5_take_43 : decode cX5_take 43 = .ok (.aload_n 1, 1) := by decide +kernel
theorem dX5_take_44 : decode cX5_take 44 = .ok (.getfield 50, 3) := by decide +kernel
theorem dX5_take_47 : decode cX5_take 47 = .ok (.istore 4, 2) := by decide +kernel
theorem dX5_take_49 : decode cX5_take 49 = .ok (.iconst 0, 1) := by decide +kernel
theorem dX5_take_50 : decode cX5_take 50 = .ok (.istore 5, 2) := by decide +kernel
theorem dX5_take_52 : decode cX5_take 52 = .ok (.iload 5, 2) := by decide +kernel
theorem dX5_take_54 : decode cX5_take 54 = .ok (.bipush 64, 2) := by decide +kernel
theorem dX5_take_56 : decode cX5_take 56 = .ok (.if_icmp .ge 45, 3) := by decide +kernel
theorem dX5_take_59 : decode cX5_take 59 = .ok (.iload 4, 2) := by decide +kernel
theorem dX5_take_61 : decode cX5_take 61 = .ok (.aload_n 1, 1) := by decide +kernel
theorem dX5_take_62 : decode cX5_take 62 = .ok (.getfield 55, 3) := by decide +kernel
theorem dX5_take_65 : decode cX5_take 65 = .ok (.if_icmp .gt 36, 3) := by decide +kernel
theorem dX5_take_68 : decode cX5_take 68 = .ok (.iload 4, 2) := by decide +kernel
theorem dX5_take_70 : decode cX5_take 70 = .ok (.aload_n 1, 1) := by decide +kernel
theorem dX5_take_71 : decode cX5_take 71 = .ok (.getfield 55, 3) := by decide +kernel
theorem dX5_take_74 : decode cX5_take 74 = .ok (.invokestatic 58, 3) := by decide +kernel
theorem dX5_take_77 : decode cX5_take 77 = .ok (.istore 6, 2) := by decide +kernel
theorem dX5_take_79 : decode cX5_take 79 = .ok (.aload_n 0, 1) := by decide +kernel
theorem dX5_take_80 : decode cX5_take 80 = .ok (.iload_n 2, 1) := by decide +kernel
theorem dX5_take_81 : decode cX5_take 81 = .ok (.iload 6, 2) := by decide +kernel
theorem dX5_take_83 : decode cX5_take 83 = .ok (.invokevirtual 62, 3) := by decide +kernel
theorem dX5_take_86 : decode cX5_take 86 = .ok (.iload 6, 2) := by decide +kernel
theorem dX5_take_88 : decode cX5_take 88 = .ok (.invokestatic 66, 3) := by decide +kernel
theorem dX5_take_91 : decode cX5_take 91 = .ok (.iconst 1, 1) := by decide +kernel
theorem dX5_take_92 : decode cX5_take 92 = .ok (.iadd, 1) := by decide +kernel
theorem dX5_take_93 : decode cX5_take 93 = .ok (.istore 4, 2) := by decide +kernel
theorem dX5_take_95 : decode cX5_take 95 = .ok (.iinc 5 1, 3) := by decide +kernel
theorem dX5_take_98 : decode cX5_take 98 = .ok (.goto (-46), 3) := by decide +kernel
theorem dX5_take_101 : decode cX5_take 101 = .ok (.aload_n 0, 1) := by decide +kernel
theorem dX5_take_102 : decode cX5_take 102 = .ok (.iload_n 2, 1) := by decide +kernel
theorem dX5_take_103 : decode cX5_take 103 = .ok (.aload_n 1, 1) := by decide +kernel
theorem dX5_take_104 : decode cX5_take 104 = .ok (.invokevirtual 70, 3) := by decide +kernel
theorem dX5_take_107 : decode cX5_take 107 = .ok (.aload_n 0, 1) := by decide +kernel
theorem dX5_take_108 : decode cX5_take 108 = .ok (.getfield 43, 3) := by decide +kernel
theorem dX5_take_111 : decode cX5_take 111 = .ok (.iload_n 3, 1) := by decide +kernel
theorem dX5_take_112 : decode cX5_take 112 = .ok (.isub, 1) := by decide +kernel
theorem dX5_take_113 : decode cX5_take 113 = .ok (.ireturn, 1) := by decide +kernel
theorem dX5_takeBack_0 : decode cX5_takeBack 0 = .ok (.aload_n 0, 1) := by decide +kernel
theorem dX5_takeBack_1 : decode cX5_takeBack 1 = .ok (.getfield 27, 3) := by decide +kernel
theorem dX5_takeBack_4 : decode cX5_takeBack 4 = .ok (.getfield 37, 3) := by decide +kernel
theorem dX5_takeBack_7 : decode cX5_takeBack 7 = .ok (.iconst 1, 1) := by decide +kernel
theorem dX5_takeBack_8 : decode cX5_takeBack 8 = .ok (.isub, 1) := by decide +kernel
theorem dX5_takeBack_9 : decode cX5_takeBack 9 = .ok (.istore_n 1, 1) := by decide +kernel
theorem dX5_takeBack_10 : decode cX5_takeBack 10 = .ok (.iload_n 1, 1) := by decide +kernel
theorem dX5_takeBack_11 : decode cX5_takeBack 11 = .ok (.ifCond .lt 12, 3) := by decide +kernel
theorem dX5_takeBack_14 : decode cX5_takeBack 14 = .ok (.iload_n 1, 1) := by decide +kernel
theorem dX5_takeBack_15 : decode cX5_takeBack 15 = .ok (.aload_n 0, 1) := by decide +kernel
theorem dX5_takeBack_16 : decode cX5_takeBack 16 = .ok (.getfield 21, 3) := by decide +kernel
theorem dX5_takeBack_19 : decode cX5_takeBack 19 = .ok (.arraylength, 1) := by decide +kernel
theorem dX5_takeBack_20 : decode cX5_takeBack 20 = .ok (.if_icmp .lt 4, 3) := by decide +kernel
theorem dX5_takeBack_23 : decode cX5_takeBack 23 = .ok (.return_, 1) := by decide +kernel
theorem dX5_takeBack_24 : decode cX5_takeBack 24 = .ok (.aload_n 0, 1) := by decide +kernel
theorem dX5_takeBack_25 : decode cX5_takeBack 25 = .ok (.getfield 43, 3) := by decide +kernel
theorem dX5_takeBack_28 : decode cX5_takeBack 28 = .ok (.aload_n 0, 1) := by decide +kernel
theorem dX5_takeBack_29 : decode cX5_takeBack 29 = .ok (.getfield 21, 3) := by decide +kernel
theorem dX5_takeBack_32 : decode cX5_takeBack 32 = .ok (.iload_n 1, 1) := by decide +kernel
theorem dX5_takeBack_33 : decode cX5_takeBack 33 = .ok (.iaload, 1) := by decide +kernel
theorem dX5_takeBack_34 : decode cX5_takeBack 34 = .ok (.if_icmp .le 24, 3) := by decide +kernel
theorem dX5_takeBack_37 : decode cX5_takeBack 37 = .ok (.aload_n 0, 1) := by decide +kernel
theorem dX5_takeBack_38 : decode cX5_takeBack 38 = .ok (.dup, 1) := by decide +kernel
theorem dX5_takeBack_39 : decode cX5_takeBack 39 = .ok (.getfield 43, 3) := by decide +kernel
theorem dX5_takeBack_42 : decode cX5_takeBack 42 = .ok (.iconst 1, 1) := by decide +kernel
theorem dX5_takeBack_43 : decode cX5_takeBack 43 = .ok (.isub, 1) := by decide +kernel
theorem dX5_takeBack_44 : decode cX5_takeBack 44 = .ok (.putfield 43, 3) := by decide +kernel
theorem dX5_takeBack_47 : decode cX5_takeBack 47 = .ok (.aload_n 0, 1) := by decide +kernel
theorem dX5_takeBack_48 : decode cX5_takeBack 48 = .ok (.aload_n 0, 1) := by decide +kernel
theorem dX5_takeBack_49 : decode cX5_takeBack 49 = .ok (.getfield 43, 3) := by decide +kernel
theorem dX5_takeBack_52 : decode cX5_takeBack 52 = .ok (.invokevirtual 74, 3) := by decide +kernel
theorem dX5_takeBack_55 : decode cX5_takeBack 55 = .ok (.goto (-31), 3) := by decide +kernel
theorem dX5_takeBack_58 : decode cX5_takeBack 58 = .ok (.iconst 0, 1) := by decide +kernel
theorem dX5_takeBack_59 : decode cX5_takeBack 59 = .ok (.istore_n 2, 1) := by decide +kernel
theorem dX5_takeBack_60 : decode cX5_takeBack 60 = .ok (.iload_n 2, 1) := by decide +kernel
theorem dX5_takeBack_61 : decode cX5_takeBack 61 = .ok (.bipush 64, 2) := by decide +kernel
theorem dX5_takeBack_63 : decode cX5_takeBack 63 = .ok (.if_icmp .ge 30, 3) := by decide +kernel
theorem dX5_takeBack_66 : decode cX5_takeBack 66 = .ok (.aload_n 0, 1) := by decide +kernel
theorem dX5_takeBack_67 : decode cX5_takeBack 67 = .ok (.getfield 24, 3) := by decide +kernel
theorem dX5_takeBack_70 : decode cX5_takeBack 70 = .ok (.iload_n 2, 1) := by decide +kernel
theorem dX5_takeBack_71 : decode cX5_takeBack 71 = .ok (.iaload, 1) := by decide +kernel
theorem dX5_takeBack_72 : decode cX5_takeBack 72 = .ok (.iload_n 1, 1) := by decide +kernel
theorem dX5_takeBack_73 : decode cX5_takeBack 73 = .ok (.if_icmp .ne 14, 3) := by decide +kernel
theorem dX5_takeBack_76 : decode cX5_takeBack 76 = .ok (.aload_n 0, 1) := by decide +kernel
theorem dX5_takeBack_77 : decode cX5_takeBack 77 = .ok (.getfield 24, 3) := by decide +kernel
theorem dX5_takeBack_80 : decode cX5_takeBack 80 = .ok (.iload_n 2, 1) := by decide +kernel
theorem dX5_takeBack_81 : decode cX5_takeBack 81 = .ok (.aload_n 0, 1) := by decide +kernel
theorem dX5_takeBack_82 : decode cX5_takeBack 82 = .ok (.iload_n 2, 1) := by decide +kernel
theorem dX5_takeBack_83 : decode cX5_takeBack 83 = .ok (.invokevirtual 78, 3) := by decide +kernel
theorem dX5_takeBack_86 : decode cX5_takeBack 86 = .ok (.iastore, 1) := by decide +kernel
theorem dX5_takeBack_87 : decode cX5_takeBack 87 = .ok (.iinc 2 1, 3) := by decide +kernel
theorem dX5_takeBack_90 : decode cX5_takeBack 90 = .ok (.goto (-30), 3) := by decide +kernel
theorem dX5_takeBack_93 : decode cX5_takeBack 93 = .ok (.aload_n 0, 1) := by decide +kernel
theorem dX5_takeBack_94 : decode cX5_takeBack 94 = .ok (.getfield 27, 3) := by decide +kernel
theorem dX5_takeBack_97 : decode cX5_takeBack 97 = .ok (.iload_n 1, 1) := by decide +kernel
theorem dX5_takeBack_98 : decode cX5_takeBack 98 = .ok (.putfield 37, 3) := by decide +kernel
theorem dX5_takeBack_101 : decode cX5_takeBack 101 = .ok (.return_, 1) := by decide +kernel
theorem dX5_standingAt_0 : decode cX5_standingAt 0 = .ok (.iload_n 1, 1) := by decide +kernel
theorem dX5_standingAt_1 : decode cX5_standingAt 1 = .ok (.iconst 1, 1) := by decide +kernel
theorem dX5_standingAt_2 : decode cX5_standingAt 2 = .ok (.if_icmp .lt 18, 3) := by decide +kernel
theorem dX5_standingAt_5 : decode cX5_standingAt 5 = .ok (.iload_n 1, 1) := by decide +kernel
theorem dX5_standingAt_6 : decode cX5_standingAt 6 = .ok (.bipush 127, 2) := by decide +kernel
theorem dX5_standingAt_8 : decode cX5_standingAt 8 = .ok (.if_icmp .gt 12, 3) := by decide +kernel
theorem dX5_standingAt_11 : decode cX5_standingAt 11 = .ok (.aload_n 0, 1) := by decide +kernel
theorem dX5_standingAt_12 : decode cX5_standingAt 12 = .ok (.getfield 9, 3) := by decide +kernel
theorem dX5_standingAt_15 : decode cX5_standingAt 15 = .ok (.iload_n 1, 1) := by decide +kernel
theorem dX5_standingAt_16 : decode cX5_standingAt 16 = .ok (.iaload, 1) := by decide +kernel
theorem dX5_standingAt_17 : decode cX5_standingAt 17 = .ok (.goto 4, 3) := by decide +kernel
theorem dX5_standingAt_20 : decode cX5_standingAt 20 = .ok (.iconst (-1), 1) := by decide +kernel
theorem dX5_standingAt_21 : decode cX5_standingAt 21 = .ok (.ireturn, 1) := by decide +kernel
theorem dX5_nodesOf_0 : decode cX5_nodesOf 0 = .ok (.iconst 0, 1) := by decide +kernel
theorem dX5_nodesOf_1 : decode cX5_nodesOf 1 = .ok (.istore_n 3, 1) := by decide +kernel
theorem dX5_nodesOf_2 : decode cX5_nodesOf 2 = .ok (.iconst 1, 1) := by decide +kernel
theorem dX5_nodesOf_3 : decode cX5_nodesOf 3 = .ok (.istore 4, 2) := by decide +kernel
theorem dX5_nodesOf_5 : decode cX5_nodesOf 5 = .ok (.iload 4, 2) := by decide +kernel
theorem dX5_nodesOf_7 : decode cX5_nodesOf 7 = .ok (.bipush 127, 2) := by decide +kernel
theorem dX5_nodesOf_9 : decode cX5_nodesOf 9 = .ok (.if_icmp .gt 34, 3) := by decide +kernel
theorem dX5_nodesOf_12 : decode cX5_nodesOf 12 = .ok (.aload_n 0, 1) := by decide +kernel
theorem dX5_nodesOf_13 : decode cX5_nodesOf 13 = .ok (.getfield 9, 3) := by decide +kernel
theorem dX5_nodesOf_16 : decode cX5_nodesOf 16 = .ok (.iload 4, 2) := by decide +kernel
theorem dX5_nodesOf_18 : decode cX5_nodesOf 18 = .ok (.iaload, 1) := by decide +kernel
theorem dX5_nodesOf_19 : decode cX5_nodesOf 19 = .ok (.iload_n 1, 1) := by decide +kernel
theorem dX5_nodesOf_20 : decode cX5_nodesOf 20 = .ok (.if_icmp .lt 17, 3) := by decide +kernel
theorem dX5_nodesOf_23 : decode cX5_nodesOf 23 = .ok (.aload_n 0, 1) := by decide +kernel
theorem dX5_nodesOf_24 : decode cX5_nodesOf 24 = .ok (.getfield 9, 3) := by decide +kernel
theorem dX5_nodesOf_27 : decode cX5_nodesOf 27 = .ok (.iload 4, 2) := by decide +kernel
theorem dX5_nodesOf_29 : decode cX5_nodesOf 29 = .ok (.iaload, 1) := by decide +kernel
theorem dX5_nodesOf_30 : decode cX5_nodesOf 30 = .ok (.iload_n 2, 1) := by decide +kernel
theorem dX5_nodesOf_31 : decode cX5_nodesOf 31 = .ok (.if_icmp .gt 6, 3) := by decide +kernel
theorem dX5_nodesOf_34 : decode cX5_nodesOf 34 = .ok (.iinc 3 1, 3) := by decide +kernel
theorem dX5_nodesOf_37 : decode cX5_nodesOf 37 = .ok (.iinc 4 1, 3) := by decide +kernel
theorem dX5_nodesOf_40 : decode cX5_nodesOf 40 = .ok (.goto (-35), 3) := by decide +kernel
theorem dX5_nodesOf_43 : decode cX5_nodesOf 43 = .ok (.iload_n 3, 1) := by decide +kernel
theorem dX5_nodesOf_44 : decode cX5_nodesOf 44 = .ok (.ireturn, 1) := by decide +kernel
theorem dX5_lowestFor_0 : decode cX5_lowestFor 0 = .ok (.iload_n 1, 1) := by decide +kernel
theorem dX5_lowestFor_1 : decode cX5_lowestFor 1 = .ok (.invokestatic 81, 3) := by decide +kernel
theorem dX5_lowestFor_4 : decode cX5_lowestFor 4 = .ok (.ifCond .eq 12, 3) := by decide +kernel
theorem dX5_lowestFor_7 : decode cX5_lowestFor 7 = .ok (.aload_n 0, 1) := by decide +kernel
theorem dX5_lowestFor_8 : decode cX5_lowestFor 8 = .ok (.getfield 24, 3) := by decide +kernel
theorem dX5_lowestFor_11 : decode cX5_lowestFor 11 = .ok (.iload_n 1, 1) := by decide +kernel
theorem dX5_lowestFor_12 : decode cX5_lowestFor 12 = .ok (.iaload, 1) := by decide +kernel
theorem dX5_lowestFor_13 : decode cX5_lowestFor 13 = .ok (.goto 4, 3) := by decide +kernel
theorem dX5_lowestFor_16 : decode cX5_lowestFor 16 = .ok (.iconst (-1), 1) := by decide +kernel
theorem dX5_lowestFor_17 : decode cX5_lowestFor 17 = .ok (.ireturn, 1) := by decide +kernel
theorem dX5_firstOf_0 : decode cX5_firstOf 0 = .ok (.iload_n 0, 1) := by decide +kernel
theorem dX5_firstOf_1 : decode cX5_firstOf 1 = .ok (.iload_n 0, 1) := by decide +kernel
theorem dX5_firstOf_2 : decode cX5_firstOf 2 = .ok (.invokestatic 85, 3) := by decide +kernel
theorem dX5_firstOf_5 : decode cX5_firstOf 5 = .ok (.imul, 1) := by decide +kernel
theorem dX5_firstOf_6 : decode cX5_firstOf 6 = .ok (.bipush 64, 2) := by decide +kernel
theorem dX5_firstOf_8 : decode cX5_firstOf 8 = .ok (.isub, 1) := by decide +kernel
theorem dX5_firstOf_9 : decode cX5_firstOf 9 = .ok (.ireturn, 1) := by decide +kernel
theorem dX5_lastOf_0 : decode cX5_lastOf 0 = .ok (.iload_n 0, 1) := by decide +kernel
theorem dX5_lastOf_1 : decode cX5_lastOf 1 = .ok (.invokestatic 88, 3) := by decide +kernel
theorem dX5_lastOf_4 : decode cX5_lastOf 4 = .ok (.iload_n 0, 1) := by decide +kernel
theorem dX5_lastOf_5 : decode cX5_lastOf 5 = .ok (.invokestatic 85, 3) := by decide +kernel
theorem dX5_lastOf_8 : decode cX5_lastOf 8 = .ok (.iadd, 1) := by decide +kernel
theorem dX5_lastOf_9 : decode cX5_lastOf 9 = .ok (.iconst 1, 1) := by decide +kernel
theorem dX5_lastOf_10 : decode cX5_lastOf 10 = .ok (.isub, 1) := by decide +kernel
theorem dX5_lastOf_11 : decode cX5_lastOf 11 = .ok (.ireturn, 1) := by decide +kernel
theorem dX5_middleOf_0 : decode cX5_middleOf 0 = .ok (.iload_n 0, 1) := by decide +kernel
theorem dX5_middleOf_1 : decode cX5_middleOf 1 = .ok (.invokestatic 88, 3) := by decide +kernel
theorem dX5_middleOf_4 : decode cX5_middleOf 4 = .ok (.iload_n 0, 1) := by decide +kernel
theorem dX5_middleOf_5 : decode cX5_middleOf 5 = .ok (.invokestatic 85, 3) := by decide +kernel
theorem dX5_middleOf_8 : decode cX5_middleOf 8 = .ok (.iconst 1, 1) := by decide +kernel
theorem dX5_middleOf_9 : decode cX5_middleOf 9 = .ok (.isub, 1) := by decide +kernel
theorem dX5_middleOf_10 : decode cX5_middleOf 10 = .ok (.iconst 2, 1) := by decide +kernel
theorem dX5_middleOf_11 : decode cX5_middleOf 11 = .ok (.idiv, 1) := by decide +kernel
theorem dX5_middleOf_12 : decode cX5_middleOf 12 = .ok (.iadd, 1) := by decide +kernel
theorem dX5_middleOf_13 : decode cX5_middleOf 13 = .ok (.ireturn, 1) := by decide +kernel
theorem dX5_sizeOf_0 : decode cX5_sizeOf 0 = .ok (.bipush 64, 2) := by decide +kernel
theorem dX5_sizeOf_2 : decode cX5_sizeOf 2 = .ok (.istore_n 1, 1) := by decide +kernel
theorem dX5_sizeOf_3 : decode cX5_sizeOf 3 = .ok (.iload_n 0, 1) := by decide +kernel
theorem dX5_sizeOf_4 : decode cX5_sizeOf 4 = .ok (.istore_n 2, 1) := by decide +kernel
theorem dX5_sizeOf_5 : decode cX5_sizeOf 5 = .ok (.iload_n 2, 1) := by decide +kernel
theorem dX5_sizeOf_6 : decode cX5_sizeOf 6 = .ok (.iconst 1, 1) := by decide +kernel
theorem dX5_sizeOf_7 : decode cX5_sizeOf 7 = .ok (.if_icmp .le 14, 3) := by decide +kernel
theorem dX5_sizeOf_10 : decode cX5_sizeOf 10 = .ok (.iload_n 1, 1) := by decide +kernel
theorem dX5_sizeOf_11 : decode cX5_sizeOf 11 = .ok (.iconst 2, 1) := by decide +kernel
theorem dX5_sizeOf_12 : decode cX5_sizeOf 12 = .ok (.idiv, 1) := by decide +kernel
theorem dX5_sizeOf_13 : decode cX5_sizeOf 13 = .ok (.istore_n 1, 1) := by decide +kernel
theorem dX5_sizeOf_14 : decode cX5_sizeOf 14 = .ok (.iload_n 2, 1) := by decide +kernel
theorem dX5_sizeOf_15 : decode cX5_sizeOf 15 = .ok (.iconst 2, 1) := by decide +kernel
theorem dX5_sizeOf_16 : decode cX5_sizeOf 16 = .ok (.idiv, 1) := by decide +kernel
theorem dX5_sizeOf_17 : decode cX5_sizeOf 17 = .ok (.istore_n 2, 1) := by decide +kernel
theorem dX5_sizeOf_18 : decode cX5_sizeOf 18 = .ok (.goto (-13), 3) := by decide +kernel
theorem dX5_sizeOf_21 : decode cX5_sizeOf 21 = .ok (.iload_n 1, 1) := by decide +kernel
theorem dX5_sizeOf_22 : decode cX5_sizeOf 22 = .ok (.ireturn, 1) := by decide +kernel
theorem dX5_widestNode_0 : decode cX5_widestNode 0 = .ok (.bipush 64, 2) := by decide +kernel
theorem dX5_widestNode_2 : decode cX5_widestNode 2 = .ok (.iload_n 0, 1) := by decide +kernel
theorem dX5_widestNode_3 : decode cX5_widestNode 3 = .ok (.iadd, 1) := by decide +kernel
theorem dX5_widestNode_4 : decode cX5_widestNode 4 = .ok (.istore_n 2, 1) := by decide +kernel
theorem dX5_widestNode_5 : decode cX5_widestNode 5 = .ok (.iload_n 2, 1) := by decide +kernel
theorem dX5_widestNode_6 : decode cX5_widestNode 6 = .ok (.iconst 1, 1) := by decide +kernel
theorem dX5_widestNode_7 : decode cX5_widestNode 7 = .ok (.if_icmp .le 26, 3) := by decide +kernel
theorem dX5_widestNode_10 : decode cX5_widestNode 10 = .ok (.iload_n 2, 1) := by decide +kernel
theorem dX5_widestNode_11 : decode cX5_widestNode 11 = .ok (.iconst 2, 1) := by decide +kernel
theorem dX5_widestNode_12 : decode cX5_widestNode 12 = .ok (.irem, 1) := by decide +kernel
theorem dX5_widestNode_13 : decode cX5_widestNode 13 = .ok (.ifCond .ne 20, 3) := by decide +kernel
theorem dX5_widestNode_16 : decode cX5_widestNode 16 = .ok (.iload_n 2, 1) := by decide +kernel
theorem dX5_widestNode_17 : decode cX5_widestNode 17 = .ok (.iconst 2, 1) := by decide +kernel
theorem dX5_widestNode_18 : decode cX5_widestNode 18 = .ok (.idiv, 1) := by decide +kernel
theorem dX5_widestNode_19 : decode cX5_widestNode 19 = .ok (.invokestatic 66, 3) := by decide +kernel
theorem dX5_widestNode_22 : decode cX5_widestNode 22 = .ok (.iload_n 1, 1) := by decide +kernel
theorem dX5_widestNode_23 : decode cX5_widestNode 23 = .ok (.if_icmp .gt 10, 3) := by decide +kernel
theorem dX5_widestNode_26 : decode cX5_widestNode 26 = .ok (.iload_n 2, 1) := by decide +kernel
theorem dX5_widestNode_27 : decode cX5_widestNode 27 = .ok (.iconst 2, 1) := by decide +kernel
theorem dX5_widestNode_28 : decode cX5_widestNode 28 = .ok (.idiv, 1) := by decide +kernel
theorem dX5_widestNode_29 : decode cX5_widestNode 29 = .ok (.istore_n 2, 1) := by decide +kernel
theorem dX5_widestNode_30 : decode cX5_widestNode 30 = .ok (.goto (-25), 3) := by decide +kernel
theorem dX5_widestNode_33 : decode cX5_widestNode 33 = .ok (.iload_n 2, 1) := by decide +kernel
theorem dX5_widestNode_34 : decode cX5_widestNode 34 = .ok (.ireturn, 1) := by decide +kernel
theorem dX5_push_0 : decode cX5_push 0 = .ok (.iload_n 1, 1) := by decide +kernel
theorem dX5_push_1 : decode cX5_push 1 = .ok (.istore_n 3, 1) := by decide +kernel
theorem dX5_push_2 : decode cX5_push 2 = .ok (.iload_n 2, 1) := by decide +kernel
theorem dX5_push_3 : decode cX5_push 3 = .ok (.istore 4, 2) := by decide +kernel
theorem dX5_push_5 : decode cX5_push 5 = .ok (.iconst 0, 1) := by decide +kernel
theorem dX5_push_6 : decode cX5_push 6 = .ok (.istore 5, 2) := by decide +kernel
theorem dX5_push_8 : decode cX5_push 8 = .ok (.iload 5, 2) := by decide +kernel
theorem dX5_push_10 : decode cX5_push 10 = .ok (.bipush 7, 2) := by decide +kernel
theorem dX5_push_12 : decode cX5_push 12 = .ok (.if_icmp .ge 98, 3) := by decide +kernel
theorem dX5_push_15 : decode cX5_push 15 = .ok (.iload 4, 2) := by decide +kernel
theorem dX5_push_17 : decode cX5_push 17 = .ok (.iconst 1, 1) := by decide +kernel
theorem dX5_push_18 : decode cX5_push 18 = .ok (.if_icmp .lt 92, 3) := by decide +kernel
theorem dX5_push_21 : decode cX5_push 21 = .ok (.iload 4, 2) := by decide +kernel
theorem dX5_push_23 : decode cX5_push 23 = .ok (.bipush 127, 2) := by decide +kernel
theorem dX5_push_25 : decode cX5_push 25 = .ok (.if_icmp .gt 85, 3) := by decide +kernel
theorem dX5_push_28 : decode cX5_push 28 = .ok (.aload_n 0, 1) := by decide +kernel
theorem dX5_push_29 : decode cX5_push 29 = .ok (.getfield 9, 3) := by decide +kernel
theorem dX5_push_32 : decode cX5_push 32 = .ok (.iload 4, 2) := by decide +kernel
theorem dX5_push_34 : decode cX5_push 34 = .ok (.iaload, 1) := by decide +kernel
theorem dX5_push_35 : decode cX5_push 35 = .ok (.istore 6, 2) := by decide +kernel
theorem dX5_push_37 : decode cX5_push 37 = .ok (.iload 6, 2) := by decide +kernel
theorem dX5_push_39 : decode cX5_push 39 = .ok (.iconst (-1), 1) := by decide +kernel
theorem dX5_push_40 : decode cX5_push 40 = .ok (.if_icmp .ne 11, 3) := by decide +kernel
theorem dX5_push_43 : decode cX5_push 43 = .ok (.aload_n 0, 1) := by decide +kernel
theorem dX5_push_44 : decode cX5_push 44 = .ok (.iload 4, 2) := by decide +kernel
theorem dX5_push_46 : decode cX5_push 46 = .ok (.iload_n 3, 1) := by decide +kernel
theorem dX5_push_47 : decode cX5_push 47 = .ok (.invokevirtual 91, 3) := by decide +kernel
theorem dX5_push_50 : decode cX5_push 50 = .ok (.return_, 1) := by decide +kernel
theorem dX5_push_51 : decode cX5_push 51 = .ok (.aload_n 0, 1) := by decide +kernel
theorem dX5_push_52 : decode cX5_push 52 = .ok (.getfield 27, 3) := by decide +kernel
theorem dX5_push_55 : decode cX5_push 55 = .ok (.iload_n 3, 1) := by decide +kernel
theorem dX5_push_56 : decode cX5_push 56 = .ok (.iload 6, 2) := by decide +kernel
theorem dX5_push_58 : decode cX5_push 58 = .ok (.iload 4, 2) := by decide +kernel
theorem dX5_push_60 : decode cX5_push 60 = .ok (.invokestatic 94, 3) := by decide +kernel
theorem dX5_push_63 : decode cX5_push 63 = .ok (.invokevirtual 97, 3) := by decide +kernel
theorem dX5_push_66 : decode cX5_push 66 = .ok (.ifCond .eq 27, 3) := by decide +kernel
theorem dX5_push_69 : decode cX5_push 69 = .ok (.aload_n 0, 1) := by decide +kernel
theorem dX5_push_70 : decode cX5_push 70 = .ok (.iload 4, 2) := by decide +kernel
theorem dX5_push_72 : decode cX5_push 72 = .ok (.iload_n 3, 1) := by decide +kernel
theorem dX5_push_73 : decode cX5_push 73 = .ok (.invokevirtual 91, 3) := by decide +kernel
theorem dX5_push_76 : decode cX5_push 76 = .ok (.aload_n 0, 1) := by decide +kernel
theorem dX5_push_77 : decode cX5_push 77 = .ok (.iload 6, 2) := by decide +kernel
theorem dX5_push_79 : decode cX5_push 79 = .ok (.iload_n 3, 1) := by decide +kernel
theorem dX5_push_80 : decode cX5_push 80 = .ok (.iload 4, 2) := by decide +kernel
theorem dX5_push_82 : decode cX5_push 82 = .ok (.invokevirtual 101, 3) := by decide +kernel
theorem dX5_push_85 : decode cX5_push 85 = .ok (.istore 4, 2) := by decide +kernel
theorem dX5_push_87 : decode cX5_push 87 = .ok (.iload 6, 2) := by decide +kernel
theorem dX5_push_89 : decode cX5_push 89 = .ok (.istore_n 3, 1) := by decide +kernel
theorem dX5_push_90 : decode cX5_push 90 = .ok (.goto 14, 3) := by decide +kernel
theorem dX5_push_93 : decode cX5_push 93 = .ok (.aload_n 0, 1) := by decide +kernel
theorem dX5_push_94 : decode cX5_push 94 = .ok (.iload_n 3, 1) := by decide +kernel
theorem dX5_push_95 : decode cX5_push 95 = .ok (.iload 6, 2) := by decide +kernel
theorem dX5_push_97 : decode cX5_push 97 = .ok (.iload 4, 2) := by decide +kernel
theorem dX5_push_99 : decode cX5_push 99 = .ok (.invokevirtual 101, 3) := by decide +kernel
theorem dX5_push_102 : decode cX5_push 102 = .ok (.istore 4, 2) := by decide +kernel
theorem dX5_push_104 : decode cX5_push 104 = .ok (.iinc 5 1, 3) := by decide +kernel
theorem dX5_push_107 : decode cX5_push 107 = .ok (.goto (-99), 3) := by decide +kernel
theorem dX5_push_110 : decode cX5_push 110 = .ok (.return_, 1) := by decide +kernel
theorem dX5_halfFor_0 : decode cX5_halfFor 0 = .ok (.aload_n 0, 1) := by decide +kernel
theorem dX5_halfFor_1 : decode cX5_halfFor 1 = .ok (.getfield 27, 3) := by decide +kernel
theorem dX5_halfFor_4 : decode cX5_halfFor 4 = .ok (.iload_n 1, 1) := by decide +kernel
theorem dX5_halfFor_5 : decode cX5_halfFor 5 = .ok (.iload_n 2, 1) := by decide +kernel
theorem dX5_halfFor_6 : decode cX5_halfFor 6 = .ok (.iload_n 3, 1) := by decide +kernel
theorem dX5_halfFor_7 : decode cX5_halfFor 7 = .ok (.invokestatic 88, 3) := by decide +kernel
theorem dX5_halfFor_10 : decode cX5_halfFor 10 = .ok (.invokevirtual 97, 3) := by decide +kernel
theorem dX5_halfFor_13 : decode cX5_halfFor 13 = .ok (.ifCond .eq 7, 3) := by decide +kernel
theorem dX5_halfFor_16 : decode cX5_halfFor 16 = .ok (.iconst 2, 1) := by decide +kernel
theorem dX5_halfFor_17 : decode cX5_halfFor 17 = .ok (.iload_n 3, 1) := by decide +kernel
theorem dX5_halfFor_18 : decode cX5_halfFor 18 = .ok (.imul, 1) := by decide +kernel
theorem dX5_halfFor_19 : decode cX5_halfFor 19 = .ok (.ireturn, 1) := by decide +kernel
theorem dX5_halfFor_20 : decode cX5_halfFor 20 = .ok (.aload_n 0, 1) := by decide +kernel
theorem dX5_halfFor_21 : decode cX5_halfFor 21 = .ok (.getfield 27, 3) := by decide +kernel
theorem dX5_halfFor_24 : decode cX5_halfFor 24 = .ok (.iload_n 1, 1) := by decide +kernel
theorem dX5_halfFor_25 : decode cX5_halfFor 25 = .ok (.iload_n 2, 1) := by decide +kernel
theorem dX5_halfFor_26 : decode cX5_halfFor 26 = .ok (.iload_n 3, 1) := by decide +kernel
theorem dX5_halfFor_27 : decode cX5_halfFor 27 = .ok (.invokestatic 66, 3) := by decide +kernel
theorem dX5_halfFor_30 : decode cX5_halfFor 30 = .ok (.invokevirtual 97, 3) := by decide +kernel
theorem dX5_halfFor_33 : decode cX5_halfFor 33 = .ok (.ifCond .eq 11, 3) := by decide +kernel
theorem dX5_halfFor_36 : decode cX5_halfFor 36 = .ok (.iconst 2, 1) := by decide +kernel
theorem dX5_halfFor_37 : decode cX5_halfFor 37 = .ok (.iload_n 3, 1) := by decide +kernel
theorem dX5_halfFor_38 : decode cX5_halfFor 38 = .ok (.imul, 1) := by decide +kernel
theorem dX5_halfFor_39 : decode cX5_halfFor 39 = .ok (.iconst 1, 1) := by decide +kernel
theorem dX5_halfFor_40 : decode cX5_halfFor 40 = .ok (.iadd, 1) := by decide +kernel
theorem dX5_halfFor_41 : decode cX5_halfFor 41 = .ok (.goto 4, 3) := by decide +kernel
theorem dX5_halfFor_44 : decode cX5_halfFor 44 = .ok (.iconst 0, 1) := by decide +kernel
theorem dX5_halfFor_45 : decode cX5_halfFor 45 = .ok (.ireturn, 1) := by decide +kernel
theorem dX5_put_0 : decode cX5_put 0 = .ok (.aload_n 0, 1) := by decide +kernel
theorem dX5_put_1 : decode cX5_put 1 = .ok (.aload_n 0, 1) := by decide +kernel
theorem dX5_put_2 : decode cX5_put 2 = .ok (.getfield 43, 3) := by decide +kernel
theorem dX5_put_5 : decode cX5_put 5 = .ok (.invokevirtual 105, 3) := by decide +kernel
theorem dX5_put_8 : decode cX5_put 8 = .ok (.ifCond .eq 56, 3) := by decide +kernel
theorem dX5_put_11 : decode cX5_put 11 = .ok (.iload_n 1, 1) := by decide +kernel
theorem dX5_put_12 : decode cX5_put 12 = .ok (.iconst 1, 1) := by decide +kernel
theorem dX5_put_13 : decode cX5_put 13 = .ok (.if_icmp .lt 51, 3) := by decide +kernel
theorem dX5_put_16 : decode cX5_put 16 = .ok (.iload_n 1, 1) := by decide +kernel
theorem dX5_put_17 : decode cX5_put 17 = .ok (.bipush 127, 2) := by decide +kernel
theorem dX5_put_19 : decode cX5_put 19 = .ok (.if_icmp .gt 45, 3) := by decide +kernel
theorem dX5_put_22 : decode cX5_put 22 = .ok (.aload_n 0, 1) := by decide +kernel
theorem dX5_put_23 : decode cX5_put 23 = .ok (.getfield 15, 3) := by decide +kernel
theorem dX5_put_26 : decode cX5_put 26 = .ok (.aload_n 0, 1) := by decide +kernel
theorem dX5_put_27 : decode cX5_put 27 = .ok (.getfield 43, 3) := by decide +kernel
theorem dX5_put_30 : decode cX5_put 30 = .ok (.iload_n 1, 1) := by decide +kernel
theorem dX5_put_31 : decode cX5_put 31 = .ok (.iastore, 1) := by decide +kernel
theorem dX5_put_32 : decode cX5_put 32 = .ok (.aload_n 0, 1) := by decide +kernel
theorem dX5_put_33 : decode cX5_put 33 = .ok (.getfield 18, 3) := by decide +kernel
theorem dX5_put_36 : decode cX5_put 36 = .ok (.aload_n 0, 1) := by decide +kernel
theorem dX5_put_37 : decode cX5_put 37 = .ok (.getfield 43, 3) := by decide +kernel
theorem dX5_put_40 : decode cX5_put 40 = .ok (.aload_n 0, 1) := by decide +kernel
theorem dX5_put_41 : decode cX5_put 41 = .ok (.getfield 9, 3) := by decide +kernel
theorem dX5_put_44 : decode cX5_put 44 = .ok (.iload_n 1, 1) := by decide +kernel
theorem dX5_put_45 : decode cX5_put 45 = .ok (.iaload, 1) := by decide +kernel
theorem dX5_put_46 : decode cX5_put 46 = .ok (.iastore, 1) := by decide +kernel
theorem dX5_put_47 : decode cX5_put 47 = .ok (.aload_n 0, 1) := by decide +kernel
theorem dX5_put_48 : decode cX5_put 48 = .ok (.dup, 1) := by decide +kernel
theorem dX5_put_49 : decode cX5_put 49 = .ok (.getfield 43, 3) := by decide +kernel
theorem dX5_put_52 : decode cX5_put 52 = .ok (.iconst 1, 1) := by decide +kernel
theorem dX5_put_53 : decode cX5_put 53 = .ok (.iadd, 1) := by decide +kernel
theorem dX5_put_54 : decode cX5_put 54 = .ok (.putfield 43, 3) := by decide +kernel
theorem dX5_put_57 : decode cX5_put 57 = .ok (.aload_n 0, 1) := by decide +kernel
theorem dX5_put_58 : decode cX5_put 58 = .ok (.getfield 9, 3) := by decide +kernel
theorem dX5_put_61 : decode cX5_put 61 = .ok (.iload_n 1, 1) := by decide +kernel
theorem dX5_put_62 : decode cX5_put 62 = .ok (.iload_n 2, 1) := by decide +kernel
theorem dX5_put_63 : decode cX5_put 63 = .ok (.iastore, 1) := by decide +kernel
theorem dX5_put_64 : decode cX5_put 64 = .ok (.return_, 1) := by decide +kernel
theorem dX5_putBack_0 : decode cX5_putBack 0 = .ok (.aload_n 0, 1) := by decide +kernel
theorem dX5_putBack_1 : decode cX5_putBack 1 = .ok (.iload_n 1, 1) := by decide +kernel
theorem dX5_putBack_2 : decode cX5_putBack 2 = .ok (.invokevirtual 105, 3) := by decide +kernel
theorem dX5_putBack_5 : decode cX5_putBack 5 = .ok (.ifCond .eq 41, 3) := by decide +kernel
theorem dX5_putBack_8 : decode cX5_putBack 8 = .ok (.aload_n 0, 1) := by decide +kernel
theorem dX5_putBack_9 : decode cX5_putBack 9 = .ok (.getfield 15, 3) := by decide +kernel
theorem dX5_putBack_12 : decode cX5_putBack 12 = .ok (.iload_n 1, 1) := by decide +kernel
theorem dX5_putBack_13 : decode cX5_putBack 13 = .ok (.iaload, 1) := by decide +kernel
theorem dX5_putBack_14 : decode cX5_putBack 14 = .ok (.iconst 1, 1) := by decide +kernel
theorem dX5_putBack_15 : decode cX5_putBack 15 = .ok (.if_icmp .lt 31, 3) := by decide +kernel
theorem dX5_putBack_18 : decode cX5_putBack 18 = .ok (.aload_n 0, 1) := by decide +kernel
theorem dX5_putBack_19 : decode cX5_putBack 19 = .ok (.getfield 15, 3) := by decide +kernel
theorem dX5_putBack_22 : decode cX5_putBack 22 = .ok (.iload_n 1, 1) := by decide +kernel
theorem dX5_putBack_23 : decode cX5_putBack 23 = .ok (.iaload, 1) := by decide +kernel
theorem dX5_putBack_24 : decode cX5_putBack 24 = .ok (.bipush 127, 2) := by decide +kernel
theorem dX5_putBack_26 : decode cX5_putBack 26 = .ok (.if_icmp .gt 20, 3) := by decide +kernel
theorem dX5_putBack_29 : decode cX5_putBack 29 = .ok (.aload_n 0, 1) := by decide +kernel
theorem dX5_putBack_30 : decode cX5_putBack 30 = .ok (.getfield 9, 3) := by decide +kernel
theorem dX5_putBack_33 : decode cX5_putBack 33 = .ok (.aload_n 0, 1) := by decide +kernel
theorem dX5_putBack_34 : decode cX5_putBack 34 = .ok (.getfield 15, 3) := by decide +kernel
theorem dX5_putBack_37 : decode cX5_putBack 37 = .ok (.iload_n 1, 1) := by decide +kernel
theorem dX5_putBack_38 : decode cX5_putBack 38 = .ok (.iaload, 1) := by decide +kernel
theorem dX5_putBack_39 : decode cX5_putBack 39 = .ok (.aload_n 0, 1) := by decide +kernel
theorem dX5_putBack_40 : decode cX5_putBack 40 = .ok (.getfield 18, 3) := by decide +kernel
theorem dX5_putBack_43 : decode cX5_putBack 43 = .ok (.iload_n 1, 1) := by decide +kernel
theorem dX5_putBack_44 : decode cX5_putBack 44 = .ok (.iaload, 1) := by decide +kernel
theorem dX5_putBack_45 : decode cX5_putBack 45 = .ok (.iastore, 1) := by decide +kernel
theorem dX5_putBack_46 : decode cX5_putBack 46 = .ok (.return_, 1) := by decide +kernel
theorem dX5_isLogPlace_0 : decode cX5_isLogPlace 0 = .ok (.iload_n 1, 1) := by decide +kernel
theorem dX5_isLogPlace_1 : decode cX5_isLogPlace 1 = .ok (.ifCond .lt 25, 3) := by decide +kernel
theorem dX5_isLogPlace_4 : decode cX5_isLogPlace 4 = .ok (.iload_n 1, 1) := by decide +kernel
theorem dX5_isLogPlace_5 : decode cX5_isLogPlace 5 = .ok (.aload_n 0, 1) := by decide +kernel
theorem dX5_isLogPlace_6 : decode cX5_isLogPlace 6 = .ok (.getfield 15, 3) := by decide +kernel
theorem dX5_isLogPlace_9 : decode cX5_isLogPlace 9 = .ok (.arraylength, 1) := by decide +kernel
theorem dX5_isLogPlace_10 : decode cX5_isLogPlace 10 = .ok (.if_icmp .ge 16, 3) := by decide +kernel
theorem dX5_isLogPlace_13 : decode cX5_isLogPlace 13 = .ok (.iload_n 1, 1) := by decide +kernel
theorem dX5_isLogPlace_14 : decode cX5_isLogPlace 14 = .ok (.aload_n 0, 1) := by decide +kernel
theorem dX5_isLogPlace_15 : decode cX5_isLogPlace 15 = .ok (.getfield 18, 3) := by decide +kernel
theorem dX5_isLogPlace_18 : decode cX5_isLogPlace 18 = .ok (.arraylength, 1) := by decide +kernel
theorem dX5_isLogPlace_19 : decode cX5_isLogPlace 19 = .ok (.if_icmp .ge 7, 3) := by decide +kernel
theorem dX5_isLogPlace_22 : decode cX5_isLogPlace 22 = .ok (.iconst 1, 1) := by decide +kernel
theorem dX5_isLogPlace_23 : decode cX5_isLogPlace 23 = .ok (.goto 4, 3) := by decide +kernel
theorem dX5_isLogPlace_26 : decode cX5_isLogPlace 26 = .ok (.iconst 0, 1) := by decide +kernel
theorem dX5_isLogPlace_27 : decode cX5_isLogPlace 27 = .ok (.ireturn, 1) := by decide +kernel
theorem dX5_lowerBy_0 : decode cX5_lowerBy 0 = .ok (.iconst 0, 1) := by decide +kernel
theorem dX5_lowerBy_1 : decode cX5_lowerBy 1 = .ok (.istore_n 3, 1) := by decide +kernel
theorem dX5_lowerBy_2 : decode cX5_lowerBy 2 = .ok (.iload_n 3, 1) := by decide +kernel
theorem dX5_lowerBy_3 : decode cX5_lowerBy 3 = .ok (.bipush 64, 2) := by decide +kernel
theorem dX5_lowerBy_5 : decode cX5_lowerBy 5 = .ok (.if_icmp .ge 52, 3) := by decide +kernel
theorem dX5_lowerBy_8 : decode cX5_lowerBy 8 = .ok (.aload_n 0, 1) := by decide +kernel
theorem dX5_lowerBy_9 : decode cX5_lowerBy 9 = .ok (.getfield 24, 3) := by decide +kernel
theorem dX5_lowerBy_12 : decode cX5_lowerBy 12 = .ok (.iload_n 3, 1) := by decide +kernel
theorem dX5_lowerBy_13 : decode cX5_lowerBy 13 = .ok (.iaload, 1) := by decide +kernel
theorem dX5_lowerBy_14 : decode cX5_lowerBy 14 = .ok (.istore 4, 2) := by decide +kernel
theorem dX5_lowerBy_16 : decode cX5_lowerBy 16 = .ok (.aload_n 2, 1) := by decide +kernel
theorem dX5_lowerBy_17 : decode cX5_lowerBy 17 = .ok (.iload_n 3, 1) := by decide +kernel
theorem dX5_lowerBy_18 : decode cX5_lowerBy 18 = .ok (.invokevirtual 108, 3) := by decide +kernel
theorem dX5_lowerBy_21 : decode cX5_lowerBy 21 = .ok (.ifCond .eq 30, 3) := by decide +kernel
theorem dX5_lowerBy_24 : decode cX5_lowerBy 24 = .ok (.iload 4, 2) := by decide +kernel
theorem dX5_lowerBy_26 : decode cX5_lowerBy 26 = .ok (.iconst (-1), 1) := by decide +kernel
theorem dX5_lowerBy_27 : decode cX5_lowerBy 27 = .ok (.if_icmp .eq 17, 3) := by decide +kernel
theorem dX5_lowerBy_30 : decode cX5_lowerBy 30 = .ok (.aload_n 0, 1) := by decide +kernel
theorem dX5_lowerBy_31 : decode cX5_lowerBy 31 = .ok (.getfield 27, 3) := by decide +kernel
theorem dX5_lowerBy_34 : decode cX5_lowerBy 34 = .ok (.iload_n 1, 1) := by decide +kernel
theorem dX5_lowerBy_35 : decode cX5_lowerBy 35 = .ok (.iload 4, 2) := by decide +kernel
theorem dX5_lowerBy_37 : decode cX5_lowerBy 37 = .ok (.iload_n 3, 1) := by decide +kernel
theorem dX5_lowerBy_38 : decode cX5_lowerBy 38 = .ok (.invokevirtual 97, 3) := by decide +kernel
theorem dX5_lowerBy_41 : decode cX5_lowerBy 41 = .ok (.ifCond .eq 10, 3) := by decide +kernel
theorem dX5_lowerBy_44 : decode cX5_lowerBy 44 = .ok (.aload_n 0, 1) := by decide +kernel
theorem dX5_lowerBy_45 : decode cX5_lowerBy 45 = .ok (.getfield 24, 3) := by decide +kernel
theorem dX5_lowerBy_48 : decode cX5_lowerBy 48 = .ok (.iload_n 3, 1) := by decide +kernel
theorem dX5_lowerBy_49 : decode cX5_lowerBy 49 = .ok (.iload_n 1, 1) := by decide +kernel
theorem dX5_lowerBy_50 : decode cX5_lowerBy 50 = .ok (.iastore, 1) := by decide +kernel
theorem dX5_lowerBy_51 : decode cX5_lowerBy 51 = .ok (.iinc 3 1, 3) := by decide +kernel
theorem dX5_lowerBy_54 : decode cX5_lowerBy 54 = .ok (.goto (-52), 3) := by decide +kernel
theorem dX5_lowerBy_57 : decode cX5_lowerBy 57 = .ok (.return_, 1) := by decide +kernel
theorem dX5_bestAbove_0 : decode cX5_bestAbove 0 = .ok (.iconst (-1), 1) := by decide +kernel
theorem dX5_bestAbove_1 : decode cX5_bestAbove 1 = .ok (.istore_n 2, 1) := by decide +kernel
theorem dX5_bestAbove_2 : decode cX5_bestAbove 2 = .ok (.bipush 64, 2) := by decide +kernel
theorem dX5_bestAbove_4 : decode cX5_bestAbove 4 = .ok (.iload_n 1, 1) := by decide +kernel
theorem dX5_bestAbove_5 : decode cX5_bestAbove 5 = .ok (.iadd, 1) := by decide +kernel
theorem dX5_bestAbove_6 : decode cX5_bestAbove 6 = .ok (.istore_n 3, 1) := by decide +kernel
theorem dX5_bestAbove_7 : decode cX5_bestAbove 7 = .ok (.iload_n 3, 1) := by decide +kernel
theorem dX5_bestAbove_8 : decode cX5_bestAbove 8 = .ok (.iconst 1, 1) := by decide +kernel
theorem dX5_bestAbove_9 : decode cX5_bestAbove 9 = .ok (.if_icmp .lt 45, 3) := by decide +kernel
theorem dX5_bestAbove_12 : decode cX5_bestAbove 12 = .ok (.aload_n 0, 1) := by decide +kernel
theorem dX5_bestAbove_13 : decode cX5_bestAbove 13 = .ok (.iload_n 3, 1) := by decide +kernel
theorem dX5_bestAbove_14 : decode cX5_bestAbove 14 = .ok (.invokevirtual 111, 3) := by decide +kernel
theorem dX5_bestAbove_17 : decode cX5_bestAbove 17 = .ok (.istore 4, 2) := by decide +kernel
theorem dX5_bestAbove_19 : decode cX5_bestAbove 19 = .ok (.iload 4, 2) := by decide +kernel
theorem dX5_bestAbove_21 : decode cX5_bestAbove 21 = .ok (.iconst (-1), 1) := by decide +kernel
theorem dX5_bestAbove_22 : decode cX5_bestAbove 22 = .ok (.if_icmp .eq 25, 3) := by decide +kernel
theorem dX5_bestAbove_25 : decode cX5_bestAbove 25 = .ok (.iload_n 2, 1) := by decide +kernel
theorem dX5_bestAbove_26 : decode cX5_bestAbove 26 = .ok (.iconst (-1), 1) := by decide +kernel
theorem dX5_bestAbove_27 : decode cX5_bestAbove 27 = .ok (.if_icmp .eq 17, 3) := by decide +kernel
theorem dX5_bestAbove_30 : decode cX5_bestAbove 30 = .ok (.aload_n 0, 1) := by decide +kernel
theorem dX5_bestAbove_31 : decode cX5_bestAbove 31 = .ok (.getfield 27, 3) := by decide +kernel
theorem dX5_bestAbove_34 : decode cX5_bestAbove 34 = .ok (.iload 4, 2) := by decide +kernel
theorem dX5_bestAbove_36 : decode cX5_bestAbove 36 = .ok (.iload_n 2, 1) := by decide +kernel
theorem dX5_bestAbove_37 : decode cX5_bestAbove 37 = .ok (.iload_n 1, 1) := by decide +kernel
theorem dX5_bestAbove_38 : decode cX5_bestAbove 38 = .ok (.invokevirtual 97, 3) := by decide +kernel
theorem dX5_bestAbove_41 : decode cX5_bestAbove 41 = .ok (.ifCond .eq 6, 3) := by decide +kernel
theorem dX5_bestAbove_44 : decode cX5_bestAbove 44 = .ok (.iload 4, 2) := by decide +kernel
theorem dX5_bestAbove_46 : decode cX5_bestAbove 46 = .ok (.istore_n 2, 1) := by decide +kernel
theorem dX5_bestAbove_47 : decode cX5_bestAbove 47 = .ok (.iload_n 3, 1) := by decide +kernel
theorem dX5_bestAbove_48 : decode cX5_bestAbove 48 = .ok (.iconst 2, 1) := by decide +kernel
theorem dX5_bestAbove_49 : decode cX5_bestAbove 49 = .ok (.idiv, 1) := by decide +kernel
theorem dX5_bestAbove_50 : decode cX5_bestAbove 50 = .ok (.istore_n 3, 1) := by decide +kernel
theorem dX5_bestAbove_51 : decode cX5_bestAbove 51 = .ok (.goto (-44), 3) := by decide +kernel
theorem dX5_bestAbove_54 : decode cX5_bestAbove 54 = .ok (.iload_n 2, 1) := by decide +kernel
theorem dX5_bestAbove_55 : decode cX5_bestAbove 55 = .ok (.ireturn, 1) := by decide +kernel
theorem dJ11_isValidCodePoint_9a6ad_0 : decode cJ11_isValidCodePoint_9a6ad 0 = .ok (.iload_n 0, 1) := by decide +kernel
theorem dJ11_isValidCodePoint_9a6ad_1 : decode cJ11_isValidCodePoint_9a6ad 1 = .ok (.bipush 16, 2) := by decide +kernel
theorem dJ11_isValidCodePoint_9a6ad_3 : decode cJ11_isValidCodePoint_9a6ad 3 = .ok (.iushr, 1) := by decide +kernel
theorem dJ11_isValidCodePoint_9a6ad_4 : decode cJ11_isValidCodePoint_9a6ad 4 = .ok (.istore_n 1, 1) := by decide +kernel
theorem dJ11_isValidCodePoint_9a6ad_5 : decode cJ11_isValidCodePoint_9a6ad 5 = .ok (.iload_n 1, 1) := by decide +kernel
theorem dJ11_isValidCodePoint_9a6ad_6 : decode cJ11_isValidCodePoint_9a6ad 6 = .ok (.bipush 17, 2) := by decide +kernel
theorem dJ11_isValidCodePoint_9a6ad_8 : decode cJ11_isValidCodePoint_9a6ad 8 = .ok (.if_icmp .ge 7, 3) := by decide +kernel
theorem dJ11_isValidCodePoint_9a6ad_11 : decode cJ11_isValidCodePoint_9a6ad 11 = .ok (.iconst 1, 1) := by decide +kernel
theorem dJ11_isValidCodePoint_9a6ad_12 : decode cJ11_isValidCodePoint_9a6ad 12 = .ok (.goto 4, 3) := by decide +kernel
theorem dJ11_isValidCodePoint_9a6ad_15 : decode cJ11_isValidCodePoint_9a6ad 15 = .ok (.iconst 0, 1) := by decide +kernel
theorem dJ11_isValidCodePoint_9a6ad_16 : decode cJ11_isValidCodePoint_9a6ad 16 = .ok (.ireturn, 1) := by decide +kernel
theorem dJ11_highSurrogate_5068e_0 : decode cJ11_highSurrogate_5068e 0 = .ok (.iload_n 0, 1) := by decide +kernel
theorem dJ11_highSurrogate_5068e_1 : decode cJ11_highSurrogate_5068e 1 = .ok (.bipush 10, 2) := by decide +kernel
theorem dJ11_highSurrogate_5068e_3 : decode cJ11_highSurrogate_5068e 3 = .ok (.iushr, 1) := by decide +kernel
theorem dJ11_highSurrogate_5068e_4 : decode cJ11_highSurrogate_5068e 4 = .ok (.ldc 110, 2) := by decide +kernel
theorem dJ11_highSurrogate_5068e_6 : decode cJ11_highSurrogate_5068e 6 = .ok (.iadd, 1) := by decide +kernel
theorem dJ11_highSurrogate_5068e_7 : decode cJ11_highSurrogate_5068e 7 = .ok (.i2c, 1) := by decide +kernel
theorem dJ11_highSurrogate_5068e_8 : decode cJ11_highSurrogate_5068e 8 = .ok (.ireturn, 1) := by decide +kernel
theorem dJ11_lowSurrogate_5068e_0 : decode cJ11_lowSurrogate_5068e 0 = .ok (.iload_n 0, 1) := by decide +kernel
theorem dJ11_lowSurrogate_5068e_1 : decode cJ11_lowSurrogate_5068e 1 = .ok (.sipush 1023, 3) := by decide +kernel
theorem dJ11_lowSurrogate_5068e_4 : decode cJ11_lowSurrogate_5068e 4 = .ok (.iand, 1) := by decide +kernel
theorem dJ11_lowSurrogate_5068e_5 : decode cJ11_lowSurrogate_5068e 5 = .ok (.ldc 76, 2) := by decide +kernel
theorem dJ11_lowSurrogate_5068e_7 : decode cJ11_lowSurrogate_5068e 7 = .ok (.iadd, 1) := by decide +kernel
theorem dJ11_lowSurrogate_5068e_8 : decode cJ11_lowSurrogate_5068e 8 = .ok (.i2c, 1) := by decide +kernel
theorem dJ11_lowSurrogate_5068e_9 : decode cJ11_lowSurrogate_5068e 9 = .ok (.ireturn, 1) := by decide +kernel
theorem dJ9_floorDiv_7cf53_0 : decode cJ9_floorDiv_7cf53 0 = .ok (.iload_n 0, 1) := by decide +kernel
theorem dJ9_floorDiv_7cf53_1 : decode cJ9_floorDiv_7cf53 1 = .ok (.iload_n 1, 1) := by decide +kernel
theorem dJ9_floorDiv_7cf53_2 : decode cJ9_floorDiv_7cf53 2 = .ok (.idiv, 1) := by decide +kernel
theorem dJ9_floorDiv_7cf53_3 : decode cJ9_floorDiv_7cf53 3 = .ok (.istore_n 2, 1) := by decide +kernel
theorem dJ9_floorDiv_7cf53_4 : decode cJ9_floorDiv_7cf53 4 = .ok (.iload_n 0, 1) := by decide +kernel
theorem dJ9_floorDiv_7cf53_5 : decode cJ9_floorDiv_7cf53 5 = .ok (.iload_n 1, 1) := by decide +kernel
theorem dJ9_floorDiv_7cf53_6 : decode cJ9_floorDiv_7cf53 6 = .ok (.ixor, 1) := by decide +kernel
theorem dJ9_floorDiv_7cf53_7 : decode cJ9_floorDiv_7cf53 7 = .ok (.ifCond .ge 14, 3) := by decide +kernel
theorem dJ9_floorDiv_7cf53_10 : decode cJ9_floorDiv_7cf53 10 = .ok (.iload_n 2, 1) := by decide +kernel
theorem dJ9_floorDiv_7cf53_11 : decode cJ9_floorDiv_7cf53 11 = .ok (.iload_n 1, 1) := by decide +kernel
theorem dJ9_floorDiv_7cf53_12 : decode cJ9_floorDiv_7cf53 12 = .ok (.imul, 1) := by decide +kernel
theorem dJ9_floorDiv_7cf53_13 : decode cJ9_floorDiv_7cf53 13 = .ok (.iload_n 0, 1) := by decide +kernel
theorem dJ9_floorDiv_7cf53_14 : decode cJ9_floorDiv_7cf53 14 = .ok (.if_icmp .eq 7, 3) := by decide +kernel
theorem dJ9_floorDiv_7cf53_17 : decode cJ9_floorDiv_7cf53 17 = .ok (.iload_n 2, 1) := by decide +kernel
theorem dJ9_floorDiv_7cf53_18 : decode cJ9_floorDiv_7cf53 18 = .ok (.iconst 1, 1) := by decide +kernel
theorem dJ9_floorDiv_7cf53_19 : decode cJ9_floorDiv_7cf53 19 = .ok (.isub, 1) := by decide +kernel
theorem dJ9_floorDiv_7cf53_20 : decode cJ9_floorDiv_7cf53 20 = .ok (.ireturn, 1) := by decide +kernel
theorem dJ9_floorDiv_7cf53_21 : decode cJ9_floorDiv_7cf53 21 = .ok (.iload_n 2, 1) := by decide +kernel
theorem dJ9_floorDiv_7cf53_22 : decode cJ9_floorDiv_7cf53 22 = .ok (.ireturn, 1) := by decide +kernel
theorem dJ9_max_7cf53_0 : decode cJ9_max_7cf53 0 = .ok (.iload_n 0, 1) := by decide +kernel
theorem dJ9_max_7cf53_1 : decode cJ9_max_7cf53 1 = .ok (.iload_n 1, 1) := by decide +kernel
theorem dJ9_max_7cf53_2 : decode cJ9_max_7cf53 2 = .ok (.if_icmp .lt 7, 3) := by decide +kernel
theorem dJ9_max_7cf53_5 : decode cJ9_max_7cf53 5 = .ok (.iload_n 0, 1) := by decide +kernel
theorem dJ9_max_7cf53_6 : decode cJ9_max_7cf53 6 = .ok (.goto 4, 3) := by decide +kernel
theorem dJ9_max_7cf53_9 : decode cJ9_max_7cf53 9 = .ok (.iload_n 1, 1) := by decide +kernel
theorem dJ9_max_7cf53_10 : decode cJ9_max_7cf53 10 = .ok (.ireturn, 1) := by decide +kernel
theorem dJ9_min_7cf53_0 : decode cJ9_min_7cf53 0 = .ok (.iload_n 0, 1) := by decide +kernel
theorem dJ9_min_7cf53_1 : decode cJ9_min_7cf53 1 = .ok (.iload_n 1, 1) := by decide +kernel
theorem dJ9_min_7cf53_2 : decode cJ9_min_7cf53 2 = .ok (.if_icmp .gt 7, 3) := by decide +kernel
theorem dJ9_min_7cf53_5 : decode cJ9_min_7cf53 5 = .ok (.iload_n 0, 1) := by decide +kernel
theorem dJ9_min_7cf53_6 : decode cJ9_min_7cf53 6 = .ok (.goto 4, 3) := by decide +kernel
theorem dJ9_min_7cf53_9 : decode cJ9_min_7cf53 9 = .ok (.iload_n 1, 1) := by decide +kernel
theorem dJ9_min_7cf53_10 : decode cJ9_min_7cf53 10 = .ok (.ireturn, 1) := by decide +kernel
theorem dJ0_length_8abf5_0 : decode cJ0_length_8abf5 0 = .ok (.aload_n 0, 1) := by decide +kernel
theorem dJ0_length_8abf5_1 : decode cJ0_length_8abf5 1 = .ok (.getfield 9, 3) := by decide +kernel
theorem dJ0_length_8abf5_4 : decode cJ0_length_8abf5 4 = .ok (.arraylength, 1) := by decide +kernel
theorem dJ0_length_8abf5_5 : decode cJ0_length_8abf5 5 = .ok (.aload_n 0, 1) := by decide +kernel
theorem dJ0_length_8abf5_6 : decode cJ0_length_8abf5 6 = .ok (.invokevirtual 335, 3) := by decide +kernel
theorem dJ0_length_8abf5_9 : decode cJ0_length_8abf5 9 = .ok (.ishr, 1) := by decide +kernel
theorem dJ0_length_8abf5_10 : decode cJ0_length_8abf5 10 = .ok (.ireturn, 1) := by decide +kernel
theorem dJ0_indexOf_0f7a4_0 : decode cJ0_indexOf_0f7a4 0 = .ok (.aload_n 0, 1) := by decide +kernel
theorem dJ0_indexOf_0f7a4_1 : decode cJ0_indexOf_0f7a4 1 = .ok (.iload_n 1, 1) := by decide +kernel
theorem dJ0_indexOf_0f7a4_2 : decode cJ0_indexOf_0f7a4 2 = .ok (.iconst 0, 1) := by decide +kernel
theorem dJ0_indexOf_0f7a4_3 : decode cJ0_indexOf_0f7a4 3 = .ok (.invokevirtual 633, 3) := by decide +kernel
theorem dJ0_indexOf_0f7a4_6 : decode cJ0_indexOf_0f7a4 6 = .ok (.ireturn, 1) := by decide +kernel
theorem dJ0_indexOf_7cf53_0 : decode cJ0_indexOf_7cf53 0 = .ok (.aload_n 0, 1) := by decide +kernel
theorem dJ0_indexOf_7cf53_1 : decode cJ0_indexOf_7cf53 1 = .ok (.invokevirtual 492, 3) := by decide +kernel
theorem dJ0_indexOf_7cf53_4 : decode cJ0_indexOf_7cf53 4 = .ok (.ifCond .eq 19, 3) := by decide +kernel
theorem dJ0_indexOf_7cf53_7 : decode cJ0_indexOf_7cf53 7 = .ok (.aload_n 0, 1) := by decide +kernel
theorem dJ0_indexOf_7cf53_8 : decode cJ0_indexOf_7cf53 8 = .ok (.getfield 9, 3) := by decide +kernel
theorem dJ0_indexOf_7cf53_11 : decode cJ0_indexOf_7cf53 11 = .ok (.iload_n 1, 1) := by decide +kernel
theorem dJ0_indexOf_7cf53_12 : decode cJ0_indexOf_7cf53 12 = .ok (.iload_n 2, 1) := by decide +kernel
theorem dJ0_indexOf_7cf53_13 : decode cJ0_indexOf_7cf53 13 = .ok (.aload_n 0, 1) := by decide +kernel
theorem dJ0_indexOf_7cf53_14 : decode cJ0_indexOf_7cf53 14 = .ok (.invokevirtual 505, 3) := by decide +kernel
theorem dJ0_indexOf_7cf53_17 : decode cJ0_indexOf_7cf53 17 = .ok (.invokestatic 637, 3) := by decide +kernel
theorem dJ0_indexOf_7cf53_20 : decode cJ0_indexOf_7cf53 20 = .ok (.goto 16, 3) := by decide +kernel
theorem dJ0_indexOf_7cf53_23 : decode cJ0_indexOf_7cf53 23 = .ok (.aload_n 0, 1) := by decide +kernel
theorem dJ0_indexOf_7cf53_24 : decode cJ0_indexOf_7cf53 24 = .ok (.getfield 9, 3) := by decide +kernel
theorem dJ0_indexOf_7cf53_27 : decode cJ0_indexOf_7cf53 27 = .ok (.iload_n 1, 1) := by decide +kernel
theorem dJ0_indexOf_7cf53_28 : decode cJ0_indexOf_7cf53 28 = .ok (.iload_n 2, 1) := by decide +kernel
theorem dJ0_indexOf_7cf53_29 : decode cJ0_indexOf_7cf53 29 = .ok (.aload_n 0, 1) := by decide +kernel
theorem dJ0_indexOf_7cf53_30 : decode cJ0_indexOf_7cf53 30 = .ok (.invokevirtual 505, 3) := by decide +kernel
theorem dJ0_indexOf_7cf53_33 : decode cJ0_indexOf_7cf53 33 = .ok (.invokestatic 640, 3) := by decide +kernel
theorem dJ0_indexOf_7cf53_36 : decode cJ0_indexOf_7cf53 36 = .ok (.ireturn, 1) := by decide +kernel
theorem dJ0_coder_7d493_0 : decode cJ0_coder_7d493 0 = .ok (.getstatic 38, 3) := by decide +kernel
theorem dJ0_coder_7d493_3 : decode cJ0_coder_7d493 3 = .ok (.ifCond .eq 10, 3) := by decide +kernel
theorem dJ0_coder_7d493_6 : decode cJ0_coder_7d493 6 = .ok (.aload_n 0, 1) := by decide +kernel
theorem dJ0_coder_7d493_7 : decode cJ0_coder_7d493 7 = .ok (.getfield 15, 3) := by decide +kernel
theorem dJ0_coder_7d493_10 : decode cJ0_coder_7d493 10 = .ok (.goto 4, 3) := by decide +kernel
theorem dJ0_coder_7d493_13 : decode cJ0_coder_7d493 13 = .ok (.iconst 1, 1) := by decide +kernel
theorem dJ0_coder_7d493_14 : decode cJ0_coder_7d493 14 = .ok (.ireturn, 1) := by decide +kernel
theorem dJ0_isLatin1_aae02_0 : decode cJ0_isLatin1_aae02 0 = .ok (.getstatic 38, 3) := by decide +kernel
theorem dJ0_isLatin1_aae02_3 : decode cJ0_isLatin1_aae02 3 = .ok (.ifCond .eq 14, 3) := by decide +kernel
theorem dJ0_isLatin1_aae02_6 : decode cJ0_isLatin1_aae02 6 = .ok (.aload_n 0, 1) := by decide +kernel
theorem dJ0_isLatin1_aae02_7 : decode cJ0_isLatin1_aae02 7 = .ok (.getfield 15, 3) := by decide +kernel
theorem dJ0_isLatin1_aae02_10 : decode cJ0_isLatin1_aae02 10 = .ok (.ifCond .ne 7, 3) := by decide +kernel
theorem dJ0_isLatin1_aae02_13 : decode cJ0_isLatin1_aae02 13 = .ok (.iconst 1, 1) := by decide +kernel
theorem dJ0_isLatin1_aae02_14 : decode cJ0_isLatin1_aae02 14 = .ok (.goto 4, 3) := by decide +kernel
theorem dJ0_isLatin1_aae02_17 : decode cJ0_isLatin1_aae02 17 = .ok (.iconst 0, 1) := by decide +kernel
theorem dJ0_isLatin1_aae02_18 : decode cJ0_isLatin1_aae02 18 = .ok (.ireturn, 1) := by decide +kernel
theorem dJ0_checkBoundsBeginEnd_23922_0 : decode cJ0_checkBoundsBeginEnd_23922 0 = .ok (.iload_n 0, 1) := by decide +kernel
theorem dJ0_checkBoundsBeginEnd_23922_1 : decode cJ0_checkBoundsBeginEnd_23922 1 = .ok (.iload_n 1, 1) := by decide +kernel
theorem dJ0_checkBoundsBeginEnd_23922_2 : decode cJ0_checkBoundsBeginEnd_23922 2 = .ok (.iload_n 2, 1) := by decide +kernel
theorem dJ0_checkBoundsBeginEnd_23922_3 : decode cJ0_checkBoundsBeginEnd_23922 3 = .ok (.getstatic 1053, 3) := by decide +kernel
theorem dJ0_checkBoundsBeginEnd_23922_6 : decode cJ0_checkBoundsBeginEnd_23922 6 = .ok (.invokestatic 1062, 3) := by decide +kernel
theorem dJ0_checkBoundsBeginEnd_23922_9 : decode cJ0_checkBoundsBeginEnd_23922 9 = .ok (.pop, 1) := by decide +kernel
theorem dJ0_checkBoundsBeginEnd_23922_10 : decode cJ0_checkBoundsBeginEnd_23922 10 = .ok (.return_, 1) := by decide +kernel
theorem dJ1_canEncode_9a6ad_0 : decode cJ1_canEncode_9a6ad 0 = .ok (.iload_n 0, 1) := by decide +kernel
theorem dJ1_canEncode_9a6ad_1 : decode cJ1_canEncode_9a6ad 1 = .ok (.ifCond .lt 14, 3) := by decide +kernel
theorem dJ1_canEncode_9a6ad_4 : decode cJ1_canEncode_9a6ad 4 = .ok (.iload_n 0, 1) := by decide +kernel
theorem dJ1_canEncode_9a6ad_5 : decode cJ1_canEncode_9a6ad 5 = .ok (.sipush 255, 3) := by decide +kernel
theorem dJ1_canEncode_9a6ad_8 : decode cJ1_canEncode_9a6ad 8 = .ok (.if_icmp .gt 7, 3) := by decide +kernel
theorem dJ1_canEncode_9a6ad_11 : decode cJ1_canEncode_9a6ad 11 = .ok (.iconst 1, 1) := by decide +kernel
theorem dJ1_canEncode_9a6ad_12 : decode cJ1_canEncode_9a6ad 12 = .ok (.goto 4, 3) := by decide +kernel
theorem dJ1_canEncode_9a6ad_15 : decode cJ1_canEncode_9a6ad 15 = .ok (.iconst 0, 1) := by decide +kernel
theorem dJ1_canEncode_9a6ad_16 : decode cJ1_canEncode_9a6ad 16 = .ok (.ireturn, 1) := by decide +kernel
theorem dJ1_indexOf_4cfef_0 : decode cJ1_indexOf_4cfef 0 = .ok (.iload_n 1, 1) := by decide +kernel
theorem dJ1_indexOf_4cfef_1 : decode cJ1_indexOf_4cfef 1 = .ok (.invokestatic 88, 3) := by decide +kernel
theorem dJ1_indexOf_4cfef_4 : decode cJ1_indexOf_4cfef 4 = .ok (.ifCond .ne 5, 3) := by decide +kernel
theorem dJ1_indexOf_4cfef_7 : decode cJ1_indexOf_4cfef 7 = .ok (.iconst (-1), 1) := by decide +kernel
theorem dJ1_indexOf_4cfef_8 : decode cJ1_indexOf_4cfef 8 = .ok (.ireturn, 1) := by decide +kernel
theorem dJ1_indexOf_4cfef_9 : decode cJ1_indexOf_4cfef 9 = .ok (.iload_n 2, 1) := by decide +kernel
theorem dJ1_indexOf_4cfef_10 : decode cJ1_indexOf_4cfef 10 = .ok (.iconst 0, 1) := by decide +kernel
theorem dJ1_indexOf_4cfef_11 : decode cJ1_indexOf_4cfef 11 = .ok (.invokestatic 92, 3) := by decide +kernel
theorem dJ1_indexOf_4cfef_14 : decode cJ1_indexOf_4cfef 14 = .ok (.istore_n 2, 1) := by decide +kernel
theorem dJ1_indexOf_4cfef_15 : decode cJ1_indexOf_4cfef 15 = .ok (.iload_n 3, 1) := by decide +kernel
theorem dJ1_indexOf_4cfef_16 : decode cJ1_indexOf_4cfef 16 = .ok (.aload_n 0, 1) := by decide +kernel
theorem dJ1_indexOf_4cfef_17 : decode cJ1_indexOf_4cfef 17 = .ok (.arraylength, 1) := by decide +kernel
theorem dJ1_indexOf_4cfef_18 : decode cJ1_indexOf_4cfef 18 = .ok (.invokestatic 38, 3) := by decide +kernel
theorem dJ1_indexOf_4cfef_21 : decode cJ1_indexOf_4cfef 21 = .ok (.istore_n 3, 1) := by decide +kernel
theorem dJ1_indexOf_4cfef_22 : decode cJ1_indexOf_4cfef 22 = .ok (.iload_n 2, 1) := by decide +kernel
theorem dJ1_indexOf_4cfef_23 : decode cJ1_indexOf_4cfef 23 = .ok (.iload_n 3, 1) := by decide +kernel
theorem dJ1_indexOf_4cfef_24 : decode cJ1_indexOf_4cfef 24 = .ok (.if_icmp .lt 5, 3) := by decide +kernel
theorem dJ1_indexOf_4cfef_27 : decode cJ1_indexOf_4cfef 27 = .ok (.iconst (-1), 1) := by decide +kernel
theorem dJ1_indexOf_4cfef_28 : decode cJ1_indexOf_4cfef 28 = .ok (.ireturn, 1) := by decide +kernel
theorem dJ1_indexOf_4cfef_29 : decode cJ1_indexOf_4cfef 29 = .ok (.aload_n 0, 1) := by decide +kernel
theorem dJ1_indexOf_4cfef_30 : decode cJ1_indexOf_4cfef 30 = .ok (.iload_n 1, 1) := by decide +kernel
theorem dJ1_indexOf_4cfef_31 : decode cJ1_indexOf_4cfef 31 = .ok (.iload_n 2, 1) := by decide +kernel
theorem dJ1_indexOf_4cfef_32 : decode cJ1_indexOf_4cfef 32 = .ok (.iload_n 3, 1) := by decide +kernel
theorem dJ1_indexOf_4cfef_33 : decode cJ1_indexOf_4cfef 33 = .ok (.invokestatic 95, 3) := by decide +kernel
theorem dJ1_indexOf_4cfef_36 : decode cJ1_indexOf_4cfef 36 = .ok (.ireturn, 1) := by decide +kernel
theorem dJ1_indexOfChar_4cfef_0 : decode cJ1_indexOfChar_4cfef 0 = .ok (.iload_n 1, 1) := by decide +kernel
theorem dJ1_indexOfChar_4cfef_1 : decode cJ1_indexOfChar_4cfef 1 = .ok (.i2b, 1) := by decide +kernel
theorem dJ1_indexOfChar_4cfef_2 : decode cJ1_indexOfChar_4cfef 2 = .ok (.istore 4, 2) := by decide +kernel
theorem dJ1_indexOfChar_4cfef_4 : decode cJ1_indexOfChar_4cfef 4 = .ok (.iload_n 2, 1) := by decide +kernel
theorem dJ1_indexOfChar_4cfef_5 : decode cJ1_indexOfChar_4cfef 5 = .ok (.istore 5, 2) := by decide +kernel
theorem dJ1_indexOfChar_4cfef_7 : decode cJ1_indexOfChar_4cfef 7 = .ok (.iload 5, 2) := by decide +kernel
theorem dJ1_indexOfChar_4cfef_9 : decode cJ1_indexOfChar_4cfef 9 = .ok (.iload_n 3, 1) := by decide +kernel
theorem dJ1_indexOfChar_4cfef_10 : decode cJ1_indexOfChar_4cfef 10 = .ok (.if_icmp .ge 21, 3) := by decide +kernel
theorem dJ1_indexOfChar_4cfef_13 : decode cJ1_indexOfChar_4cfef 13 = .ok (.aload_n 0, 1) := by decide +kernel
theorem dJ1_indexOfChar_4cfef_14 : decode cJ1_indexOfChar_4cfef 14 = .ok (.iload 5, 2) := by decide +kernel
theorem dJ1_indexOfChar_4cfef_16 : decode cJ1_indexOfChar_4cfef 16 = .ok (.baload, 1) := by decide +kernel
theorem dJ1_indexOfChar_4cfef_17 : decode cJ1_indexOfChar_4cfef 17 = .ok (.iload 4, 2) := by decide +kernel
theorem dJ1_indexOfChar_4cfef_19 : decode cJ1_indexOfChar_4cfef 19 = .ok (.if_icmp .ne 6, 3) := by decide +kernel
theorem dJ1_indexOfChar_4cfef_22 : decode cJ1_indexOfChar_4cfef 22 = .ok (.iload 5, 2) := by decide +kernel
theorem dJ1_indexOfChar_4cfef_24 : decode cJ1_indexOfChar_4cfef 24 = .ok (.ireturn, 1) := by decide +kernel
theorem dJ1_indexOfChar_4cfef_25 : decode cJ1_indexOfChar_4cfef 25 = .ok (.iinc 5 1, 3) := by decide +kernel
theorem dJ1_indexOfChar_4cfef_28 : decode cJ1_indexOfChar_4cfef 28 = .ok (.goto (-21), 3) := by decide +kernel
theorem dJ1_indexOfChar_4cfef_31 : decode cJ1_indexOfChar_4cfef 31 = .ok (.iconst (-1), 1) := by decide +kernel
theorem dJ1_indexOfChar_4cfef_32 : decode cJ1_indexOfChar_4cfef 32 = .ok (.ireturn, 1) := by decide +kernel
theorem dJ2_getChar_3b067_0 : decode cJ2_getChar_3b067 0 = .ok (.getstatic 44, 3) := by decide +kernel
theorem dJ2_getChar_3b067_3 : decode cJ2_getChar_3b067 3 = .ok (.ifCond .ne 25, 3) := by decide +kernel
theorem dJ2_getChar_3b067_6 : decode cJ2_getChar_3b067 6 = .ok (.iload_n 1, 1) := by decide +kernel
theorem dJ2_getChar_3b067_7 : decode cJ2_getChar_3b067 7 = .ok (.ifCond .lt 11, 3) := by decide +kernel
theorem dJ2_getChar_3b067_10 : decode cJ2_getChar_3b067 10 = .ok (.iload_n 1, 1) := by decide +kernel
theorem dJ2_getChar_3b067_11 : decode cJ2_getChar_3b067 11 = .ok (.aload_n 0, 1) := by decide +kernel
theorem dJ2_getChar_3b067_12 : decode cJ2_getChar_3b067 12 = .ok (.invokestatic 48, 3) := by decide +kernel
theorem dJ2_getChar_3b067_15 : decode cJ2_getChar_3b067 15 = .ok (.if_icmp .lt 13, 3) := by decide +kernel
theorem dJ2_getChar_3b067_18 : decode cJ2_getChar_3b067 18 = .ok (.new 52, 3) := by decide +kernel
theorem dJ2_getChar_3b067_21 : decode cJ2_getChar_3b067 21 = .ok (.dup, 1) := by decide +kernel
theorem dJ2_getChar_3b067_22 : decode cJ2_getChar_3b067 22 = .ok (.ldc 54, 2) := by decide +kernel
theorem dJ2_getChar_3b067_24 : decode cJ2_getChar_3b067 24 = .ok (.invokespecial 56, 3) := by decide +kernel
theorem dJ2_getChar_3b067_27 : decode cJ2_getChar_3b067 27 = .ok (.athrow, 1) := by decide +kernel
theorem dJ2_getChar_3b067_28 : decode cJ2_getChar_3b067 28 = .ok (.iload_n 1, 1) := by decide +kernel
theorem dJ2_getChar_3b067_29 : decode cJ2_getChar_3b067 29 = .ok (.iconst 1, 1) := by decide +kernel
theorem dJ2_getChar_3b067_30 : decode cJ2_getChar_3b067 30 = .ok (.ishl, 1) := by decide +kernel
theorem dJ2_getChar_3b067_31 : decode cJ2_getChar_3b067 31 = .ok (.istore_n 1, 1) := by decide +kernel
theorem dJ2_getChar_3b067_32 : decode cJ2_getChar_3b067 32 = .ok (.aload_n 0, 1) := by decide +kernel
theorem dJ2_getChar_3b067_33 : decode cJ2_getChar_3b067 33 = .ok (.iload_n 1, 1) := by decide +kernel
theorem dJ2_getChar_3b067_34 : decode cJ2_getChar_3b067 34 = .ok (.iinc 1 1, 3) := by decide +kernel
theorem dJ2_getChar_3b067_37 : decode cJ2_getChar_3b067 37 = .ok (.baload, 1) := by decide +kernel
theorem dJ2_getChar_3b067_38 : decode cJ2_getChar_3b067 38 = .ok (.sipush 255, 3) := by decide +kernel
theorem dJ2_getChar_3b067_41 : decode cJ2_getChar_3b067 41 = .ok (.iand, 1) := by decide +kernel
theorem dJ2_getChar_3b067_42 : decode cJ2_getChar_3b067 42 = .ok (.getstatic 59, 3) := by decide +kernel
theorem dJ2_getChar_3b067_45 : decode cJ2_getChar_3b067 45 = .ok (.ishl, 1) := by decide +kernel
theorem dJ2_getChar_3b067_46 : decode cJ2_getChar_3b067 46 = .ok (.aload_n 0, 1) := by decide +kernel
theorem dJ2_getChar_3b067_47 : decode cJ2_getChar_3b067 47 = .ok (.iload_n 1, 1) := by decide +kernel
theorem dJ2_getChar_3b067_48 : decode cJ2_getChar_3b067 48 = .ok (.baload, 1) := by decide +kernel
theorem dJ2_getChar_3b067_49 : decode cJ2_getChar_3b067 49 = .ok (.sipush 255, 3) := by decide +kernel
theorem dJ2_getChar_3b067_52 : decode cJ2_getChar_3b067 52 = .ok (.iand, 1) := by decide +kernel
theorem dJ2_getChar_3b067_53 : decode cJ2_getChar_3b067 53 = .ok (.getstatic 63, 3) := by decide +kernel
theorem dJ2_getChar_3b067_56 : decode cJ2_getChar_3b067 56 = .ok (.ishl, 1) := by decide +kernel
theorem dJ2_getChar_3b067_57 : decode cJ2_getChar_3b067 57 = .ok (.ior, 1) := by decide +kernel
theorem dJ2_getChar_3b067_58 : decode cJ2_getChar_3b067 58 = .ok (.i2c, 1) := by decide +kernel
theorem dJ2_getChar_3b067_59 : decode cJ2_getChar_3b067 59 = .ok (.ireturn, 1) := by decide +kernel
theorem dJ2_length_9d52b_0 : decode cJ2_length_9d52b 0 = .ok (.aload_n 0, 1) := by decide +kernel
theorem dJ2_length_9d52b_1 : decode cJ2_length_9d52b 1 = .ok (.arraylength, 1) := by decide +kernel
theorem dJ2_length_9d52b_2 : decode cJ2_length_9d52b 2 = .ok (.iconst 1, 1) := by decide +kernel
theorem dJ2_length_9d52b_3 : decode cJ2_length_9d52b 3 = .ok (.ishr, 1) := by decide +kernel
theorem dJ2_length_9d52b_4 : decode cJ2_length_9d52b 4 = .ok (.ireturn, 1) := by decide +kernel
theorem dJ2_indexOf_4cfef_0 : decode cJ2_indexOf_4cfef 0 = .ok (.iload_n 2, 1) := by decide +kernel
theorem dJ2_indexOf_4cfef_1 : decode cJ2_indexOf_4cfef 1 = .ok (.iconst 0, 1) := by decide +kernel
theorem dJ2_indexOf_4cfef_2 : decode cJ2_indexOf_4cfef 2 = .ok (.invokestatic 224, 3) := by decide +kernel
theorem dJ2_indexOf_4cfef_5 : decode cJ2_indexOf_4cfef 5 = .ok (.istore_n 2, 1) := by decide +kernel
theorem dJ2_indexOf_4cfef_6 : decode cJ2_indexOf_4cfef 6 = .ok (.iload_n 3, 1) := by decide +kernel
theorem dJ2_indexOf_4cfef_7 : decode cJ2_indexOf_4cfef 7 = .ok (.aload_n 0, 1) := by decide +kernel
theorem dJ2_indexOf_4cfef_8 : decode cJ2_indexOf_4cfef 8 = .ok (.arraylength, 1) := by decide +kernel
theorem dJ2_indexOf_4cfef_9 : decode cJ2_indexOf_4cfef 9 = .ok (.iconst 1, 1) := by decide +kernel
theorem dJ2_indexOf_4cfef_10 : decode cJ2_indexOf_4cfef 10 = .ok (.ishr, 1) := by decide +kernel
theorem dJ2_indexOf_4cfef_11 : decode cJ2_indexOf_4cfef 11 = .ok (.invokestatic 183, 3) := by decide +kernel
theorem dJ2_indexOf_4cfef_14 : decode cJ2_indexOf_4cfef 14 = .ok (.istore_n 3, 1) := by decide +kernel
theorem dJ2_indexOf_4cfef_15 : decode cJ2_indexOf_4cfef 15 = .ok (.iload_n 2, 1) := by decide +kernel
theorem dJ2_indexOf_4cfef_16 : decode cJ2_indexOf_4cfef 16 = .ok (.iload_n 3, 1) := by decide +kernel
theorem dJ2_indexOf_4cfef_17 : decode cJ2_indexOf_4cfef 17 = .ok (.if_icmp .lt 5, 3) := by decide +kernel
theorem dJ2_indexOf_4cfef_20 : decode cJ2_indexOf_4cfef 20 = .ok (.iconst (-1), 1) := by decide +kernel
theorem dJ2_indexOf_4cfef_21 : decode cJ2_indexOf_4cfef 21 = .ok (.ireturn, 1) := by decide +kernel
theorem dJ2_indexOf_4cfef_22 : decode cJ2_indexOf_4cfef 22 = .ok (.iload_n 1, 1) := by decide +kernel
theorem dJ2_indexOf_4cfef_23 : decode cJ2_indexOf_4cfef 23 = .ok (.ldc 227, 2) := by decide +kernel
theorem dJ2_indexOf_4cfef_25 : decode cJ2_indexOf_4cfef 25 = .ok (.if_icmp .ge 11, 3) := by decide +kernel
theorem dJ2_indexOf_4cfef_28 : decode cJ2_indexOf_4cfef 28 = .ok (.aload_n 0, 1) := by decide +kernel
theorem dJ2_indexOf_4cfef_29 : decode cJ2_indexOf_4cfef 29 = .ok (.iload_n 1, 1) := by decide +kernel
theorem dJ2_indexOf_4cfef_30 : decode cJ2_indexOf_4cfef 30 = .ok (.iload_n 2, 1) := by decide +kernel
theorem dJ2_indexOf_4cfef_31 : decode cJ2_indexOf_4cfef 31 = .ok (.iload_n 3, 1) := by decide +kernel
theorem dJ2_indexOf_4cfef_32 : decode cJ2_indexOf_4cfef 32 = .ok (.invokestatic 228, 3) := by decide +kernel
theorem dJ2_indexOf_4cfef_35 : decode cJ2_indexOf_4cfef 35 = .ok (.ireturn, 1) := by decide +kernel
theorem dJ2_indexOf_4cfef_36 : decode cJ2_indexOf_4cfef 36 = .ok (.aload_n 0, 1) := by decide +kernel
theorem dJ2_indexOf_4cfef_37 : decode cJ2_indexOf_4cfef 37 = .ok (.iload_n 1, 1) := by decide +kernel
theorem dJ2_indexOf_4cfef_38 : decode cJ2_indexOf_4cfef 38 = .ok (.iload_n 2, 1) := by decide +kernel
theorem dJ2_indexOf_4cfef_39 : decode cJ2_indexOf_4cfef 39 = .ok (.iload_n 3, 1) := by decide +kernel
theorem dJ2_indexOf_4cfef_40 : decode cJ2_indexOf_4cfef 40 = .ok (.invokestatic 232, 3) := by decide +kernel
theorem dJ2_indexOf_4cfef_43 : decode cJ2_indexOf_4cfef 43 = .ok (.ireturn, 1) := by decide +kernel
theorem dJ2_indexOfChar_4cfef_0 : decode cJ2_indexOfChar_4cfef 0 = .ok (.iload_n 2, 1) := by decide +kernel
theorem dJ2_indexOfChar_4cfef_1 : decode cJ2_indexOfChar_4cfef 1 = .ok (.iload_n 3, 1) := by decide +kernel
theorem dJ2_indexOfChar_4cfef_2 : decode cJ2_indexOfChar_4cfef 2 = .ok (.aload_n 0, 1) := by decide +kernel
theorem dJ2_indexOfChar_4cfef_3 : decode cJ2_indexOfChar_4cfef 3 = .ok (.invokestatic 96, 3) := by decide +kernel
theorem dJ2_indexOfChar_4cfef_6 : decode cJ2_indexOfChar_4cfef 6 = .ok (.aload_n 0, 1) := by decide +kernel
theorem dJ2_indexOfChar_4cfef_7 : decode cJ2_indexOfChar_4cfef 7 = .ok (.iload_n 1, 1) := by decide +kernel
theorem dJ2_indexOfChar_4cfef_8 : decode cJ2_indexOfChar_4cfef 8 = .ok (.iload_n 2, 1) := by decide +kernel
theorem dJ2_indexOfChar_4cfef_9 : decode cJ2_indexOfChar_4cfef 9 = .ok (.iload_n 3, 1) := by decide +kernel
theorem dJ2_indexOfChar_4cfef_10 : decode cJ2_indexOfChar_4cfef 10 = .ok (.invokestatic 244, 3) := by decide +kernel
theorem dJ2_indexOfChar_4cfef_13 : decode cJ2_indexOfChar_4cfef 13 = .ok (.ireturn, 1) := by decide +kernel
theorem dJ2_indexOfCharUnsafe_4cfef_0 : decode cJ2_indexOfCharUnsafe_4cfef 0 = .ok (.iload_n 2, 1) := by decide +kernel
theorem dJ2_indexOfCharUnsafe_4cfef_1 : decode cJ2_indexOfCharUnsafe_4cfef 1 = .ok (.istore 4, 2) := by decide +kernel
theorem dJ2_indexOfCharUnsafe_4cfef_3 : decode cJ2_indexOfCharUnsafe_4cfef 3 = .ok (.iload 4, 2) := by decide +kernel
theorem dJ2_indexOfCharUnsafe_4cfef_5 : decode cJ2_indexOfCharUnsafe_4cfef 5 = .ok (.iload_n 3, 1) := by decide +kernel
theorem dJ2_indexOfCharUnsafe_4cfef_6 : decode cJ2_indexOfCharUnsafe_4cfef 6 = .ok (.if_icmp .ge 22, 3) := by decide +kernel
theorem dJ2_indexOfCharUnsafe_4cfef_9 : decode cJ2_indexOfCharUnsafe_4cfef 9 = .ok (.aload_n 0, 1) := by decide +kernel
theorem dJ2_indexOfCharUnsafe_4cfef_10 : decode cJ2_indexOfCharUnsafe_4cfef 10 = .ok (.iload 4, 2) := by decide +kernel
theorem dJ2_indexOfCharUnsafe_4cfef_12 : decode cJ2_indexOfCharUnsafe_4cfef 12 = .ok (.invokestatic 71, 3) := by decide +kernel
theorem dJ2_indexOfCharUnsafe_4cfef_15 : decode cJ2_indexOfCharUnsafe_4cfef 15 = .ok (.iload_n 1, 1) := by decide +kernel
theorem dJ2_indexOfCharUnsafe_4cfef_16 : decode cJ2_indexOfCharUnsafe_4cfef 16 = .ok (.if_icmp .ne 6, 3) := by decide +kernel
theorem dJ2_indexOfCharUnsafe_4cfef_19 : decode cJ2_indexOfCharUnsafe_4cfef 19 = .ok (.iload 4, 2) := by decide +kernel
theorem dJ2_indexOfCharUnsafe_4cfef_21 : decode cJ2_indexOfCharUnsafe_4cfef 21 = .ok (.ireturn, 1) := by decide +kernel
theorem dJ2_indexOfCharUnsafe_4cfef_22 : decode cJ2_indexOfCharUnsafe_4cfef 22 = .ok (.iinc 4 1, 3) := by decide +kernel
theorem dJ2_indexOfCharUnsafe_4cfef_25 : decode cJ2_indexOfCharUnsafe_4cfef 25 = .ok (.goto (-22), 3) := by decide +kernel
theorem dJ2_indexOfCharUnsafe_4cfef_28 : decode cJ2_indexOfCharUnsafe_4cfef 28 = .ok (.iconst (-1), 1) := by decide +kernel
theorem dJ2_indexOfCharUnsafe_4cfef_29 : decode cJ2_indexOfCharUnsafe_4cfef 29 = .ok (.ireturn, 1) := by decide +kernel
theorem dJ2_indexOfSupplementary_4cfef_0 : decode cJ2_indexOfSupplementary_4cfef 0 = .ok (.iload_n 1, 1) := by decide +kernel
theorem dJ2_indexOfSupplementary_4cfef_1 : decode cJ2_indexOfSupplementary_4cfef 1 = .ok (.invokestatic 164, 3) := by decide +kernel
theorem dJ2_indexOfSupplementary_4cfef_4 : decode cJ2_indexOfSupplementary_4cfef 4 = .ok (.ifCond .eq 65, 3) := by decide +kernel
theorem dJ2_indexOfSupplementary_4cfef_7 : decode cJ2_indexOfSupplementary_4cfef 7 = .ok (.iload_n 1, 1) := by decide +kernel
theorem dJ2_indexOfSupplementary_4cfef_8 : decode cJ2_indexOfSupplementary_4cfef 8 = .ok (.invokestatic 157, 3) := by decide +kernel
theorem dJ2_indexOfSupplementary_4cfef_11 : decode cJ2_indexOfSupplementary_4cfef 11 = .ok (.istore 4, 2) := by decide +kernel
theorem dJ2_indexOfSupplementary_4cfef_13 : decode cJ2_indexOfSupplementary_4cfef 13 = .ok (.iload_n 1, 1) := by decide +kernel
theorem dJ2_indexOfSupplementary_4cfef_14 : decode cJ2_indexOfSupplementary_4cfef 14 = .ok (.invokestatic 161, 3) := by decide +kernel
theorem dJ2_indexOfSupplementary_4cfef_17 : decode cJ2_indexOfSupplementary_4cfef 17 = .ok (.istore 5, 2) := by decide +kernel
theorem dJ2_indexOfSupplementary_4cfef_19 : decode cJ2_indexOfSupplementary_4cfef 19 = .ok (.iload_n 2, 1) := by decide +kernel
theorem dJ2_indexOfSupplementary_4cfef_20 : decode cJ2_indexOfSupplementary_4cfef 20 = .ok (.iload_n 3, 1) := by decide +kernel
theorem dJ2_indexOfSupplementary_4cfef_21 : decode cJ2_indexOfSupplementary_4cfef 21 = .ok (.aload_n 0, 1) := by decide +kernel
theorem dJ2_indexOfSupplementary_4cfef_22 : decode cJ2_indexOfSupplementary_4cfef 22 = .ok (.invokestatic 96, 3) := by decide +kernel
theorem dJ2_indexOfSupplementary_4cfef_25 : decode cJ2_indexOfSupplementary_4cfef 25 = .ok (.iload_n 2, 1) := by decide +kernel
theorem dJ2_indexOfSupplementary_4cfef_26 : decode cJ2_indexOfSupplementary_4cfef 26 = .ok (.istore 6, 2) := by decide +kernel
theorem dJ2_indexOfSupplementary_4cfef_28 : decode cJ2_indexOfSupplementary_4cfef 28 = .ok (.iload 6, 2) := by decide +kernel
theorem dJ2_indexOfSupplementary_4cfef_30 : decode cJ2_indexOfSupplementary_4cfef 30 = .ok (.iload_n 3, 1) := by decide +kernel
theorem dJ2_indexOfSupplementary_4cfef_31 : decode cJ2_indexOfSupplementary_4cfef 31 = .ok (.iconst 1, 1) := by decide +kernel
theorem dJ2_indexOfSupplementary_4cfef_32 : decode cJ2_indexOfSupplementary_4cfef 32 = .ok (.isub, 1) := by decide +kernel
theorem dJ2_indexOfSupplementary_4cfef_33 : decode cJ2_indexOfSupplementary_4cfef 33 = .ok (.if_icmp .ge 36, 3) := by decide +kernel
theorem dJ2_indexOfSupplementary_4cfef_36 : decode cJ2_indexOfSupplementary_4cfef 36 = .ok (.aload_n 0, 1) := by decide +kernel
theorem dJ2_indexOfSupplementary_4cfef_37 : decode cJ2_indexOfSupplementary_4cfef 37 = .ok (.iload 6, 2) := by decide +kernel
theorem dJ2_indexOfSupplementary_4cfef_39 : decode cJ2_indexOfSupplementary_4cfef 39 = .ok (.invokestatic 71, 3) := by decide +kernel
theorem dJ2_indexOfSupplementary_4cfef_42 : decode cJ2_indexOfSupplementary_4cfef 42 = .ok (.iload 4, 2) := by decide +kernel
theorem dJ2_indexOfSupplementary_4cfef_44 : decode cJ2_indexOfSupplementary_4cfef 44 = .ok (.if_icmp .ne 19, 3) := by decide +kernel
theorem dJ2_indexOfSupplementary_4cfef_47 : decode cJ2_indexOfSupplementary_4cfef 47 = .ok (.aload_n 0, 1) := by decide +kernel
theorem dJ2_indexOfSupplementary_4cfef_48 : decode cJ2_indexOfSupplementary_4cfef 48 = .ok (.iload 6, 2) := by decide +kernel
theorem dJ2_indexOfSupplementary_4cfef_50 : decode cJ2_indexOfSupplementary_4cfef 50 = .ok (.iconst 1, 1) := by decide +kernel
theorem dJ2_indexOfSupplementary_4cfef_51 : decode cJ2_indexOfSupplementary_4cfef 51 = .ok (.iadd, 1) := by decide +kernel
theorem dJ2_indexOfSupplementary_4cfef_52 : decode cJ2_indexOfSupplementary_4cfef 52 = .ok (.invokestatic 71, 3) := by decide +kernel
theorem dJ2_indexOfSupplementary_4cfef_55 : decode cJ2_indexOfSupplementary_4cfef 55 = .ok (.iload 5, 2) := by decide +kernel
theorem dJ2_indexOfSupplementary_4cfef_57 : decode cJ2_indexOfSupplementary_4cfef 57 = .ok (.if_icmp .ne 6, 3) := by decide +kernel
theorem dJ2_indexOfSupplementary_4cfef_60 : decode cJ2_indexOfSupplementary_4cfef 60 = .ok (.iload 6, 2) := by decide +kernel
theorem dJ2_indexOfSupplementary_4cfef_62 : decode cJ2_indexOfSupplementary_4cfef 62 = .ok (.ireturn, 1) := by decide +kernel
theorem dJ2_indexOfSupplementary_4cfef_63 : decode cJ2_indexOfSupplementary_4cfef 63 = .ok (.iinc 6 1, 3) := by decide +kernel
theorem dJ2_indexOfSupplementary_4cfef_66 : decode cJ2_indexOfSupplementary_4cfef 66 = .ok (.goto (-38), 3) := by decide +kernel
theorem dJ2_indexOfSupplementary_4cfef_69 : decode cJ2_indexOfSupplementary_4cfef 69 = .ok (.iconst (-1), 1) := by decide +kernel
theorem dJ2_indexOfSupplementary_4cfef_70 : decode cJ2_indexOfSupplementary_4cfef 70 = .ok (.ireturn, 1) := by decide +kernel
theorem dJ2_checkBoundsBeginEnd_d044e_0 : decode cJ2_checkBoundsBeginEnd_d044e 0 = .ok (.iload_n 0, 1) := by decide +kernel
theorem dJ2_checkBoundsBeginEnd_d044e_1 : decode cJ2_checkBoundsBeginEnd_d044e 1 = .ok (.iload_n 1, 1) := by decide +kernel
theorem dJ2_checkBoundsBeginEnd_d044e_2 : decode cJ2_checkBoundsBeginEnd_d044e 2 = .ok (.aload_n 2, 1) := by decide +kernel
theorem dJ2_checkBoundsBeginEnd_d044e_3 : decode cJ2_checkBoundsBeginEnd_d044e 3 = .ok (.invokestatic 48, 3) := by decide +kernel
theorem dJ2_checkBoundsBeginEnd_d044e_6 : decode cJ2_checkBoundsBeginEnd_d044e 6 = .ok (.invokestatic 241, 3) := by decide +kernel
theorem dJ2_checkBoundsBeginEnd_d044e_9 : decode cJ2_checkBoundsBeginEnd_d044e 9 = .ok (.return_, 1) := by decide +kernel
theorem dJ7_fill_53178_0 : decode cJ7_fill_53178 0 = .ok (.iconst 0, 1) := by decide +kernel
theorem dJ7_fill_53178_1 : decode cJ7_fill_53178 1 = .ok (.istore_n 2, 1) := by decide +kernel
theorem dJ7_fill_53178_2 : decode cJ7_fill_53178 2 = .ok (.aload_n 0, 1) := by decide +kernel
theorem dJ7_fill_53178_3 : decode cJ7_fill_53178 3 = .ok (.arraylength, 1) := by decide +kernel
theorem dJ7_fill_53178_4 : decode cJ7_fill_53178 4 = .ok (.istore_n 3, 1) := by decide +kernel
theorem dJ7_fill_53178_5 : decode cJ7_fill_53178 5 = .ok (.iload_n 2, 1) := by decide +kernel
theorem dJ7_fill_53178_6 : decode cJ7_fill_53178 6 = .ok (.iload_n 3, 1) := by decide +kernel
theorem dJ7_fill_53178_7 : decode cJ7_fill_53178 7 = .ok (.if_icmp .ge 13, 3) := by decide +kernel
theorem dJ7_fill_53178_10 : decode cJ7_fill_53178 10 = .ok (.aload_n 0, 1) := by decide +kernel
theorem dJ7_fill_53178_11 : decode cJ7_fill_53178 11 = .ok (.iload_n 2, 1) := by decide +kernel
theorem dJ7_fill_53178_12 : decode cJ7_fill_53178 12 = .ok (.iload_n 1, 1) := by decide +kernel
theorem dJ7_fill_53178_13 : decode cJ7_fill_53178 13 = .ok (.iastore, 1) := by decide +kernel
theorem dJ7_fill_53178_14 : decode cJ7_fill_53178 14 = .ok (.iinc 2 1, 3) := by decide +kernel
theorem dJ7_fill_53178_17 : decode cJ7_fill_53178 17 = .ok (.goto (-12), 3) := by decide +kernel
theorem dJ7_fill_53178_20 : decode cJ7_fill_53178 20 = .ok (.return_, 1) := by decide +kernel
theorem dJ3_checkFromToIndex_8c36e_0 : decode cJ3_checkFromToIndex_8c36e 0 = .ok (.iload_n 0, 1) := by decide +kernel
theorem dJ3_checkFromToIndex_8c36e_1 : decode cJ3_checkFromToIndex_8c36e 1 = .ok (.ifCond .lt 13, 3) := by decide +kernel
theorem dJ3_checkFromToIndex_8c36e_4 : decode cJ3_checkFromToIndex_8c36e 4 = .ok (.iload_n 0, 1) := by decide +kernel
theorem dJ3_checkFromToIndex_8c36e_5 : decode cJ3_checkFromToIndex_8c36e 5 = .ok (.iload_n 1, 1) := by decide +kernel
theorem dJ3_checkFromToIndex_8c36e_6 : decode cJ3_checkFromToIndex_8c36e 6 = .ok (.if_icmp .gt 8, 3) := by decide +kernel
theorem dJ3_checkFromToIndex_8c36e_9 : decode cJ3_checkFromToIndex_8c36e 9 = .ok (.iload_n 1, 1) := by decide +kernel
theorem dJ3_checkFromToIndex_8c36e_10 : decode cJ3_checkFromToIndex_8c36e 10 = .ok (.iload_n 2, 1) := by decide +kernel
theorem dJ3_checkFromToIndex_8c36e_11 : decode cJ3_checkFromToIndex_8c36e 11 = .ok (.if_icmp .le 11, 3) := by decide +kernel
theorem dJ3_checkFromToIndex_8c36e_14 : decode cJ3_checkFromToIndex_8c36e 14 = .ok (.aload_n 3, 1) := by decide +kernel
theorem dJ3_checkFromToIndex_8c36e_15 : decode cJ3_checkFromToIndex_8c36e 15 = .ok (.iload_n 0, 1) := by decide +kernel
theorem dJ3_checkFromToIndex_8c36e_16 : decode cJ3_checkFromToIndex_8c36e 16 = .ok (.iload_n 1, 1) := by decide +kernel
theorem dJ3_checkFromToIndex_8c36e_17 : decode cJ3_checkFromToIndex_8c36e 17 = .ok (.iload_n 2, 1) := by decide +kernel
theorem dJ3_checkFromToIndex_8c36e_18 : decode cJ3_checkFromToIndex_8c36e 18 = .ok (.invokestatic 99, 3) := by decide +kernel
theorem dJ3_checkFromToIndex_8c36e_21 : decode cJ3_checkFromToIndex_8c36e 21 = .ok (.athrow, 1) := by decide +kernel
theorem dJ3_checkFromToIndex_8c36e_22 : decode cJ3_checkFromToIndex_8c36e 22 = .ok (.iload_n 0, 1) := by decide +kernel
theorem dJ3_checkFromToIndex_8c36e_23 : decode cJ3_checkFromToIndex_8c36e 23 = .ok (.ireturn, 1) := by decide +kernel
end
section
theorem dX6_init_0 : decode cX6_init 0 = .ok (.aload_n 0, 1) := by decide +kernel
theorem dX6_init_1 : decode cX6_init 1 = .ok (.invokespecial 1, 3) := by decide +kernel
theorem dX6_init_4 : decode cX6_init 4 = .ok (.aload_n 0, 1) := by decide +kernel
theorem dX6_init_5 : decode cX6_init 5 = .ok (.new 7, 3) := by decide +kernel
theorem dX6_init_8 : decode cX6_init 8 = .ok (.dup, 1) := by decide +kernel
theorem dX6_init_9 : decode cX6_init 9 = .ok (.invokespecial 9, 3) := by decide +kernel
theorem dX6_init_12 : decode cX6_init 12 = .ok (.putfield 10, 3) := by decide +kernel
theorem dX6_init_15 : decode cX6_init 15 = .ok (.aload_n 0, 1) := by decide +kernel
theorem dX6_init_16 : decode cX6_init 16 = .ok (.new 16, 3) := by decide +kernel
theorem dX6_init_19 : decode cX6_init 19 = .ok (.dup, 1) := by decide +kernel
theorem dX6_init_20 : decode cX6_init 20 = .ok (.bipush 70, 2) := by decide +kernel
theorem dX6_init_22 : decode cX6_init 22 = .ok (.invokespecial 18, 3) := by decide +kernel
theorem dX6_init_25 : decode cX6_init 25 = .ok (.putfield 21, 3) := by decide +kernel
theorem dX6_init_28 : decode cX6_init 28 = .ok (.aload_n 0, 1) := by decide +kernel
theorem dX6_init_29 : decode cX6_init 29 = .ok (.new 25, 3) := by decide +kernel
theorem dX6_init_32 : decode cX6_init 32 = .ok (.dup, 1) := by decide +kernel
theorem dX6_init_33 : decode cX6_init 33 = .ok (.aload_n 0, 1) := by decide +kernel
theorem dX6_init_34 : decode cX6_init 34 = .ok (.getfield 21, 3) := by decide +kernel
theorem dX6_init_37 : decode cX6_init 37 = .ok (.invokespecial 27, 3) := by decide +kernel
theorem dX6_init_40 : decode cX6_init 40 = .ok (.putfield 30, 3) := by decide +kernel
theorem dX6_init_43 : decode cX6_init 43 = .ok (.aload_n 0, 1) := by decide +kernel
theorem dX6_init_44 : decode cX6_init 44 = .ok (.new 34, 3) := by decide +kernel
theorem dX6_init_47 : decode cX6_init 47 = .ok (.dup, 1) := by decide +kernel
theorem dX6_init_48 : decode cX6_init 48 = .ok (.invokespecial 36, 3) := by decide +kernel
theorem dX6_init_51 : decode cX6_init 51 = .ok (.putfield 37, 3) := by decide +kernel
theorem dX6_init_54 : decode cX6_init 54 = .ok (.aload_n 0, 1) := by decide +kernel
theorem dX6_init_55 : decode cX6_init 55 = .ok (.new 41, 3) := by decide +kernel
theorem dX6_init_58 : decode cX6_init 58 = .ok (.dup, 1) := by decide +kernel
theorem dX6_init_59 : decode cX6_init 59 = .ok (.invokespecial 43, 3) := by decide +kernel
theorem dX6_init_62 : decode cX6_init 62 = .ok (.putfield 44, 3) := by decide +kernel
theorem dX6_init_65 : decode cX6_init 65 = .ok (.aload_n 0, 1) := by decide +kernel
theorem dX6_init_66 : decode cX6_init 66 = .ok (.new 48, 3) := by decide +kernel
theorem dX6_init_69 : decode cX6_init 69 = .ok (.dup, 1) := by decide +kernel
theorem dX6_init_70 : decode cX6_init 70 = .ok (.invokespecial 50, 3) := by decide +kernel
theorem dX6_init_73 : decode cX6_init 73 = .ok (.putfield 51, 3) := by decide +kernel
theorem dX6_init_76 : decode cX6_init 76 = .ok (.aload_n 0, 1) := by decide +kernel
theorem dX6_init_77 : decode cX6_init 77 = .ok (.new 16, 3) := by decide +kernel
theorem dX6_init_80 : decode cX6_init 80 = .ok (.dup, 1) := by decide +kernel
theorem dX6_init_81 : decode cX6_init 81 = .ok (.bipush 40, 2) := by decide +kernel
theorem dX6_init_83 : decode cX6_init 83 = .ok (.invokespecial 18, 3) := by decide +kernel
theorem dX6_init_86 : decode cX6_init 86 = .ok (.putfield 55, 3) := by decide +kernel
theorem dX6_init_89 : decode cX6_init 89 = .ok (.aload_n 0, 1) := by decide +kernel
theorem dX6_init_90 : decode cX6_init 90 = .ok (.new 34, 3) := by decide +kernel
theorem dX6_init_93 : decode cX6_init 93 = .ok (.dup, 1) := by decide +kernel
theorem dX6_init_94 : decode cX6_init 94 = .ok (.invokespecial 36, 3) := by decide +kernel
theorem dX6_init_97 : decode cX6_init 97 = .ok (.putfield 58, 3) := by decide +kernel
theorem dX6_init_100 : decode cX6_init 100 = .ok (.return_, 1) := by decide +kernel
theorem dX6_letter_0 : decode cX6_letter 0 = .ok (.iload_n 1, 1) := by decide +kernel
theorem dX6_letter_1 : decode cX6_letter 1 = .ok (.bipush 32, 2) := by decide +kernel
theorem dX6_letter_3 : decode cX6_letter 3 = .ok (.if_icmp .lt 9, 3) := by decide +kernel
theorem dX6_letter_6 : decode cX6_letter 6 = .ok (.iload_n 1, 1) := by decide +kernel
theorem dX6_letter_7 : decode cX6_letter 7 = .ok (.bipush 126, 2) := by decide +kernel
theorem dX6_letter_9 : decode cX6_letter 9 = .ok (.if_icmp .le 6, 3) := by decide +kernel
theorem dX6_letter_12 : decode cX6_letter 12 = .ok (.bipush (-102), 2) := by decide +kernel
theorem dX6_letter_14 : decode cX6_letter 14 = .ok (.ireturn, 1) := by decide +kernel
theorem dX6_letter_15 : decode cX6_letter 15 = .ok (.aload_n 0, 1) := by decide +kernel
theorem dX6_letter_16 : decode cX6_letter 16 = .ok (.getfield 10, 3) := by decide +kernel
theorem dX6_letter_19 : decode cX6_letter 19 = .ok (.iload_n 1, 1) := by decide +kernel
theorem dX6_letter_20 : decode cX6_letter 20 = .ok (.invokevirtual 61, 3) := by decide +kernel
theorem dX6_letter_23 : decode cX6_letter 23 = .ok (.ifCond .eq 13, 3) := by decide +kernel
theorem dX6_letter_26 : decode cX6_letter 26 = .ok (.aload_n 0, 1) := by decide +kernel
theorem dX6_letter_27 : decode cX6_letter 27 = .ok (.getfield 10, 3) := by decide +kernel
theorem dX6_letter_30 : decode cX6_letter 30 = .ok (.getfield 65, 3) := by decide +kernel
theorem dX6_letter_33 : decode cX6_letter 33 = .ok (.goto 5, 3) := by decide +kernel
theorem dX6_letter_36 : decode cX6_letter 36 = .ok (.bipush (-104), 2) := by decide +kernel
theorem dX6_letter_38 : decode cX6_letter 38 = .ok (.ireturn, 1) := by decide +kernel
theorem dX6_blank_0 : decode cX6_blank 0 = .ok (.aload_n 0, 1) := by decide +kernel
theorem dX6_blank_1 : decode cX6_blank 1 = .ok (.getfield 10, 3) := by decide +kernel
theorem dX6_blank_4 : decode cX6_blank 4 = .ok (.getfield 65, 3) := by decide +kernel
theorem dX6_blank_7 : decode cX6_blank 7 = .ok (.istore_n 1, 1) := by decide +kernel
theorem dX6_blank_8 : decode cX6_blank 8 = .ok (.aload_n 0, 1) := by decide +kernel
theorem dX6_blank_9 : decode cX6_blank 9 = .ok (.getfield 10, 3) := by decide +kernel
theorem dX6_blank_12 : decode cX6_blank 12 = .ok (.iconst 0, 1) := by decide +kernel
theorem dX6_blank_13 : decode cX6_blank 13 = .ok (.putfield 65, 3) := by decide +kernel
theorem dX6_blank_16 : decode cX6_blank 16 = .ok (.iload_n 1, 1) := by decide +kernel
theorem dX6_blank_17 : decode cX6_blank 17 = .ok (.ireturn, 1) := by decide +kernel
theorem dX6_fault_0 : decode cX6_fault 0 = .ok (.aload_n 0, 1) := by decide +kernel
theorem dX6_fault_1 : decode cX6_fault 1 = .ok (.getfield 10, 3) := by decide +kernel
theorem dX6_fault_4 : decode cX6_fault 4 = .ok (.invokevirtual 69, 3) := by decide +kernel
theorem dX6_fault_7 : decode cX6_fault 7 = .ok (.ireturn, 1) := by decide +kernel
theorem dX6_desk_0 : decode cX6_desk 0 = .ok (.aload_n 0, 1) := by decide +kernel
theorem dX6_desk_1 : decode cX6_desk 1 = .ok (.getfield 10, 3) := by decide +kernel
theorem dX6_desk_4 : decode cX6_desk 4 = .ok (.invokevirtual 73, 3) := by decide +kernel
theorem dX6_desk_7 : decode cX6_desk 7 = .ok (.ifCond .ne 6, 3) := by decide +kernel
theorem dX6_desk_10 : decode cX6_desk 10 = .ok (.bipush (-103), 2) := by decide +kernel
theorem dX6_desk_12 : decode cX6_desk 12 = .ok (.ireturn, 1) := by decide +kernel
theorem dX6_desk_13 : decode cX6_desk 13 = .ok (.aload_n 0, 1) := by decide +kernel
theorem dX6_desk_14 : decode cX6_desk 14 = .ok (.getfield 30, 3) := by decide +kernel
theorem dX6_desk_17 : decode cX6_desk 17 = .ok (.invokevirtual 77, 3) := by decide +kernel
theorem dX6_desk_20 : decode cX6_desk 20 = .ok (.aload_n 0, 1) := by decide +kernel
theorem dX6_desk_21 : decode cX6_desk 21 = .ok (.getfield 37, 3) := by decide +kernel
theorem dX6_desk_24 : decode cX6_desk 24 = .ok (.iconst 0, 1) := by decide +kernel
theorem dX6_desk_25 : decode cX6_desk 25 = .ok (.putfield 80, 3) := by decide +kernel
theorem dX6_desk_28 : decode cX6_desk 28 = .ok (.aload_n 0, 1) := by decide +kernel
theorem dX6_desk_29 : decode cX6_desk 29 = .ok (.iconst 0, 1) := by decide +kernel
theorem dX6_desk_30 : decode cX6_desk 30 = .ok (.putfield 83, 3) := by decide +kernel
theorem dX6_desk_33 : decode cX6_desk 33 = .ok (.aload_n 0, 1) := by decide +kernel
theorem dX6_desk_34 : decode cX6_desk 34 = .ok (.iconst 1, 1) := by decide +kernel
theorem dX6_desk_35 : decode cX6_desk 35 = .ok (.putfield 87, 3) := by decide +kernel
theorem dX6_desk_38 : decode cX6_desk 38 = .ok (.aload_n 0, 1) := by decide +kernel
theorem dX6_desk_39 : decode cX6_desk 39 = .ok (.dup, 1) := by decide +kernel
theorem dX6_desk_40 : decode cX6_desk 40 = .ok (.getfield 90, 3) := by decide +kernel
theorem dX6_desk_43 : decode cX6_desk 43 = .ok (.iconst 1, 1) := by decide +kernel
theorem dX6_desk_44 : decode cX6_desk 44 = .ok (.iadd, 1) := by decide +kernel
theorem dX6_desk_45 : decode cX6_desk 45 = .ok (.putfield 90, 3) := by decide +kernel
theorem dX6_desk_48 : decode cX6_desk 48 = .ok (.iconst 0, 1) := by decide +kernel
theorem dX6_desk_49 : decode cX6_desk 49 = .ok (.istore_n 1, 1) := by decide +kernel
theorem dX6_desk_50 : decode cX6_desk 50 = .ok (.iload_n 1, 1) := by decide +kernel
theorem dX6_desk_51 : decode cX6_desk 51 = .ok (.aload_n 0, 1) := by decide +kernel
theorem dX6_desk_52 : decode cX6_desk 52 = .ok (.getfield 10, 3) := by decide +kernel
theorem dX6_desk_55 : decode cX6_desk 55 = .ok (.getfield 65, 3) := by decide +kernel
theorem dX6_desk_58 : decode cX6_desk 58 = .ok (.if_icmp .ge 33, 3) := by decide +kernel
theorem dX6_desk_61 : decode cX6_desk 61 = .ok (.aload_n 0, 1) := by decide +kernel
theorem dX6_desk_62 : decode cX6_desk 62 = .ok (.getfield 10, 3) := by decide +kernel
theorem dX6_desk_65 : decode cX6_desk 65 = .ok (.iload_n 1, 1) := by decide +kernel
theorem dX6_desk_66 : decode cX6_desk 66 = .ok (.aload_n 0, 1) := by decide +kernel
theorem dX6_desk_67 : decode cX6_desk 67 = .ok (.getfield 51, 3) := by decide +kernel
theorem dX6_desk_70 : decode cX6_desk 70 = .ok (.invokevirtual 93, 3) := by decide +kernel
theorem dX6_desk_73 : decode cX6_desk 73 = .ok (.aload_n 0, 1) := by decide +kernel
theorem dX6_desk_74 : decode cX6_desk 74 = .ok (.getfield 30, 3) := by decide +kernel
theorem dX6_desk_77 : decode cX6_desk 77 = .ok (.aload_n 0, 1) := by decide +kernel
theorem dX6_desk_78 : decode cX6_desk 78 = .ok (.getfield 51, 3) := by decide +kernel
theorem dX6_desk_81 : decode cX6_desk 81 = .ok (.invokevirtual 97, 3) := by decide +kernel
theorem dX6_desk_84 : decode cX6_desk 84 = .ok (.pop, 1) := by decide +kernel
theorem dX6_desk_85 : decode cX6_desk 85 = .ok (.iinc 1 12, 3) := by decide +kernel
theorem dX6_desk_88 : decode cX6_desk 88 = .ok (.goto (-38), 3) := by decide +kernel
theorem dX6_desk_91 : decode cX6_desk 91 = .ok (.aload_n 0, 1) := by decide +kernel
theorem dX6_desk_92 : decode cX6_desk 92 = .ok (.getfield 10, 3) := by decide +kernel
theorem dX6_desk_95 : decode cX6_desk 95 = .ok (.iconst 0, 1) := by decide +kernel
theorem dX6_desk_96 : decode cX6_desk 96 = .ok (.putfield 65, 3) := by decide +kernel
theorem dX6_desk_99 : decode cX6_desk 99 = .ok (.aload_n 0, 1) := by decide +kernel
theorem dX6_desk_100 : decode cX6_desk 100 = .ok (.getfield 21, 3) := by decide +kernel
theorem dX6_desk_103 : decode cX6_desk 103 = .ok (.getfield 101, 3) := by decide +kernel
theorem dX6_desk_106 : decode cX6_desk 106 = .ok (.ireturn, 1) := by decide +kernel
theorem dX6_tariff_0 : decode cX6_tariff 0 = .ok (.aload_n 0, 1) := by decide +kernel
theorem dX6_tariff_1 : decode cX6_tariff 1 = .ok (.getfield 21, 3) := by decide +kernel
theorem dX6_tariff_4 : decode cX6_tariff 4 = .ok (.iload_n 1, 1) := by decide +kernel
theorem dX6_tariff_5 : decode cX6_tariff 5 = .ok (.invokevirtual 102, 3) := by decide +kernel
theorem dX6_tariff_8 : decode cX6_tariff 8 = .ok (.ifCond .ne 6, 3) := by decide +kernel
theorem dX6_tariff_11 : decode cX6_tariff 11 = .ok (.bipush (-101), 2) := by decide +kernel
theorem dX6_tariff_13 : decode cX6_tariff 13 = .ok (.ireturn, 1) := by decide +kernel
theorem dX6_tariff_14 : decode cX6_tariff 14 = .ok (.aload_n 0, 1) := by decide +kernel
theorem dX6_tariff_15 : decode cX6_tariff 15 = .ok (.getfield 21, 3) := by decide +kernel
theorem dX6_tariff_18 : decode cX6_tariff 18 = .ok (.iload_n 1, 1) := by decide +kernel
theorem dX6_tariff_19 : decode cX6_tariff 19 = .ok (.invokevirtual 105, 3) := by decide +kernel
theorem dX6_tariff_22 : decode cX6_tariff 22 = .ok (.astore_n 3, 1) := by decide +kernel
theorem dX6_tariff_23 : decode cX6_tariff 23 = .ok (.iload_n 2, 1) := by decide +kernel
theorem dX6_tariff_24 : decode cX6_tariff 24 = .ok (.tableswitch 96 0 6 #[44, 49, 54, 59, 69, 76, 86], 44) := by decide +kernel
theorem dX6_tariff_68 : decode cX6_tariff 68 = .ok (.aload_n 3, 1) := by decide +kernel
theorem dX6_tariff_69 : decode cX6_tariff 69 = .ok (.getfield 109, 3) := by decide +kernel
theorem dX6_tariff_72 : decode cX6_tariff 72 = .ok (.ireturn, 1) := by decide +kernel
theorem dX6_tariff_73 : decode cX6_tariff 73 = .ok (.aload_n 3, 1) := by decide +kernel
theorem dX6_tariff_74 : decode cX6_tariff 74 = .ok (.getfield 112, 3) := by decide +kernel
theorem dX6_tariff_77 : decode cX6_tariff 77 = .ok (.ireturn, 1) := by decide +kernel
theorem dX6_tariff_78 : decode cX6_tariff 78 = .ok (.aload_n 3, 1) := by decide +kernel
theorem dX6_tariff_79 : decode cX6_tariff 79 = .ok (.getfield 115, 3) := by decide +kernel
theorem dX6_tariff_82 : decode cX6_tariff 82 = .ok (.ireturn, 1) := by decide +kernel
theorem dX6_tariff_83 : decode cX6_tariff 83 = .ok (.aload_n 0, 1) := by decide +kernel
theorem dX6_tariff_84 : decode cX6_tariff 84 = .ok (.getfield 30, 3) := by decide +kernel
theorem dX6_tariff_87 : decode cX6_tariff 87 = .ok (.iload_n 1, 1) := by decide +kernel
theorem dX6_tariff_88 : decode cX6_tariff 88 = .ok (.iload_n 1, 1) := by decide +kernel
theorem dX6_tariff_89 : decode cX6_tariff 89 = .ok (.invokevirtual 118, 3) := by decide +kernel
theorem dX6_tariff_92 : decode cX6_tariff 92 = .ok (.ireturn, 1) := by decide +kernel
theorem dX6_tariff_93 : decode cX6_tariff 93 = .ok (.aload_n 0, 1) := by decide +kernel
theorem dX6_tariff_94 : decode cX6_tariff 94 = .ok (.iload_n 1, 1) := by decide +kernel
theorem dX6_tariff_95 : decode cX6_tariff 95 = .ok (.iload_n 1, 1) := by decide +kernel
theorem dX6_tariff_96 : decode cX6_tariff 96 = .ok (.invokevirtual 122, 3) := by decide +kernel
theorem dX6_tariff_99 : decode cX6_tariff 99 = .ok (.ireturn, 1) := by decide +kernel
theorem dX6_tariff_100 : decode cX6_tariff 100 = .ok (.aload_n 0, 1) := by decide +kernel
theorem dX6_tariff_101 : decode cX6_tariff 101 = .ok (.getfield 37, 3) := by decide +kernel
theorem dX6_tariff_104 : decode cX6_tariff 104 = .ok (.iload_n 1, 1) := by decide +kernel
theorem dX6_tariff_105 : decode cX6_tariff 105 = .ok (.aload_n 3, 1) := by decide +kernel
theorem dX6_tariff_106 : decode cX6_tariff 106 = .ok (.invokevirtual 125, 3) := by decide +kernel
theorem dX6_tariff_109 : decode cX6_tariff 109 = .ok (.ireturn, 1) := by decide +kernel
theorem dX6_tariff_110 : decode cX6_tariff 110 = .ok (.aload_n 0, 1) := by decide +kernel
theorem dX6_tariff_111 : decode cX6_tariff 111 = .ok (.getfield 37, 3) := by decide +kernel
theorem dX6_tariff_114 : decode cX6_tariff 114 = .ok (.iload_n 1, 1) := by decide +kernel
theorem dX6_tariff_115 : decode cX6_tariff 115 = .ok (.aload_n 3, 1) := by decide +kernel
theorem dX6_tariff_116 : decode cX6_tariff 116 = .ok (.invokevirtual 129, 3) := by decide +kernel
theorem dX6_tariff_119 : decode cX6_tariff 119 = .ok (.ireturn, 1) := by decide +kernel
theorem dX6_tariff_120 : decode cX6_tariff 120 = .ok (.bipush (-102), 2) := by decide +kernel
theorem dX6_tariff_122 : decode cX6_tariff 122 = .ok (.ireturn, 1) := by decide +kernel
theorem dX6_as_0 : decode cX6_as 0 = .ok (.aload_n 0, 1) := by decide +kernel
theorem dX6_as_1 : decode cX6_as 1 = .ok (.getfield 21, 3) := by decide +kernel
theorem dX6_as_4 : decode cX6_as 4 = .ok (.iload_n 1, 1) := by decide +kernel
theorem dX6_as_5 : decode cX6_as 5 = .ok (.invokevirtual 102, 3) := by decide +kernel
theorem dX6_as_8 : decode cX6_as 8 = .ok (.ifCond .ne 6, 3) := by decide +kernel
theorem dX6_as_11 : decode cX6_as 11 = .ok (.bipush (-101), 2) := by decide +kernel
theorem dX6_as_13 : decode cX6_as 13 = .ok (.ireturn, 1) := by decide +kernel
theorem dX6_as_14 : decode cX6_as 14 = .ok (.iload_n 2, 1) := by decide +kernel
theorem dX6_as_15 : decode cX6_as 15 = .ok (.invokestatic 132, 3) := by decide +kernel
theorem dX6_as_18 : decode cX6_as 18 = .ok (.ifCond .ne 6, 3) := by decide +kernel
theorem dX6_as_21 : decode cX6_as 21 = .ok (.bipush (-102), 2) := by decide +kernel
theorem dX6_as_23 : decode cX6_as 23 = .ok (.ireturn, 1) := by decide +kernel
theorem dX6_as_24 : decode cX6_as 24 = .ok (.aload_n 0, 1) := by decide +kernel
theorem dX6_as_25 : decode cX6_as 25 = .ok (.getfield 21, 3) := by decide +kernel
theorem dX6_as_28 : decode cX6_as 28 = .ok (.iload_n 1, 1) := by decide +kernel
theorem dX6_as_29 : decode cX6_as 29 = .ok (.invokevirtual 105, 3) := by decide +kernel
theorem dX6_as_32 : decode cX6_as 32 = .ok (.iload_n 2, 1) := by decide +kernel
theorem dX6_as_33 : decode cX6_as 33 = .ok (.invokevirtual 135, 3) := by decide +kernel
theorem dX6_as_36 : decode cX6_as 36 = .ok (.ifCond .eq 7, 3) := by decide +kernel
theorem dX6_as_39 : decode cX6_as 39 = .ok (.iload_n 1, 1) := by decide +kernel
theorem dX6_as_40 : decode cX6_as 40 = .ok (.goto 4, 3) := by decide +kernel
theorem dX6_as_43 : decode cX6_as 43 = .ok (.iconst (-1), 1) := by decide +kernel
theorem dX6_as_44 : decode cX6_as 44 = .ok (.ireturn, 1) := by decide +kernel
theorem dX6_price_0 : decode cX6_price 0 = .ok (.aload_n 0, 1) := by decide +kernel
theorem dX6_price_1 : decode cX6_price 1 = .ok (.getfield 21, 3) := by decide +kernel
theorem dX6_price_4 : decode cX6_price 4 = .ok (.iload_n 1, 1) := by decide +kernel
theorem dX6_price_5 : decode cX6_price 5 = .ok (.invokevirtual 102, 3) := by decide +kernel
theorem dX6_price_8 : decode cX6_price 8 = .ok (.ifCond .eq 10, 3) := by decide +kernel
theorem dX6_price_11 : decode cX6_price 11 = .ok (.iload_n 2, 1) := by decide +kernel
theorem dX6_price_12 : decode cX6_price 12 = .ok (.invokestatic 138, 3) := by decide +kernel
theorem dX6_price_15 : decode cX6_price 15 = .ok (.ifCond .ne 7, 3) := by decide +kernel
theorem dX6_price_18 : decode cX6_price 18 = .ok (.ldc2_w 141, 3) := by decide +kernel
theorem dX6_price_21 : decode cX6_price 21 = .ok (.lreturn, 1) := by decide +kernel
theorem dX6_price_22 : decode cX6_price 22 = .ok (.aload_n 0, 1) := by decide +kernel
theorem dX6_price_23 : decode cX6_price 23 = .ok (.getfield 21, 3) := by decide +kernel
theorem dX6_price_26 : decode cX6_price 26 = .ok (.iload_n 1, 1) := by decide +kernel
theorem dX6_price_27 : decode cX6_price 27 = .ok (.invokevirtual 105, 3) := by decide +kernel
theorem dX6_price_30 : decode cX6_price 30 = .ok (.astore_n 3, 1) := by decide +kernel
theorem dX6_price_31 : decode cX6_price 31 = .ok (.aload_n 3, 1) := by decide +kernel
theorem dX6_price_32 : decode cX6_price 32 = .ok (.iload_n 2, 1) := by decide +kernel
theorem dX6_price_33 : decode cX6_price 33 = .ok (.invokevirtual 143, 3) := by decide +kernel
theorem dX6_price_36 : decode cX6_price 36 = .ok (.ifCond .eq 15, 3) := by decide +kernel
theorem dX6_price_39 : decode cX6_price 39 = .ok (.ldc2_w 146, 3) := by decide +kernel
theorem dX6_price_42 : decode cX6_price 42 = .ok (.aload_n 3, 1) := by decide +kernel
theorem dX6_price_43 : decode cX6_price 43 = .ok (.iload_n 2, 1) := by decide +kernel
theorem dX6_price_44 : decode cX6_price 44 = .ok (.invokevirtual 148, 3) := by decide +kernel
theorem dX6_price_47 : decode cX6_price 47 = .ok (.ladd, 1) := by decide +kernel
theorem dX6_price_48 : decode cX6_price 48 = .ok (.goto 6, 3) := by decide +kernel
theorem dX6_price_51 : decode cX6_price 51 = .ok (.ldc2_w 152, 3) := by decide +kernel
theorem dX6_price_54 : decode cX6_price 54 = .ok (.lreturn, 1) := by decide +kernel
theorem dX6_node_0 : decode cX6_node 0 = .ok (.iload_n 1, 1) := by decide +kernel
theorem dX6_node_1 : decode cX6_node 1 = .ok (.iconst 1, 1) := by decide +kernel
theorem dX6_node_2 : decode cX6_node 2 = .ok (.if_icmp .lt 9, 3) := by decide +kernel
theorem dX6_node_5 : decode cX6_node 5 = .ok (.iload_n 1, 1) := by decide +kernel
theorem dX6_node_6 : decode cX6_node 6 = .ok (.bipush 127, 2) := by decide +kernel
theorem dX6_node_8 : decode cX6_node 8 = .ok (.if_icmp .le 6, 3) := by decide +kernel
theorem dX6_node_11 : decode cX6_node 11 = .ok (.bipush (-101), 2) := by decide +kernel
theorem dX6_node_13 : decode cX6_node 13 = .ok (.ireturn, 1) := by decide +kernel
theorem dX6_node_14 : decode cX6_node 14 = .ok (.iload_n 2, 1) := by decide +kernel
theorem dX6_node_15 : decode cX6_node 15 = .ok (.tableswitch 53 0 3 #[29, 38, 43, 48], 29) := by decide +kernel
theorem dX6_node_44 : decode cX6_node 44 = .ok (.aload_n 0, 1) := by decide +kernel
theorem dX6_node_45 : decode cX6_node 45 = .ok (.getfield 30, 3) := by decide +kernel
theorem dX6_node_48 : decode cX6_node 48 = .ok (.iload_n 1, 1) := by decide +kernel
theorem dX6_node_49 : decode cX6_node 49 = .ok (.invokevirtual 154, 3) := by decide +kernel
theorem dX6_node_52 : decode cX6_node 52 = .ok (.ireturn, 1) := by decide +kernel
theorem dX6_node_53 : decode cX6_node 53 = .ok (.iload_n 1, 1) := by decide +kernel
theorem dX6_node_54 : decode cX6_node 54 = .ok (.invokestatic 158, 3) := by decide +kernel
theorem dX6_node_57 : decode cX6_node 57 = .ok (.ireturn, 1) := by decide +kernel
theorem dX6_node_58 : decode cX6_node 58 = .ok (.iload_n 1, 1) := by decide +kernel
theorem dX6_node_59 : decode cX6_node 59 = .ok (.invokestatic 161, 3) := by decide +kernel
theorem dX6_node_62 : decode cX6_node 62 = .ok (.ireturn, 1) := by decide +kernel
theorem dX6_node_63 : decode cX6_node 63 = .ok (.iload_n 1, 1) := by decide +kernel
theorem dX6_node_64 : decode cX6_node 64 = .ok (.invokestatic 164, 3) := by decide +kernel
theorem dX6_node_67 : decode cX6_node 67 = .ok (.ireturn, 1) := by decide +kernel
theorem dX6_node_68 : decode cX6_node 68 = .ok (.bipush (-102), 2) := by decide +kernel
theorem dX6_node_70 : decode cX6_node 70 = .ok (.ireturn, 1) := by decide +kernel
theorem dX6_offer_0 : decode cX6_offer 0 = .ok (.aload_n 0, 1) := by decide +kernel
theorem dX6_offer_1 : decode cX6_offer 1 = .ok (.iload_n 1, 1) := by decide +kernel
theorem dX6_offer_2 : decode cX6_offer 2 = .ok (.iload_n 2, 1) := by decide +kernel
theorem dX6_offer_3 : decode cX6_offer 3 = .ok (.iload_n 3, 1) := by decide +kernel
theorem dX6_offer_4 : decode cX6_offer 4 = .ok (.iload 4, 2) := by decide +kernel
theorem dX6_offer_6 : decode cX6_offer 6 = .ok (.invokevirtual 167, 3) := by decide +kernel
theorem dX6_offer_9 : decode cX6_offer 9 = .ok (.istore 5, 2) := by decide +kernel
theorem dX6_offer_11 : decode cX6_offer 11 = .ok (.iload 5, 2) := by decide +kernel
theorem dX6_offer_13 : decode cX6_offer 13 = .ok (.ifCond .ne 17, 3) := by decide +kernel
theorem dX6_offer_16 : decode cX6_offer 16 = .ok (.aload_n 0, 1) := by decide +kernel
theorem dX6_offer_17 : decode cX6_offer 17 = .ok (.getfield 30, 3) := by decide +kernel
theorem dX6_offer_20 : decode cX6_offer 20 = .ok (.aload_n 0, 1) := by decide +kernel
theorem dX6_offer_21 : decode cX6_offer 21 = .ok (.getfield 51, 3) := by decide +kernel
theorem dX6_offer_24 : decode cX6_offer 24 = .ok (.invokevirtual 97, 3) := by decide +kernel
theorem dX6_offer_27 : decode cX6_offer 27 = .ok (.goto 5, 3) := by decide +kernel
theorem dX6_offer_30 : decode cX6_offer 30 = .ok (.iload 5, 2) := by decide +kernel
theorem dX6_offer_32 : decode cX6_offer 32 = .ok (.ireturn, 1) := by decide +kernel
theorem dX6_undo_0 : decode cX6_undo 0 = .ok (.aload_n 0, 1) := by decide +kernel
theorem dX6_undo_1 : decode cX6_undo 1 = .ok (.getfield 21, 3) := by decide +kernel
theorem dX6_undo_4 : decode cX6_undo 4 = .ok (.getfield 101, 3) := by decide +kernel
theorem dX6_undo_7 : decode cX6_undo 7 = .ok (.ifCond .ne 6, 3) := by decide +kernel
theorem dX6_undo_10 : decode cX6_undo 10 = .ok (.bipush (-103), 2) := by decide +kernel
theorem dX6_undo_12 : decode cX6_undo 12 = .ok (.ireturn, 1) := by decide +kernel
theorem dX6_undo_13 : decode cX6_undo 13 = .ok (.aload_n 0, 1) := by decide +kernel
theorem dX6_undo_14 : decode cX6_undo 14 = .ok (.getfield 30, 3) := by decide +kernel
theorem dX6_undo_17 : decode cX6_undo 17 = .ok (.invokevirtual 171, 3) := by decide +kernel
theorem dX6_undo_20 : decode cX6_undo 20 = .ok (.aload_n 0, 1) := by decide +kernel
theorem dX6_undo_21 : decode cX6_undo 21 = .ok (.getfield 21, 3) := by decide +kernel
theorem dX6_undo_24 : decode cX6_undo 24 = .ok (.getfield 101, 3) := by decide +kernel
theorem dX6_undo_27 : decode cX6_undo 27 = .ok (.ireturn, 1) := by decide +kernel
theorem dX6_cheapest_0 : decode cX6_cheapest 0 = .ok (.iload_n 1, 1) := by decide +kernel
theorem dX6_cheapest_1 : decode cX6_cheapest 1 = .ok (.invokestatic 138, 3) := by decide +kernel
theorem dX6_cheapest_4 : decode cX6_cheapest 4 = .ok (.ifCond .eq 10, 3) := by decide +kernel
theorem dX6_cheapest_7 : decode cX6_cheapest 7 = .ok (.aload_n 0, 1) := by decide +kernel
theorem dX6_cheapest_8 : decode cX6_cheapest 8 = .ok (.getfield 87, 3) := by decide +kernel
theorem dX6_cheapest_11 : decode cX6_cheapest 11 = .ok (.ifCond .ne 6, 3) := by decide +kernel
theorem dX6_cheapest_14 : decode cX6_cheapest 14 = .ok (.bipush (-101), 2) := by decide +kernel
theorem dX6_cheapest_16 : decode cX6_cheapest 16 = .ok (.ireturn, 1) := by decide +kernel
theorem dX6_cheapest_17 : decode cX6_cheapest 17 = .ok (.aload_n 0, 1) := by decide +kernel
theorem dX6_cheapest_18 : decode cX6_cheapest 18 = .ok (.getfield 30, 3) := by decide +kernel
theorem dX6_cheapest_21 : decode cX6_cheapest 21 = .ok (.iload_n 1, 1) := by decide +kernel
theorem dX6_cheapest_22 : decode cX6_cheapest 22 = .ok (.invokevirtual 174, 3) := by decide +kernel
theorem dX6_cheapest_25 : decode cX6_cheapest 25 = .ok (.ireturn, 1) := by decide +kernel
theorem dX6_cost_0 : decode cX6_cost 0 = .ok (.iload_n 1, 1) := by decide +kernel
theorem dX6_cost_1 : decode cX6_cost 1 = .ok (.invokestatic 138, 3) := by decide +kernel
theorem dX6_cost_4 : decode cX6_cost 4 = .ok (.ifCond .eq 10, 3) := by decide +kernel
theorem dX6_cost_7 : decode cX6_cost 7 = .ok (.aload_n 0, 1) := by decide +kernel
theorem dX6_cost_8 : decode cX6_cost 8 = .ok (.getfield 87, 3) := by decide +kernel
theorem dX6_cost_11 : decode cX6_cost 11 = .ok (.ifCond .ne 7, 3) := by decide +kernel
theorem dX6_cost_14 : decode cX6_cost 14 = .ok (.ldc2_w 141, 3) := by decide +kernel
theorem dX6_cost_17 : decode cX6_cost 17 = .ok (.lreturn, 1) := by decide +kernel
theorem dX6_cost_18 : decode cX6_cost 18 = .ok (.aload_n 0, 1) := by decide +kernel
theorem dX6_cost_19 : decode cX6_cost 19 = .ok (.getfield 30, 3) := by decide +kernel
theorem dX6_cost_22 : decode cX6_cost 22 = .ok (.iload_n 1, 1) := by decide +kernel
theorem dX6_cost_23 : decode cX6_cost 23 = .ok (.invokevirtual 174, 3) := by decide +kernel
theorem dX6_cost_26 : decode cX6_cost 26 = .ok (.istore_n 2, 1) := by decide +kernel
theorem dX6_cost_27 : decode cX6_cost 27 = .ok (.iload_n 2, 1) := by decide +kernel
theorem dX6_cost_28 : decode cX6_cost 28 = .ok (.iconst (-1), 1) := by decide +kernel
theorem dX6_cost_29 : decode cX6_cost 29 = .ok (.if_icmp .ne 9, 3) := by decide +kernel
theorem dX6_cost_32 : decode cX6_cost 32 = .ok (.ldc2_w 177, 3) := by decide +kernel
theorem dX6_cost_35 : decode cX6_cost 35 = .ok (.goto 19, 3) := by decide +kernel
theorem dX6_cost_38 : decode cX6_cost 38 = .ok (.ldc2_w 146, 3) := by decide +kernel
theorem dX6_cost_41 : decode cX6_cost 41 = .ok (.aload_n 0, 1) := by decide +kernel
theorem dX6_cost_42 : decode cX6_cost 42 = .ok (.getfield 21, 3) := by decide +kernel
theorem dX6_cost_45 : decode cX6_cost 45 = .ok (.iload_n 2, 1) := by decide +kernel
theorem dX6_cost_46 : decode cX6_cost 46 = .ok (.invokevirtual 105, 3) := by decide +kernel
theorem dX6_cost_49 : decode cX6_cost 49 = .ok (.iload_n 1, 1) := by decide +kernel
theorem dX6_cost_50 : decode cX6_cost 50 = .ok (.invokevirtual 148, 3) := by decide +kernel
theorem dX6_cost_53 : decode cX6_cost 53 = .ok (.ladd, 1) := by decide +kernel
theorem dX6_cost_54 : decode cX6_cost 54 = .ok (.lreturn, 1) := by decide +kernel
theorem dX6_piece_0 : decode cX6_piece 0 = .ok (.aload_n 0, 1) := by decide +kernel
theorem dX6_piece_1 : decode cX6_piece 1 = .ok (.iload_n 1, 1) := by decide +kernel
theorem dX6_piece_2 : decode cX6_piece 2 = .ok (.invokevirtual 179, 3) := by decide +kernel
theorem dX6_piece_5 : decode cX6_piece 5 = .ok (.istore_n 3, 1) := by decide +kernel
theorem dX6_piece_6 : decode cX6_piece 6 = .ok (.iload_n 3, 1) := by decide +kernel
theorem dX6_piece_7 : decode cX6_piece 7 = .ok (.iconst (-1), 1) := by decide +kernel
theorem dX6_piece_8 : decode cX6_piece 8 = .ok (.if_icmp .ne 6, 3) := by decide +kernel
theorem dX6_piece_11 : decode cX6_piece 11 = .ok (.bipush (-101), 2) := by decide +kernel
theorem dX6_piece_13 : decode cX6_piece 13 = .ok (.ireturn, 1) := by decide +kernel
theorem dX6_piece_14 : decode cX6_piece 14 = .ok (.iload_n 2, 1) := by decide +kernel
theorem dX6_piece_15 : decode cX6_piece 15 = .ok (.tableswitch 42 0 2 #[25, 34, 36], 25) := by decide +kernel
theorem dX6_piece_40 : decode cX6_piece 40 = .ok (.aload_n 0, 1) := by decide +kernel
theorem dX6_piece_41 : decode cX6_piece 41 = .ok (.getfield 30, 3) := by decide +kernel
theorem dX6_piece_44 : decode cX6_piece 44 = .ok (.iload_n 3, 1) := by decide +kernel
theorem dX6_piece_45 : decode cX6_piece 45 = .ok (.invokevirtual 174, 3) := by decide +kernel
theorem dX6_piece_48 : decode cX6_piece 48 = .ok (.ireturn, 1) := by decide +kernel
theorem dX6_piece_49 : decode cX6_piece 49 = .ok (.iload_n 3, 1) := by decide +kernel
theorem dX6_piece_50 : decode cX6_piece 50 = .ok (.ireturn, 1) := by decide +kernel
theorem dX6_piece_51 : decode cX6_piece 51 = .ok (.aload_n 0, 1) := by decide +kernel
theorem dX6_piece_52 : decode cX6_piece 52 = .ok (.iload_n 3, 1) := by decide +kernel
theorem dX6_piece_53 : decode cX6_piece 53 = .ok (.invokevirtual 182, 3) := by decide +kernel
theorem dX6_piece_56 : decode cX6_piece 56 = .ok (.ireturn, 1) := by decide +kernel
theorem dX6_piece_57 : decode cX6_piece 57 = .ok (.bipush (-102), 2) := by decide +kernel
theorem dX6_piece_59 : decode cX6_piece 59 = .ok (.ireturn, 1) := by decide +kernel
theorem dX6_bargain_0 : decode cX6_bargain 0 = .ok (.iload_n 1, 1) := by decide +kernel
theorem dX6_bargain_1 : decode cX6_bargain 1 = .ok (.invokestatic 138, 3) := by decide +kernel
theorem dX6_bargain_4 : decode cX6_bargain 4 = .ok (.ifCond .eq 15, 3) := by decide +kernel
theorem dX6_bargain_7 : decode cX6_bargain 7 = .ok (.iload_n 2, 1) := by decide +kernel
theorem dX6_bargain_8 : decode cX6_bargain 8 = .ok (.invokestatic 138, 3) := by decide +kernel
theorem dX6_bargain_11 : decode cX6_bargain 11 = .ok (.ifCond .eq 8, 3) := by decide +kernel
theorem dX6_bargain_14 : decode cX6_bargain 14 = .ok (.iload_n 1, 1) := by decide +kernel
theorem dX6_bargain_15 : decode cX6_bargain 15 = .ok (.iload_n 2, 1) := by decide +kernel
theorem dX6_bargain_16 : decode cX6_bargain 16 = .ok (.if_icmp .le 6, 3) := by decide +kernel
theorem dX6_bargain_19 : decode cX6_bargain 19 = .ok (.bipush (-102), 2) := by decide +kernel
theorem dX6_bargain_21 : decode cX6_bargain 21 = .ok (.ireturn, 1) := by decide +kernel
theorem dX6_bargain_22 : decode cX6_bargain 22 = .ok (.aload_n 0, 1) := by decide +kernel
theorem dX6_bargain_23 : decode cX6_bargain 23 = .ok (.getfield 87, 3) := by decide +kernel
theorem dX6_bargain_26 : decode cX6_bargain 26 = .ok (.ifCond .ne 6, 3) := by decide +kernel
theorem dX6_bargain_29 : decode cX6_bargain 29 = .ok (.bipush (-103), 2) := by decide +kernel
theorem dX6_bargain_31 : decode cX6_bargain 31 = .ok (.ireturn, 1) := by decide +kernel
theorem dX6_bargain_32 : decode cX6_bargain 32 = .ok (.iconst (-1), 1) := by decide +kernel
theorem dX6_bargain_33 : decode cX6_bargain 33 = .ok (.istore_n 3, 1) := by decide +kernel
theorem dX6_bargain_34 : decode cX6_bargain 34 = .ok (.lconst 0, 1) := by decide +kernel
theorem dX6_bargain_35 : decode cX6_bargain 35 = .ok (.lstore 4, 2) := by decide +kernel
theorem dX6_bargain_37 : decode cX6_bargain 37 = .ok (.iload_n 1, 1) := by decide +kernel
theorem dX6_bargain_38 : decode cX6_bargain 38 = .ok (.istore 6, 2) := by decide +kernel
theorem dX6_bargain_40 : decode cX6_bargain 40 = .ok (.iload 6, 2) := by decide +kernel
theorem dX6_bargain_42 : decode cX6_bargain 42 = .ok (.iload_n 2, 1) := by decide +kernel
theorem dX6_bargain_43 : decode cX6_bargain 43 = .ok (.if_icmp .gt 62, 3) := by decide +kernel
theorem dX6_bargain_46 : decode cX6_bargain 46 = .ok (.aload_n 0, 1) := by decide +kernel
theorem dX6_bargain_47 : decode cX6_bargain 47 = .ok (.getfield 30, 3) := by decide +kernel
theorem dX6_bargain_50 : decode cX6_bargain 50 = .ok (.iload 6, 2) := by decide +kernel
theorem dX6_bargain_52 : decode cX6_bargain 52 = .ok (.invokevirtual 174, 3) := by decide +kernel
theorem dX6_bargain_55 : decode cX6_bargain 55 = .ok (.istore 7, 2) := by decide +kernel
theorem dX6_bargain_57 : decode cX6_bargain 57 = .ok (.iload 7, 2) := by decide +kernel
theorem dX6_bargain_59 : decode cX6_bargain 59 = .ok (.iconst (-1), 1) := by decide +kernel
theorem dX6_bargain_60 : decode cX6_bargain 60 = .ok (.if_icmp .eq 39, 3) := by decide +kernel
theorem dX6_bargain_63 : decode cX6_bargain 63 = .ok (.aload_n 0, 1) := by decide +kernel
theorem dX6_bargain_64 : decode cX6_bargain 64 = .ok (.getfield 21, 3) := by decide +kernel
theorem dX6_bargain_67 : decode cX6_bargain 67 = .ok (.iload 7, 2) := by decide +kernel
theorem dX6_bargain_69 : decode cX6_bargain 69 = .ok (.invokevirtual 105, 3) := by decide +kernel
theorem dX6_bargain_72 : decode cX6_bargain 72 = .ok (.iload 6, 2) := by decide +kernel
theorem dX6_bargain_74 : decode cX6_bargain 74 = .ok (.invokevirtual 148, 3) := by decide +kernel
theorem dX6_bargain_77 : decode cX6_bargain 77 = .ok (.lstore 8, 2) := by decide +kernel
theorem dX6_bargain_79 : decode cX6_bargain 79 = .ok (.iload_n 3, 1) := by decide +kernel
theorem dX6_bargain_80 : decode cX6_bargain 80 = .ok (.iconst (-1), 1) := by decide +kernel
theorem dX6_bargain_81 : decode cX6_bargain 81 = .ok (.if_icmp .eq 11, 3) := by decide +kernel
theorem dX6_bargain_84 : decode cX6_bargain 84 = .ok (.lload 8, 2) := by decide +kernel
theorem dX6_bargain_86 : decode cX6_bargain 86 = .ok (.lload 4, 2) := by decide +kernel
theorem dX6_bargain_88 : decode cX6_bargain 88 = .ok (.lcmp, 1) := by decide +kernel
theorem dX6_bargain_89 : decode cX6_bargain 89 = .ok (.ifCond .ge 10, 3) := by decide +kernel
theorem dX6_bargain_92 : decode cX6_bargain 92 = .ok (.iload 6, 2) := by decide +kernel
theorem dX6_bargain_94 : decode cX6_bargain 94 = .ok (.istore_n 3, 1) := by decide +kernel
theorem dX6_bargain_95 : decode cX6_bargain 95 = .ok (.lload 8, 2) := by decide +kernel
theorem dX6_bargain_97 : decode cX6_bargain 97 = .ok (.lstore 4, 2) := by decide +kernel
theorem dX6_bargain_99 : decode cX6_bargain 99 = .ok (.iinc 6 1, 3) := by decide +kernel
theorem dX6_bargain_102 : decode cX6_bargain 102 = .ok (.goto (-62), 3) := by decide +kernel
theorem dX6_bargain_105 : decode cX6_bargain 105 = .ok (.iload_n 3, 1) := by decide +kernel
theorem dX6_bargain_106 : decode cX6_bargain 106 = .ok (.ireturn, 1) := by decide +kernel
theorem dX6_crossing_0 : decode cX6_crossing 0 = .ok (.aload_n 0, 1) := by decide +kernel
theorem dX6_crossing_1 : decode cX6_crossing 1 = .ok (.getfield 21, 3) := by decide +kernel
theorem dX6_crossing_4 : decode cX6_crossing 4 = .ok (.iload_n 1, 1) := by decide +kernel
theorem dX6_crossing_5 : decode cX6_crossing 5 = .ok (.invokevirtual 102, 3) := by decide +kernel
theorem dX6_crossing_8 : decode cX6_crossing 8 = .ok (.ifCond .eq 19, 3) := by decide +kernel
theorem dX6_crossing_11 : decode cX6_crossing 11 = .ok (.aload_n 0, 1) := by decide +kernel
theorem dX6_crossing_12 : decode cX6_crossing 12 = .ok (.getfield 21, 3) := by decide +kernel
theorem dX6_crossing_15 : decode cX6_crossing 15 = .ok (.iload_n 2, 1) := by decide +kernel
theorem dX6_crossing_16 : decode cX6_crossing 16 = .ok (.invokevirtual 102, 3) := by decide +kernel
theorem dX6_crossing_19 : decode cX6_crossing 19 = .ok (.ifCond .eq 8, 3) := by decide +kernel
theorem dX6_crossing_22 : decode cX6_crossing 22 = .ok (.iload_n 1, 1) := by decide +kernel
theorem dX6_crossing_23 : decode cX6_crossing 23 = .ok (.iload_n 2, 1) := by decide +kernel
theorem dX6_crossing_24 : decode cX6_crossing 24 = .ok (.if_icmp .ne 6, 3) := by decide +kernel
theorem dX6_crossing_27 : decode cX6_crossing 27 = .ok (.bipush (-101), 2) := by decide +kernel
theorem dX6_crossing_29 : decode cX6_crossing 29 = .ok (.ireturn, 1) := by decide +kernel
theorem dX6_crossing_30 : decode cX6_crossing 30 = .ok (.aload_n 0, 1) := by decide +kernel
theorem dX6_crossing_31 : decode cX6_crossing 31 = .ok (.getfield 21, 3) := by decide +kernel
theorem dX6_crossing_34 : decode cX6_crossing 34 = .ok (.iload_n 1, 1) := by decide +kernel
theorem dX6_crossing_35 : decode cX6_crossing 35 = .ok (.invokevirtual 105, 3) := by decide +kernel
theorem dX6_crossing_38 : decode cX6_crossing 38 = .ok (.getfield 112, 3) := by decide +kernel
theorem dX6_crossing_41 : decode cX6_crossing 41 = .ok (.aload_n 0, 1) := by decide +kernel
theorem dX6_crossing_42 : decode cX6_crossing 42 = .ok (.getfield 21, 3) := by decide +kernel
theorem dX6_crossing_45 : decode cX6_crossing 45 = .ok (.iload_n 2, 1) := by decide +kernel
theorem dX6_crossing_46 : decode cX6_crossing 46 = .ok (.invokevirtual 105, 3) := by decide +kernel
theorem dX6_crossing_49 : decode cX6_crossing 49 = .ok (.getfield 112, 3) := by decide +kernel
theorem dX6_crossing_52 : decode cX6_crossing 52 = .ok (.invokestatic 185, 3) := by decide +kernel
theorem dX6_crossing_55 : decode cX6_crossing 55 = .ok (.istore_n 3, 1) := by decide +kernel
theorem dX6_crossing_56 : decode cX6_crossing 56 = .ok (.aload_n 0, 1) := by decide +kernel
theorem dX6_crossing_57 : decode cX6_crossing 57 = .ok (.getfield 21, 3) := by decide +kernel
theorem dX6_crossing_60 : decode cX6_crossing 60 = .ok (.iload_n 1, 1) := by decide +kernel
theorem dX6_crossing_61 : decode cX6_crossing 61 = .ok (.invokevirtual 105, 3) := by decide +kernel
theorem dX6_crossing_64 : decode cX6_crossing 64 = .ok (.getfield 115, 3) := by decide +kernel
theorem dX6_crossing_67 : decode cX6_crossing 67 = .ok (.aload_n 0, 1) := by decide +kernel
theorem dX6_crossing_68 : decode cX6_crossing 68 = .ok (.getfield 21, 3) := by decide +kernel
theorem dX6_crossing_71 : decode cX6_crossing 71 = .ok (.iload_n 2, 1) := by decide +kernel
theorem dX6_crossing_72 : decode cX6_crossing 72 = .ok (.invokevirtual 105, 3) := by decide +kernel
theorem dX6_crossing_75 : decode cX6_crossing 75 = .ok (.getfield 115, 3) := by decide +kernel
theorem dX6_crossing_78 : decode cX6_crossing 78 = .ok (.invokestatic 190, 3) := by decide +kernel
theorem dX6_crossing_81 : decode cX6_crossing 81 = .ok (.istore 4, 2) := by decide +kernel
theorem dX6_crossing_83 : decode cX6_crossing 83 = .ok (.iload_n 3, 1) := by decide +kernel
theorem dX6_crossing_84 : decode cX6_crossing 84 = .ok (.istore 5, 2) := by decide +kernel
theorem dX6_crossing_86 : decode cX6_crossing 86 = .ok (.iload 5, 2) := by decide +kernel
theorem dX6_crossing_88 : decode cX6_crossing 88 = .ok (.iload 4, 2) := by decide +kernel
theorem dX6_crossing_90 : decode cX6_crossing 90 = .ok (.if_icmp .gt 26, 3) := by decide +kernel
theorem dX6_crossing_93 : decode cX6_crossing 93 = .ok (.aload_n 0, 1) := by decide +kernel
theorem dX6_crossing_94 : decode cX6_crossing 94 = .ok (.getfield 21, 3) := by decide +kernel
theorem dX6_crossing_97 : decode cX6_crossing 97 = .ok (.iload_n 2, 1) := by decide +kernel
theorem dX6_crossing_98 : decode cX6_crossing 98 = .ok (.iload_n 1, 1) := by decide +kernel
theorem dX6_crossing_99 : decode cX6_crossing 99 = .ok (.iload 5, 2) := by decide +kernel
theorem dX6_crossing_101 : decode cX6_crossing 101 = .ok (.invokevirtual 193, 3) := by decide +kernel
theorem dX6_crossing_104 : decode cX6_crossing 104 = .ok (.ifCond .eq 6, 3) := by decide +kernel
theorem dX6_crossing_107 : decode cX6_crossing 107 = .ok (.iload 5, 2) := by decide +kernel
theorem dX6_crossing_109 : decode cX6_crossing 109 = .ok (.ireturn, 1) := by decide +kernel
theorem dX6_crossing_110 : decode cX6_crossing 110 = .ok (.iinc 5 1, 3) := by decide +kernel
theorem dX6_crossing_113 : decode cX6_crossing 113 = .ok (.goto (-27), 3) := by decide +kernel
theorem dX6_crossing_116 : decode cX6_crossing 116 = .ok (.iconst (-1), 1) := by decide +kernel
theorem dX6_crossing_117 : decode cX6_crossing 117 = .ok (.ireturn, 1) := by decide +kernel
theorem dX6_would_0 : decode cX6_would 0 = .ok (.aload_n 0, 1) := by decide +kernel
theorem dX6_would_1 : decode cX6_would 1 = .ok (.iload_n 1, 1) := by decide +kernel
theorem dX6_would_2 : decode cX6_would 2 = .ok (.iload_n 2, 1) := by decide +kernel
theorem dX6_would_3 : decode cX6_would 3 = .ok (.iload_n 3, 1) := by decide +kernel
theorem dX6_would_4 : decode cX6_would 4 = .ok (.iload 4, 2) := by decide +kernel
theorem dX6_would_6 : decode cX6_would 6 = .ok (.invokevirtual 167, 3) := by decide +kernel
theorem dX6_would_9 : decode cX6_would 9 = .ok (.istore 5, 2) := by decide +kernel
theorem dX6_would_11 : decode cX6_would 11 = .ok (.iload 5, 2) := by decide +kernel
theorem dX6_would_13 : decode cX6_would 13 = .ok (.ifCond .eq 6, 3) := by decide +kernel
theorem dX6_would_16 : decode cX6_would 16 = .ok (.iload 5, 2) := by decide +kernel
theorem dX6_would_18 : decode cX6_would 18 = .ok (.ireturn, 1) := by decide +kernel
theorem dX6_would_19 : decode cX6_would 19 = .ok (.iconst 0, 1) := by decide +kernel
theorem dX6_would_20 : decode cX6_would 20 = .ok (.istore 6, 2) := by decide +kernel
theorem dX6_would_22 : decode cX6_would 22 = .ok (.aload_n 0, 1) := by decide +kernel
theorem dX6_would_23 : decode cX6_would 23 = .ok (.getfield 51, 3) := by decide +kernel
theorem dX6_would_26 : decode cX6_would 26 = .ok (.getfield 112, 3) := by decide +kernel
theorem dX6_would_29 : decode cX6_would 29 = .ok (.istore 7, 2) := by decide +kernel
theorem dX6_would_31 : decode cX6_would 31 = .ok (.iload 7, 2) := by decide +kernel
theorem dX6_would_33 : decode cX6_would 33 = .ok (.aload_n 0, 1) := by decide +kernel
theorem dX6_would_34 : decode cX6_would 34 = .ok (.getfield 51, 3) := by decide +kernel
theorem dX6_would_37 : decode cX6_would 37 = .ok (.getfield 115, 3) := by decide +kernel
theorem dX6_would_40 : decode cX6_would 40 = .ok (.if_icmp .gt 56, 3) := by decide +kernel
theorem dX6_would_43 : decode cX6_would 43 = .ok (.aload_n 0, 1) := by decide +kernel
theorem dX6_would_44 : decode cX6_would 44 = .ok (.getfield 30, 3) := by decide +kernel
theorem dX6_would_47 : decode cX6_would 47 = .ok (.iload 7, 2) := by decide +kernel
theorem dX6_would_49 : decode cX6_would 49 = .ok (.invokevirtual 174, 3) := by decide +kernel
theorem dX6_would_52 : decode cX6_would 52 = .ok (.istore 8, 2) := by decide +kernel
theorem dX6_would_54 : decode cX6_would 54 = .ok (.iload 8, 2) := by decide +kernel
theorem dX6_would_56 : decode cX6_would 56 = .ok (.iconst (-1), 1) := by decide +kernel
theorem dX6_would_57 : decode cX6_would 57 = .ok (.if_icmp .eq 30, 3) := by decide +kernel
theorem dX6_would_60 : decode cX6_would 60 = .ok (.aload_n 0, 1) := by decide +kernel
theorem dX6_would_61 : decode cX6_would 61 = .ok (.getfield 51, 3) := by decide +kernel
theorem dX6_would_64 : decode cX6_would 64 = .ok (.iload 7, 2) := by decide +kernel
theorem dX6_would_66 : decode cX6_would 66 = .ok (.invokevirtual 148, 3) := by decide +kernel
theorem dX6_would_69 : decode cX6_would 69 = .ok (.aload_n 0, 1) := by decide +kernel
theorem dX6_would_70 : decode cX6_would 70 = .ok (.getfield 21, 3) := by decide +kernel
theorem dX6_would_73 : decode cX6_would 73 = .ok (.iload 8, 2) := by decide +kernel
theorem dX6_would_75 : decode cX6_would 75 = .ok (.invokevirtual 105, 3) := by decide +kernel
theorem dX6_would_78 : decode cX6_would 78 = .ok (.iload 7, 2) := by decide +kernel
theorem dX6_would_80 : decode cX6_would 80 = .ok (.invokevirtual 148, 3) := by decide +kernel
theorem dX6_would_83 : decode cX6_would 83 = .ok (.lcmp, 1) := by decide +kernel
theorem dX6_would_84 : decode cX6_would 84 = .ok (.ifCond .ge 6, 3) := by decide +kernel
theorem dX6_would_87 : decode cX6_would 87 = .ok (.iinc 6 1, 3) := by decide +kernel
theorem dX6_would_90 : decode cX6_would 90 = .ok (.iinc 7 1, 3) := by decide +kernel
theorem dX6_would_93 : decode cX6_would 93 = .ok (.goto (-62), 3) := by decide +kernel
theorem dX6_would_96 : decode cX6_would 96 = .ok (.iload 6, 2) := by decide +kernel
theorem dX6_would_98 : decode cX6_would 98 = .ok (.ireturn, 1) := by decide +kernel
theorem dX6_see_0 : decode cX6_see 0 = .ok (.aload_n 0, 1) := by decide +kernel
theorem dX6_see_1 : decode cX6_see 1 = .ok (.getfield 21, 3) := by decide +kernel
theorem dX6_see_4 : decode cX6_see 4 = .ok (.iload_n 1, 1) := by decide +kernel
theorem dX6_see_5 : decode cX6_see 5 = .ok (.invokevirtual 102, 3) := by decide +kernel
theorem dX6_see_8 : decode cX6_see 8 = .ok (.ifCond .eq 10, 3) := by decide +kernel
theorem dX6_see_11 : decode cX6_see 11 = .ok (.iload_n 2, 1) := by decide +kernel
theorem dX6_see_12 : decode cX6_see 12 = .ok (.invokestatic 138, 3) := by decide +kernel
theorem dX6_see_15 : decode cX6_see 15 = .ok (.ifCond .ne 6, 3) := by decide +kernel
theorem dX6_see_18 : decode cX6_see 18 = .ok (.bipush (-101), 2) := by decide +kernel
theorem dX6_see_20 : decode cX6_see 20 = .ok (.ireturn, 1) := by decide +kernel
theorem dX6_see_21 : decode cX6_see 21 = .ok (.aload_n 0, 1) := by decide +kernel
theorem dX6_see_22 : decode cX6_see 22 = .ok (.getfield 37, 3) := by decide +kernel
theorem dX6_see_25 : decode cX6_see 25 = .ok (.iload_n 1, 1) := by decide +kernel
theorem dX6_see_26 : decode cX6_see 26 = .ok (.iload_n 2, 1) := by decide +kernel
theorem dX6_see_27 : decode cX6_see 27 = .ok (.iload_n 3, 1) := by decide +kernel
theorem dX6_see_28 : decode cX6_see 28 = .ok (.invokevirtual 197, 3) := by decide +kernel
theorem dX6_see_31 : decode cX6_see 31 = .ok (.ifCond .eq 13, 3) := by decide +kernel
theorem dX6_see_34 : decode cX6_see 34 = .ok (.aload_n 0, 1) := by decide +kernel
theorem dX6_see_35 : decode cX6_see 35 = .ok (.getfield 37, 3) := by decide +kernel
theorem dX6_see_38 : decode cX6_see 38 = .ok (.getfield 80, 3) := by decide +kernel
theorem dX6_see_41 : decode cX6_see 41 = .ok (.goto 5, 3) := by decide +kernel
theorem dX6_see_44 : decode cX6_see 44 = .ok (.bipush (-104), 2) := by decide +kernel
theorem dX6_see_46 : decode cX6_see 46 = .ok (.ireturn, 1) := by decide +kernel
theorem dX6_forget_0 : decode cX6_forget 0 = .ok (.aload_n 0, 1) := by decide +kernel
theorem dX6_forget_1 : decode cX6_forget 1 = .ok (.getfield 37, 3) := by decide +kernel
theorem dX6_forget_4 : decode cX6_forget 4 = .ok (.getfield 80, 3) := by decide +kernel
theorem dX6_forget_7 : decode cX6_forget 7 = .ok (.istore_n 1, 1) := by decide +kernel
theorem dX6_forget_8 : decode cX6_forget 8 = .ok (.aload_n 0, 1) := by decide +kernel
theorem dX6_forget_9 : decode cX6_forget 9 = .ok (.getfield 37, 3) := by decide +kernel
theorem dX6_forget_12 : decode cX6_forget 12 = .ok (.iconst 0, 1) := by decide +kernel
theorem dX6_forget_13 : decode cX6_forget 13 = .ok (.putfield 80, 3) := by decide +kernel
theorem dX6_forget_16 : decode cX6_forget 16 = .ok (.iload_n 1, 1) := by decide +kernel
theorem dX6_forget_17 : decode cX6_forget 17 = .ok (.ireturn, 1) := by decide +kernel
theorem dX6_drawn_0 : decode cX6_drawn 0 = .ok (.iload_n 1, 1) := by decide +kernel
theorem dX6_drawn_1 : decode cX6_drawn 1 = .ok (.iconst 1, 1) := by decide +kernel
theorem dX6_drawn_2 : decode cX6_drawn 2 = .ok (.if_icmp .lt 22, 3) := by decide +kernel
theorem dX6_drawn_5 : decode cX6_drawn 5 = .ok (.iload_n 1, 1) := by decide +kernel
theorem dX6_drawn_6 : decode cX6_drawn 6 = .ok (.bipush 30, 2) := by decide +kernel
theorem dX6_drawn_8 : decode cX6_drawn 8 = .ok (.if_icmp .gt 16, 3) := by decide +kernel
theorem dX6_drawn_11 : decode cX6_drawn 11 = .ok (.iload_n 2, 1) := by decide +kernel
theorem dX6_drawn_12 : decode cX6_drawn 12 = .ok (.ifCond .lt 12, 3) := by decide +kernel
theorem dX6_drawn_15 : decode cX6_drawn 15 = .ok (.iload_n 3, 1) := by decide +kernel
theorem dX6_drawn_16 : decode cX6_drawn 16 = .ok (.ifCond .lt 8, 3) := by decide +kernel
theorem dX6_drawn_19 : decode cX6_drawn 19 = .ok (.iload_n 3, 1) := by decide +kernel
theorem dX6_drawn_20 : decode cX6_drawn 20 = .ok (.iconst 2, 1) := by decide +kernel
theorem dX6_drawn_21 : decode cX6_drawn 21 = .ok (.if_icmp .le 6, 3) := by decide +kernel
theorem dX6_drawn_24 : decode cX6_drawn 24 = .ok (.bipush (-102), 2) := by decide +kernel
theorem dX6_drawn_26 : decode cX6_drawn 26 = .ok (.ireturn, 1) := by decide +kernel
theorem dX6_drawn_27 : decode cX6_drawn 27 = .ok (.aload_n 0, 1) := by decide +kernel
theorem dX6_drawn_28 : decode cX6_drawn 28 = .ok (.getfield 87, 3) := by decide +kernel
theorem dX6_drawn_31 : decode cX6_drawn 31 = .ok (.ifCond .ne 6, 3) := by decide +kernel
theorem dX6_drawn_34 : decode cX6_drawn 34 = .ok (.bipush (-103), 2) := by decide +kernel
theorem dX6_drawn_36 : decode cX6_drawn 36 = .ok (.ireturn, 1) := by decide +kernel
theorem dX6_drawn_37 : decode cX6_drawn 37 = .ok (.aload_n 0, 1) := by decide +kernel
theorem dX6_drawn_38 : decode cX6_drawn 38 = .ok (.getfield 21, 3) := by decide +kernel
theorem dX6_drawn_41 : decode cX6_drawn 41 = .ok (.getfield 101, 3) := by decide +kernel
theorem dX6_drawn_44 : decode cX6_drawn 44 = .ok (.istore 4, 2) := by decide +kernel
theorem dX6_drawn_46 : decode cX6_drawn 46 = .ok (.aload_n 0, 1) := by decide +kernel
theorem dX6_drawn_47 : decode cX6_drawn 47 = .ok (.getfield 44, 3) := by decide +kernel
theorem dX6_drawn_50 : decode cX6_drawn 50 = .ok (.iload_n 2, 1) := by decide +kernel
theorem dX6_drawn_51 : decode cX6_drawn 51 = .ok (.putfield 199, 3) := by decide +kernel
theorem dX6_drawn_54 : decode cX6_drawn 54 = .ok (.iconst 0, 1) := by decide +kernel
theorem dX6_drawn_55 : decode cX6_drawn 55 = .ok (.istore 5, 2) := by decide +kernel
theorem dX6_drawn_57 : decode cX6_drawn 57 = .ok (.iload 5, 2) := by decide +kernel
theorem dX6_drawn_59 : decode cX6_drawn 59 = .ok (.iload_n 1, 1) := by decide +kernel
theorem dX6_drawn_60 : decode cX6_drawn 60 = .ok (.if_icmp .ge 32, 3) := by decide +kernel
theorem dX6_drawn_63 : decode cX6_drawn 63 = .ok (.aload_n 0, 1) := by decide +kernel
theorem dX6_drawn_64 : decode cX6_drawn 64 = .ok (.getfield 44, 3) := by decide +kernel
theorem dX6_drawn_67 : decode cX6_drawn 67 = .ok (.aload_n 0, 1) := by decide +kernel
theorem dX6_drawn_68 : decode cX6_drawn 68 = .ok (.getfield 51, 3) := by decide +kernel
theorem dX6_drawn_71 : decode cX6_drawn 71 = .ok (.invokevirtual 202, 3) := by decide +kernel
theorem dX6_drawn_74 : decode cX6_drawn 74 = .ok (.aload_n 0, 1) := by decide +kernel
theorem dX6_drawn_75 : decode cX6_drawn 75 = .ok (.getfield 30, 3) := by decide +kernel
theorem dX6_drawn_78 : decode cX6_drawn 78 = .ok (.aload_n 0, 1) := by decide +kernel
theorem dX6_drawn_79 : decode cX6_drawn 79 = .ok (.getfield 51, 3) := by decide +kernel
theorem dX6_drawn_82 : decode cX6_drawn 82 = .ok (.invokevirtual 97, 3) := by decide +kernel
theorem dX6_drawn_85 : decode cX6_drawn 85 = .ok (.pop, 1) := by decide +kernel
theorem dX6_drawn_86 : decode cX6_drawn 86 = .ok (.iinc 5 1, 3) := by decide +kernel
theorem dX6_drawn_89 : decode cX6_drawn 89 = .ok (.goto (-32), 3) := by decide +kernel
theorem dX6_drawn_92 : decode cX6_drawn 92 = .ok (.aload_n 0, 1) := by decide +kernel
theorem dX6_drawn_93 : decode cX6_drawn 93 = .ok (.getfield 44, 3) := by decide +kernel
theorem dX6_drawn_96 : decode cX6_drawn 96 = .ok (.getfield 199, 3) := by decide +kernel
theorem dX6_drawn_99 : decode cX6_drawn 99 = .ok (.istore 5, 2) := by decide +kernel
theorem dX6_drawn_101 : decode cX6_drawn 101 = .ok (.iload_n 3, 1) := by decide +kernel
theorem dX6_drawn_102 : decode cX6_drawn 102 = .ok (.ifCond .ne 20, 3) := by decide +kernel
theorem dX6_drawn_105 : decode cX6_drawn 105 = .ok (.aload_n 0, 1) := by decide +kernel
theorem dX6_drawn_106 : decode cX6_drawn 106 = .ok (.iload 4, 2) := by decide +kernel
theorem dX6_drawn_108 : decode cX6_drawn 108 = .ok (.iload 4, 2) := by decide +kernel
theorem dX6_drawn_110 : decode cX6_drawn 110 = .ok (.iload_n 1, 1) := by decide +kernel
end
section
theorem dX6_drawn_111 : decode cX6_drawn 111 = .ok (.iadd, 1) := by decide +kernel
theorem dX6_drawn_112 : decode cX6_drawn 112 = .ok (.iconst 1, 1) := by decide +kernel
theorem dX6_drawn_113 : decode cX6_drawn 113 = .ok (.isub, 1) := by decide +kernel
theorem dX6_drawn_114 : decode cX6_drawn 114 = .ok (.invokevirtual 122, 3) := by decide +kernel
theorem dX6_drawn_117 : decode cX6_drawn 117 = .ok (.istore 5, 2) := by decide +kernel
theorem dX6_drawn_119 : decode cX6_drawn 119 = .ok (.goto 25, 3) := by decide +kernel
theorem dX6_drawn_122 : decode cX6_drawn 122 = .ok (.iload_n 3, 1) := by decide +kernel
theorem dX6_drawn_123 : decode cX6_drawn 123 = .ok (.iconst 1, 1) := by decide +kernel
theorem dX6_drawn_124 : decode cX6_drawn 124 = .ok (.if_icmp .ne 20, 3) := by decide +kernel
theorem dX6_drawn_127 : decode cX6_drawn 127 = .ok (.aload_n 0, 1) := by decide +kernel
theorem dX6_drawn_128 : decode cX6_drawn 128 = .ok (.getfield 30, 3) := by decide +kernel
theorem dX6_drawn_131 : decode cX6_drawn 131 = .ok (.iload 4, 2) := by decide +kernel
theorem dX6_drawn_133 : decode cX6_drawn 133 = .ok (.iload 4, 2) := by decide +kernel
theorem dX6_drawn_135 : decode cX6_drawn 135 = .ok (.iload_n 1, 1) := by decide +kernel
theorem dX6_drawn_136 : decode cX6_drawn 136 = .ok (.iadd, 1) := by decide +kernel
theorem dX6_drawn_137 : decode cX6_drawn 137 = .ok (.iconst 1, 1) := by decide +kernel
theorem dX6_drawn_138 : decode cX6_drawn 138 = .ok (.isub, 1) := by decide +kernel
theorem dX6_drawn_139 : decode cX6_drawn 139 = .ok (.invokevirtual 118, 3) := by decide +kernel
theorem dX6_drawn_142 : decode cX6_drawn 142 = .ok (.istore 5, 2) := by decide +kernel
theorem dX6_drawn_144 : decode cX6_drawn 144 = .ok (.iconst 0, 1) := by decide +kernel
theorem dX6_drawn_145 : decode cX6_drawn 145 = .ok (.istore 6, 2) := by decide +kernel
theorem dX6_drawn_147 : decode cX6_drawn 147 = .ok (.iload 6, 2) := by decide +kernel
theorem dX6_drawn_149 : decode cX6_drawn 149 = .ok (.iload_n 1, 1) := by decide +kernel
theorem dX6_drawn_150 : decode cX6_drawn 150 = .ok (.if_icmp .ge 16, 3) := by decide +kernel
theorem dX6_drawn_153 : decode cX6_drawn 153 = .ok (.aload_n 0, 1) := by decide +kernel
theorem dX6_drawn_154 : decode cX6_drawn 154 = .ok (.getfield 30, 3) := by decide +kernel
theorem dX6_drawn_157 : decode cX6_drawn 157 = .ok (.invokevirtual 171, 3) := by decide +kernel
theorem dX6_drawn_160 : decode cX6_drawn 160 = .ok (.iinc 6 1, 3) := by decide +kernel
theorem dX6_drawn_163 : decode cX6_drawn 163 = .ok (.goto (-16), 3) := by decide +kernel
theorem dX6_drawn_166 : decode cX6_drawn 166 = .ok (.iload 5, 2) := by decide +kernel
theorem dX6_drawn_168 : decode cX6_drawn 168 = .ok (.ireturn, 1) := by decide +kernel
theorem dX6_image_0 : decode cX6_image 0 = .ok (.aload_n 0, 1) := by decide +kernel
theorem dX6_image_1 : decode cX6_image 1 = .ok (.getfield 87, 3) := by decide +kernel
theorem dX6_image_4 : decode cX6_image 4 = .ok (.ifCond .ne 6, 3) := by decide +kernel
theorem dX6_image_7 : decode cX6_image 7 = .ok (.bipush (-103), 2) := by decide +kernel
theorem dX6_image_9 : decode cX6_image 9 = .ok (.ireturn, 1) := by decide +kernel
theorem dX6_image_10 : decode cX6_image 10 = .ok (.aload_n 0, 1) := by decide +kernel
theorem dX6_image_11 : decode cX6_image 11 = .ok (.getfield 55, 3) := by decide +kernel
theorem dX6_image_14 : decode cX6_image 14 = .ok (.aload_n 0, 1) := by decide +kernel
theorem dX6_image_15 : decode cX6_image 15 = .ok (.getfield 21, 3) := by decide +kernel
theorem dX6_image_18 : decode cX6_image 18 = .ok (.invokevirtual 206, 3) := by decide +kernel
theorem dX6_image_21 : decode cX6_image 21 = .ok (.aload_n 0, 1) := by decide +kernel
theorem dX6_image_22 : decode cX6_image 22 = .ok (.getfield 58, 3) := by decide +kernel
theorem dX6_image_25 : decode cX6_image 25 = .ok (.aload_n 0, 1) := by decide +kernel
theorem dX6_image_26 : decode cX6_image 26 = .ok (.getfield 37, 3) := by decide +kernel
theorem dX6_image_29 : decode cX6_image 29 = .ok (.invokevirtual 209, 3) := by decide +kernel
theorem dX6_image_32 : decode cX6_image 32 = .ok (.aload_n 0, 1) := by decide +kernel
theorem dX6_image_33 : decode cX6_image 33 = .ok (.iconst 1, 1) := by decide +kernel
theorem dX6_image_34 : decode cX6_image 34 = .ok (.putfield 83, 3) := by decide +kernel
theorem dX6_image_37 : decode cX6_image 37 = .ok (.aload_n 0, 1) := by decide +kernel
theorem dX6_image_38 : decode cX6_image 38 = .ok (.getfield 21, 3) := by decide +kernel
theorem dX6_image_41 : decode cX6_image 41 = .ok (.getfield 101, 3) := by decide +kernel
theorem dX6_image_44 : decode cX6_image 44 = .ok (.ireturn, 1) := by decide +kernel
theorem dX6_restore_0 : decode cX6_restore 0 = .ok (.aload_n 0, 1) := by decide +kernel
theorem dX6_restore_1 : decode cX6_restore 1 = .ok (.getfield 83, 3) := by decide +kernel
theorem dX6_restore_4 : decode cX6_restore 4 = .ok (.ifCond .ne 6, 3) := by decide +kernel
theorem dX6_restore_7 : decode cX6_restore 7 = .ok (.bipush (-103), 2) := by decide +kernel
theorem dX6_restore_9 : decode cX6_restore 9 = .ok (.ireturn, 1) := by decide +kernel
theorem dX6_restore_10 : decode cX6_restore 10 = .ok (.aload_n 0, 1) := by decide +kernel
theorem dX6_restore_11 : decode cX6_restore 11 = .ok (.getfield 30, 3) := by decide +kernel
theorem dX6_restore_14 : decode cX6_restore 14 = .ok (.invokevirtual 77, 3) := by decide +kernel
theorem dX6_restore_17 : decode cX6_restore 17 = .ok (.iconst 0, 1) := by decide +kernel
theorem dX6_restore_18 : decode cX6_restore 18 = .ok (.istore_n 1, 1) := by decide +kernel
theorem dX6_restore_19 : decode cX6_restore 19 = .ok (.iload_n 1, 1) := by decide +kernel
theorem dX6_restore_20 : decode cX6_restore 20 = .ok (.aload_n 0, 1) := by decide +kernel
theorem dX6_restore_21 : decode cX6_restore 21 = .ok (.getfield 55, 3) := by decide +kernel
theorem dX6_restore_24 : decode cX6_restore 24 = .ok (.getfield 101, 3) := by decide +kernel
theorem dX6_restore_27 : decode cX6_restore 27 = .ok (.if_icmp .ge 25, 3) := by decide +kernel
theorem dX6_restore_30 : decode cX6_restore 30 = .ok (.aload_n 0, 1) := by decide +kernel
theorem dX6_restore_31 : decode cX6_restore 31 = .ok (.getfield 30, 3) := by decide +kernel
theorem dX6_restore_34 : decode cX6_restore 34 = .ok (.aload_n 0, 1) := by decide +kernel
theorem dX6_restore_35 : decode cX6_restore 35 = .ok (.getfield 55, 3) := by decide +kernel
theorem dX6_restore_38 : decode cX6_restore 38 = .ok (.iload_n 1, 1) := by decide +kernel
theorem dX6_restore_39 : decode cX6_restore 39 = .ok (.invokevirtual 105, 3) := by decide +kernel
theorem dX6_restore_42 : decode cX6_restore 42 = .ok (.invokevirtual 97, 3) := by decide +kernel
theorem dX6_restore_45 : decode cX6_restore 45 = .ok (.pop, 1) := by decide +kernel
theorem dX6_restore_46 : decode cX6_restore 46 = .ok (.iinc 1 1, 3) := by decide +kernel
theorem dX6_restore_49 : decode cX6_restore 49 = .ok (.goto (-30), 3) := by decide +kernel
theorem dX6_restore_52 : decode cX6_restore 52 = .ok (.aload_n 0, 1) := by decide +kernel
theorem dX6_restore_53 : decode cX6_restore 53 = .ok (.getfield 37, 3) := by decide +kernel
theorem dX6_restore_56 : decode cX6_restore 56 = .ok (.aload_n 0, 1) := by decide +kernel
theorem dX6_restore_57 : decode cX6_restore 57 = .ok (.getfield 58, 3) := by decide +kernel
theorem dX6_restore_60 : decode cX6_restore 60 = .ok (.invokevirtual 209, 3) := by decide +kernel
theorem dX6_restore_63 : decode cX6_restore 63 = .ok (.aload_n 0, 1) := by decide +kernel
theorem dX6_restore_64 : decode cX6_restore 64 = .ok (.getfield 21, 3) := by decide +kernel
theorem dX6_restore_67 : decode cX6_restore 67 = .ok (.getfield 101, 3) := by decide +kernel
theorem dX6_restore_70 : decode cX6_restore 70 = .ok (.ireturn, 1) := by decide +kernel
theorem dX6_count_0 : decode cX6_count 0 = .ok (.iload_n 1, 1) := by decide +kernel
theorem dX6_count_1 : decode cX6_count 1 = .ok (.tableswitch 122 0 7 #[47, 55, 73, 78, 96, 101, 109, 117], 47) := by decide +kernel
theorem dX6_count_48 : decode cX6_count 48 = .ok (.aload_n 0, 1) := by decide +kernel
theorem dX6_count_49 : decode cX6_count 49 = .ok (.getfield 21, 3) := by decide +kernel
theorem dX6_count_52 : decode cX6_count 52 = .ok (.getfield 101, 3) := by decide +kernel
theorem dX6_count_55 : decode cX6_count 55 = .ok (.ireturn, 1) := by decide +kernel
theorem dX6_count_56 : decode cX6_count 56 = .ok (.aload_n 0, 1) := by decide +kernel
theorem dX6_count_57 : decode cX6_count 57 = .ok (.getfield 30, 3) := by decide +kernel
theorem dX6_count_60 : decode cX6_count 60 = .ok (.iconst 0, 1) := by decide +kernel
theorem dX6_count_61 : decode cX6_count 61 = .ok (.aload_n 0, 1) := by decide +kernel
theorem dX6_count_62 : decode cX6_count 62 = .ok (.getfield 21, 3) := by decide +kernel
theorem dX6_count_65 : decode cX6_count 65 = .ok (.getfield 101, 3) := by decide +kernel
theorem dX6_count_68 : decode cX6_count 68 = .ok (.iconst 1, 1) := by decide +kernel
theorem dX6_count_69 : decode cX6_count 69 = .ok (.isub, 1) := by decide +kernel
theorem dX6_count_70 : decode cX6_count 70 = .ok (.invokevirtual 118, 3) := by decide +kernel
theorem dX6_count_73 : decode cX6_count 73 = .ok (.ireturn, 1) := by decide +kernel
theorem dX6_count_74 : decode cX6_count 74 = .ok (.aload_n 0, 1) := by decide +kernel
theorem dX6_count_75 : decode cX6_count 75 = .ok (.invokevirtual 212, 3) := by decide +kernel
theorem dX6_count_78 : decode cX6_count 78 = .ok (.ireturn, 1) := by decide +kernel
theorem dX6_count_79 : decode cX6_count 79 = .ok (.aload_n 0, 1) := by decide +kernel
theorem dX6_count_80 : decode cX6_count 80 = .ok (.getfield 87, 3) := by decide +kernel
theorem dX6_count_83 : decode cX6_count 83 = .ok (.ifCond .eq 12, 3) := by decide +kernel
theorem dX6_count_86 : decode cX6_count 86 = .ok (.aload_n 0, 1) := by decide +kernel
theorem dX6_count_87 : decode cX6_count 87 = .ok (.iconst (-1), 1) := by decide +kernel
theorem dX6_count_88 : decode cX6_count 88 = .ok (.iconst (-1), 1) := by decide +kernel
theorem dX6_count_89 : decode cX6_count 89 = .ok (.invokevirtual 122, 3) := by decide +kernel
theorem dX6_count_92 : decode cX6_count 92 = .ok (.goto 4, 3) := by decide +kernel
theorem dX6_count_95 : decode cX6_count 95 = .ok (.iconst 0, 1) := by decide +kernel
theorem dX6_count_96 : decode cX6_count 96 = .ok (.ireturn, 1) := by decide +kernel
theorem dX6_count_97 : decode cX6_count 97 = .ok (.aload_n 0, 1) := by decide +kernel
theorem dX6_count_98 : decode cX6_count 98 = .ok (.invokevirtual 215, 3) := by decide +kernel
theorem dX6_count_101 : decode cX6_count 101 = .ok (.ireturn, 1) := by decide +kernel
theorem dX6_count_102 : decode cX6_count 102 = .ok (.aload_n 0, 1) := by decide +kernel
theorem dX6_count_103 : decode cX6_count 103 = .ok (.getfield 37, 3) := by decide +kernel
theorem dX6_count_106 : decode cX6_count 106 = .ok (.getfield 80, 3) := by decide +kernel
theorem dX6_count_109 : decode cX6_count 109 = .ok (.ireturn, 1) := by decide +kernel
theorem dX6_count_110 : decode cX6_count 110 = .ok (.aload_n 0, 1) := by decide +kernel
theorem dX6_count_111 : decode cX6_count 111 = .ok (.getfield 10, 3) := by decide +kernel
theorem dX6_count_114 : decode cX6_count 114 = .ok (.getfield 65, 3) := by decide +kernel
theorem dX6_count_117 : decode cX6_count 117 = .ok (.ireturn, 1) := by decide +kernel
theorem dX6_count_118 : decode cX6_count 118 = .ok (.aload_n 0, 1) := by decide +kernel
theorem dX6_count_119 : decode cX6_count 119 = .ok (.getfield 90, 3) := by decide +kernel
theorem dX6_count_122 : decode cX6_count 122 = .ok (.ireturn, 1) := by decide +kernel
theorem dX6_count_123 : decode cX6_count 123 = .ok (.bipush (-102), 2) := by decide +kernel
theorem dX6_count_125 : decode cX6_count 125 = .ok (.ireturn, 1) := by decide +kernel
theorem dX6_digest_0 : decode cX6_digest 0 = .ok (.ldc2_w 218, 3) := by decide +kernel
theorem dX6_digest_3 : decode cX6_digest 3 = .ok (.lstore_n 1, 1) := by decide +kernel
theorem dX6_digest_4 : decode cX6_digest 4 = .ok (.iconst 0, 1) := by decide +kernel
theorem dX6_digest_5 : decode cX6_digest 5 = .ok (.istore_n 3, 1) := by decide +kernel
theorem dX6_digest_6 : decode cX6_digest 6 = .ok (.iload_n 3, 1) := by decide +kernel
theorem dX6_digest_7 : decode cX6_digest 7 = .ok (.aload_n 0, 1) := by decide +kernel
theorem dX6_digest_8 : decode cX6_digest 8 = .ok (.getfield 21, 3) := by decide +kernel
theorem dX6_digest_11 : decode cX6_digest 11 = .ok (.getfield 101, 3) := by decide +kernel
theorem dX6_digest_14 : decode cX6_digest 14 = .ok (.if_icmp .ge 38, 3) := by decide +kernel
theorem dX6_digest_17 : decode cX6_digest 17 = .ok (.iconst 0, 1) := by decide +kernel
theorem dX6_digest_18 : decode cX6_digest 18 = .ok (.istore 4, 2) := by decide +kernel
theorem dX6_digest_20 : decode cX6_digest 20 = .ok (.iload 4, 2) := by decide +kernel
theorem dX6_digest_22 : decode cX6_digest 22 = .ok (.bipush 6, 2) := by decide +kernel
theorem dX6_digest_24 : decode cX6_digest 24 = .ok (.if_icmp .gt 22, 3) := by decide +kernel
theorem dX6_digest_27 : decode cX6_digest 27 = .ok (.lload_n 1, 1) := by decide +kernel
theorem dX6_digest_28 : decode cX6_digest 28 = .ok (.aload_n 0, 1) := by decide +kernel
theorem dX6_digest_29 : decode cX6_digest 29 = .ok (.iload_n 3, 1) := by decide +kernel
theorem dX6_digest_30 : decode cX6_digest 30 = .ok (.iload 4, 2) := by decide +kernel
theorem dX6_digest_32 : decode cX6_digest 32 = .ok (.invokevirtual 220, 3) := by decide +kernel
theorem dX6_digest_35 : decode cX6_digest 35 = .ok (.i2l, 1) := by decide +kernel
theorem dX6_digest_36 : decode cX6_digest 36 = .ok (.invokestatic 223, 3) := by decide +kernel
theorem dX6_digest_39 : decode cX6_digest 39 = .ok (.lstore_n 1, 1) := by decide +kernel
theorem dX6_digest_40 : decode cX6_digest 40 = .ok (.iinc 4 1, 3) := by decide +kernel
theorem dX6_digest_43 : decode cX6_digest 43 = .ok (.goto (-23), 3) := by decide +kernel
theorem dX6_digest_46 : decode cX6_digest 46 = .ok (.iinc 3 1, 3) := by decide +kernel
theorem dX6_digest_49 : decode cX6_digest 49 = .ok (.goto (-43), 3) := by decide +kernel
theorem dX6_digest_52 : decode cX6_digest 52 = .ok (.aload_n 0, 1) := by decide +kernel
theorem dX6_digest_53 : decode cX6_digest 53 = .ok (.getfield 87, 3) := by decide +kernel
theorem dX6_digest_56 : decode cX6_digest 56 = .ok (.ifCond .eq 9, 3) := by decide +kernel
theorem dX6_digest_59 : decode cX6_digest 59 = .ok (.aload_n 0, 1) := by decide +kernel
theorem dX6_digest_60 : decode cX6_digest 60 = .ok (.lload_n 1, 1) := by decide +kernel
theorem dX6_digest_61 : decode cX6_digest 61 = .ok (.invokevirtual 227, 3) := by decide +kernel
theorem dX6_digest_64 : decode cX6_digest 64 = .ok (.lstore_n 1, 1) := by decide +kernel
theorem dX6_digest_65 : decode cX6_digest 65 = .ok (.iconst 0, 1) := by decide +kernel
theorem dX6_digest_66 : decode cX6_digest 66 = .ok (.istore_n 3, 1) := by decide +kernel
theorem dX6_digest_67 : decode cX6_digest 67 = .ok (.iload_n 3, 1) := by decide +kernel
theorem dX6_digest_68 : decode cX6_digest 68 = .ok (.aload_n 0, 1) := by decide +kernel
theorem dX6_digest_69 : decode cX6_digest 69 = .ok (.getfield 10, 3) := by decide +kernel
theorem dX6_digest_72 : decode cX6_digest 72 = .ok (.getfield 65, 3) := by decide +kernel
theorem dX6_digest_75 : decode cX6_digest 75 = .ok (.if_icmp .ge 23, 3) := by decide +kernel
theorem dX6_digest_78 : decode cX6_digest 78 = .ok (.lload_n 1, 1) := by decide +kernel
theorem dX6_digest_79 : decode cX6_digest 79 = .ok (.aload_n 0, 1) := by decide +kernel
theorem dX6_digest_80 : decode cX6_digest 80 = .ok (.getfield 10, 3) := by decide +kernel
theorem dX6_digest_83 : decode cX6_digest 83 = .ok (.iload_n 3, 1) := by decide +kernel
theorem dX6_digest_84 : decode cX6_digest 84 = .ok (.invokevirtual 231, 3) := by decide +kernel
theorem dX6_digest_87 : decode cX6_digest 87 = .ok (.i2l, 1) := by decide +kernel
theorem dX6_digest_88 : decode cX6_digest 88 = .ok (.invokestatic 223, 3) := by decide +kernel
theorem dX6_digest_91 : decode cX6_digest 91 = .ok (.lstore_n 1, 1) := by decide +kernel
theorem dX6_digest_92 : decode cX6_digest 92 = .ok (.iinc 3 1, 3) := by decide +kernel
theorem dX6_digest_95 : decode cX6_digest 95 = .ok (.goto (-28), 3) := by decide +kernel
theorem dX6_digest_98 : decode cX6_digest 98 = .ok (.iconst 0, 1) := by decide +kernel
theorem dX6_digest_99 : decode cX6_digest 99 = .ok (.istore_n 3, 1) := by decide +kernel
theorem dX6_digest_100 : decode cX6_digest 100 = .ok (.iload_n 3, 1) := by decide +kernel
theorem dX6_digest_101 : decode cX6_digest 101 = .ok (.bipush 7, 2) := by decide +kernel
theorem dX6_digest_103 : decode cX6_digest 103 = .ok (.if_icmp .gt 20, 3) := by decide +kernel
theorem dX6_digest_106 : decode cX6_digest 106 = .ok (.lload_n 1, 1) := by decide +kernel
theorem dX6_digest_107 : decode cX6_digest 107 = .ok (.aload_n 0, 1) := by decide +kernel
theorem dX6_digest_108 : decode cX6_digest 108 = .ok (.iload_n 3, 1) := by decide +kernel
theorem dX6_digest_109 : decode cX6_digest 109 = .ok (.invokevirtual 234, 3) := by decide +kernel
theorem dX6_digest_112 : decode cX6_digest 112 = .ok (.i2l, 1) := by decide +kernel
theorem dX6_digest_113 : decode cX6_digest 113 = .ok (.invokestatic 223, 3) := by decide +kernel
theorem dX6_digest_116 : decode cX6_digest 116 = .ok (.lstore_n 1, 1) := by decide +kernel
theorem dX6_digest_117 : decode cX6_digest 117 = .ok (.iinc 3 1, 3) := by decide +kernel
theorem dX6_digest_120 : decode cX6_digest 120 = .ok (.goto (-20), 3) := by decide +kernel
theorem dX6_digest_123 : decode cX6_digest 123 = .ok (.lload_n 1, 1) := by decide +kernel
theorem dX6_digest_124 : decode cX6_digest 124 = .ok (.lreturn, 1) := by decide +kernel
theorem dX6_mixedWithTree_0 : decode cX6_mixedWithTree 0 = .ok (.lload_n 1, 1) := by decide +kernel
theorem dX6_mixedWithTree_1 : decode cX6_mixedWithTree 1 = .ok (.lstore_n 3, 1) := by decide +kernel
theorem dX6_mixedWithTree_2 : decode cX6_mixedWithTree 2 = .ok (.iconst 0, 1) := by decide +kernel
theorem dX6_mixedWithTree_3 : decode cX6_mixedWithTree 3 = .ok (.istore 5, 2) := by decide +kernel
theorem dX6_mixedWithTree_5 : decode cX6_mixedWithTree 5 = .ok (.iload 5, 2) := by decide +kernel
theorem dX6_mixedWithTree_7 : decode cX6_mixedWithTree 7 = .ok (.bipush 64, 2) := by decide +kernel
theorem dX6_mixedWithTree_9 : decode cX6_mixedWithTree 9 = .ok (.if_icmp .ge 32, 3) := by decide +kernel
theorem dX6_mixedWithTree_12 : decode cX6_mixedWithTree 12 = .ok (.lload_n 3, 1) := by decide +kernel
theorem dX6_mixedWithTree_13 : decode cX6_mixedWithTree 13 = .ok (.aload_n 0, 1) := by decide +kernel
theorem dX6_mixedWithTree_14 : decode cX6_mixedWithTree 14 = .ok (.iload 5, 2) := by decide +kernel
theorem dX6_mixedWithTree_16 : decode cX6_mixedWithTree 16 = .ok (.invokevirtual 237, 3) := by decide +kernel
theorem dX6_mixedWithTree_19 : decode cX6_mixedWithTree 19 = .ok (.i2l, 1) := by decide +kernel
theorem dX6_mixedWithTree_20 : decode cX6_mixedWithTree 20 = .ok (.invokestatic 223, 3) := by decide +kernel
theorem dX6_mixedWithTree_23 : decode cX6_mixedWithTree 23 = .ok (.lstore_n 3, 1) := by decide +kernel
theorem dX6_mixedWithTree_24 : decode cX6_mixedWithTree 24 = .ok (.lload_n 3, 1) := by decide +kernel
theorem dX6_mixedWithTree_25 : decode cX6_mixedWithTree 25 = .ok (.aload_n 0, 1) := by decide +kernel
theorem dX6_mixedWithTree_26 : decode cX6_mixedWithTree 26 = .ok (.iload 5, 2) := by decide +kernel
theorem dX6_mixedWithTree_28 : decode cX6_mixedWithTree 28 = .ok (.invokevirtual 240, 3) := by decide +kernel
theorem dX6_mixedWithTree_31 : decode cX6_mixedWithTree 31 = .ok (.invokestatic 223, 3) := by decide +kernel
theorem dX6_mixedWithTree_34 : decode cX6_mixedWithTree 34 = .ok (.lstore_n 3, 1) := by decide +kernel
theorem dX6_mixedWithTree_35 : decode cX6_mixedWithTree 35 = .ok (.iinc 5 1, 3) := by decide +kernel
theorem dX6_mixedWithTree_38 : decode cX6_mixedWithTree 38 = .ok (.goto (-33), 3) := by decide +kernel
theorem dX6_mixedWithTree_41 : decode cX6_mixedWithTree 41 = .ok (.iconst 1, 1) := by decide +kernel
theorem dX6_mixedWithTree_42 : decode cX6_mixedWithTree 42 = .ok (.istore 5, 2) := by decide +kernel
theorem dX6_mixedWithTree_44 : decode cX6_mixedWithTree 44 = .ok (.iload 5, 2) := by decide +kernel
theorem dX6_mixedWithTree_46 : decode cX6_mixedWithTree 46 = .ok (.bipush 127, 2) := by decide +kernel
theorem dX6_mixedWithTree_48 : decode cX6_mixedWithTree 48 = .ok (.if_icmp .gt 24, 3) := by decide +kernel
theorem dX6_mixedWithTree_51 : decode cX6_mixedWithTree 51 = .ok (.lload_n 3, 1) := by decide +kernel
theorem dX6_mixedWithTree_52 : decode cX6_mixedWithTree 52 = .ok (.aload_n 0, 1) := by decide +kernel
theorem dX6_mixedWithTree_53 : decode cX6_mixedWithTree 53 = .ok (.getfield 30, 3) := by decide +kernel
theorem dX6_mixedWithTree_56 : decode cX6_mixedWithTree 56 = .ok (.iload 5, 2) := by decide +kernel
theorem dX6_mixedWithTree_58 : decode cX6_mixedWithTree 58 = .ok (.invokevirtual 154, 3) := by decide +kernel
theorem dX6_mixedWithTree_61 : decode cX6_mixedWithTree 61 = .ok (.i2l, 1) := by decide +kernel
theorem dX6_mixedWithTree_62 : decode cX6_mixedWithTree 62 = .ok (.invokestatic 223, 3) := by decide +kernel
theorem dX6_mixedWithTree_65 : decode cX6_mixedWithTree 65 = .ok (.lstore_n 3, 1) := by decide +kernel
theorem dX6_mixedWithTree_66 : decode cX6_mixedWithTree 66 = .ok (.iinc 5 1, 3) := by decide +kernel
theorem dX6_mixedWithTree_69 : decode cX6_mixedWithTree 69 = .ok (.goto (-25), 3) := by decide +kernel
theorem dX6_mixedWithTree_72 : decode cX6_mixedWithTree 72 = .ok (.lload_n 3, 1) := by decide +kernel
theorem dX6_mixedWithTree_73 : decode cX6_mixedWithTree 73 = .ok (.aload_n 0, 1) := by decide +kernel
theorem dX6_mixedWithTree_74 : decode cX6_mixedWithTree 74 = .ok (.iconst 0, 1) := by decide +kernel
theorem dX6_mixedWithTree_75 : decode cX6_mixedWithTree 75 = .ok (.bipush 63, 2) := by decide +kernel
theorem dX6_mixedWithTree_77 : decode cX6_mixedWithTree 77 = .ok (.invokevirtual 243, 3) := by decide +kernel
theorem dX6_mixedWithTree_80 : decode cX6_mixedWithTree 80 = .ok (.i2l, 1) := by decide +kernel
theorem dX6_mixedWithTree_81 : decode cX6_mixedWithTree 81 = .ok (.invokestatic 223, 3) := by decide +kernel
theorem dX6_mixedWithTree_84 : decode cX6_mixedWithTree 84 = .ok (.lreturn, 1) := by decide +kernel
theorem dX6_mixed_0 : decode cX6_mixed 0 = .ok (.ldc2_w 246, 3) := by decide +kernel
theorem dX6_mixed_3 : decode cX6_mixed 3 = .ok (.lload_n 0, 1) := by decide +kernel
theorem dX6_mixed_4 : decode cX6_mixed 4 = .ok (.lmul, 1) := by decide +kernel
theorem dX6_mixed_5 : decode cX6_mixed 5 = .ok (.lload_n 2, 1) := by decide +kernel
theorem dX6_mixed_6 : decode cX6_mixed 6 = .ok (.ladd, 1) := by decide +kernel
theorem dX6_mixed_7 : decode cX6_mixed 7 = .ok (.lreturn, 1) := by decide +kernel
theorem dX6_isQuantity_0 : decode cX6_isQuantity 0 = .ok (.iload_n 0, 1) := by decide +kernel
theorem dX6_isQuantity_1 : decode cX6_isQuantity 1 = .ok (.ifCond .lt 13, 3) := by decide +kernel
theorem dX6_isQuantity_4 : decode cX6_isQuantity 4 = .ok (.iload_n 0, 1) := by decide +kernel
theorem dX6_isQuantity_5 : decode cX6_isQuantity 5 = .ok (.bipush 64, 2) := by decide +kernel
theorem dX6_isQuantity_7 : decode cX6_isQuantity 7 = .ok (.if_icmp .ge 7, 3) := by decide +kernel
theorem dX6_isQuantity_10 : decode cX6_isQuantity 10 = .ok (.iconst 1, 1) := by decide +kernel
theorem dX6_isQuantity_11 : decode cX6_isQuantity 11 = .ok (.goto 4, 3) := by decide +kernel
theorem dX6_isQuantity_14 : decode cX6_isQuantity 14 = .ok (.iconst 0, 1) := by decide +kernel
theorem dX6_isQuantity_15 : decode cX6_isQuantity 15 = .ok (.ireturn, 1) := by decide +kernel
theorem dX6_isKind_0 : decode cX6_isKind 0 = .ok (.iload_n 0, 1) := by decide +kernel
theorem dX6_isKind_1 : decode cX6_isKind 1 = .ok (.ifCond .lt 12, 3) := by decide +kernel
theorem dX6_isKind_4 : decode cX6_isKind 4 = .ok (.iload_n 0, 1) := by decide +kernel
theorem dX6_isKind_5 : decode cX6_isKind 5 = .ok (.iconst 5, 1) := by decide +kernel
theorem dX6_isKind_6 : decode cX6_isKind 6 = .ok (.if_icmp .ge 7, 3) := by decide +kernel
theorem dX6_isKind_9 : decode cX6_isKind 9 = .ok (.iconst 1, 1) := by decide +kernel
theorem dX6_isKind_10 : decode cX6_isKind 10 = .ok (.goto 4, 3) := by decide +kernel
theorem dX6_isKind_13 : decode cX6_isKind 13 = .ok (.iconst 0, 1) := by decide +kernel
theorem dX6_isKind_14 : decode cX6_isKind 14 = .ok (.ireturn, 1) := by decide +kernel
theorem dX6_refusalOf_0 : decode cX6_refusalOf 0 = .ok (.iload 4, 2) := by decide +kernel
theorem dX6_refusalOf_2 : decode cX6_refusalOf 2 = .ok (.bipush 100, 2) := by decide +kernel
theorem dX6_refusalOf_4 : decode cX6_refusalOf 4 = .ok (.idiv, 1) := by decide +kernel
theorem dX6_refusalOf_5 : decode cX6_refusalOf 5 = .ok (.istore 5, 2) := by decide +kernel
theorem dX6_refusalOf_7 : decode cX6_refusalOf 7 = .ok (.iload 4, 2) := by decide +kernel
theorem dX6_refusalOf_9 : decode cX6_refusalOf 9 = .ok (.bipush 100, 2) := by decide +kernel
theorem dX6_refusalOf_11 : decode cX6_refusalOf 11 = .ok (.irem, 1) := by decide +kernel
theorem dX6_refusalOf_12 : decode cX6_refusalOf 12 = .ok (.istore 6, 2) := by decide +kernel
theorem dX6_refusalOf_14 : decode cX6_refusalOf 14 = .ok (.iload_n 1, 1) := by decide +kernel
theorem dX6_refusalOf_15 : decode cX6_refusalOf 15 = .ok (.invokestatic 132, 3) := by decide +kernel
theorem dX6_refusalOf_18 : decode cX6_refusalOf 18 = .ok (.ifCond .eq 31, 3) := by decide +kernel
theorem dX6_refusalOf_21 : decode cX6_refusalOf 21 = .ok (.iload 4, 2) := by decide +kernel
theorem dX6_refusalOf_23 : decode cX6_refusalOf 23 = .ok (.ifCond .lt 26, 3) := by decide +kernel
theorem dX6_refusalOf_26 : decode cX6_refusalOf 26 = .ok (.iload 5, 2) := by decide +kernel
theorem dX6_refusalOf_28 : decode cX6_refusalOf 28 = .ok (.invokestatic 138, 3) := by decide +kernel
theorem dX6_refusalOf_31 : decode cX6_refusalOf 31 = .ok (.ifCond .eq 18, 3) := by decide +kernel
theorem dX6_refusalOf_34 : decode cX6_refusalOf 34 = .ok (.iload 6, 2) := by decide +kernel
theorem dX6_refusalOf_36 : decode cX6_refusalOf 36 = .ok (.invokestatic 138, 3) := by decide +kernel
theorem dX6_refusalOf_39 : decode cX6_refusalOf 39 = .ok (.ifCond .eq 10, 3) := by decide +kernel
theorem dX6_refusalOf_42 : decode cX6_refusalOf 42 = .ok (.iload 5, 2) := by decide +kernel
theorem dX6_refusalOf_44 : decode cX6_refusalOf 44 = .ok (.iload 6, 2) := by decide +kernel
theorem dX6_refusalOf_46 : decode cX6_refusalOf 46 = .ok (.if_icmp .le 6, 3) := by decide +kernel
theorem dX6_refusalOf_49 : decode cX6_refusalOf 49 = .ok (.bipush (-102), 2) := by decide +kernel
theorem dX6_refusalOf_51 : decode cX6_refusalOf 51 = .ok (.ireturn, 1) := by decide +kernel
theorem dX6_refusalOf_52 : decode cX6_refusalOf 52 = .ok (.aload_n 0, 1) := by decide +kernel
theorem dX6_refusalOf_53 : decode cX6_refusalOf 53 = .ok (.getfield 51, 3) := by decide +kernel
theorem dX6_refusalOf_56 : decode cX6_refusalOf 56 = .ok (.iload_n 1, 1) := by decide +kernel
theorem dX6_refusalOf_57 : decode cX6_refusalOf 57 = .ok (.iload_n 2, 1) := by decide +kernel
theorem dX6_refusalOf_58 : decode cX6_refusalOf 58 = .ok (.iload_n 3, 1) := by decide +kernel
theorem dX6_refusalOf_59 : decode cX6_refusalOf 59 = .ok (.iload 5, 2) := by decide +kernel
theorem dX6_refusalOf_61 : decode cX6_refusalOf 61 = .ok (.iload 6, 2) := by decide +kernel
theorem dX6_refusalOf_63 : decode cX6_refusalOf 63 = .ok (.invokevirtual 248, 3) := by decide +kernel
theorem dX6_refusalOf_66 : decode cX6_refusalOf 66 = .ok (.aload_n 0, 1) := by decide +kernel
theorem dX6_refusalOf_67 : decode cX6_refusalOf 67 = .ok (.getfield 51, 3) := by decide +kernel
theorem dX6_refusalOf_70 : decode cX6_refusalOf 70 = .ok (.invokevirtual 251, 3) := by decide +kernel
theorem dX6_refusalOf_73 : decode cX6_refusalOf 73 = .ok (.ifCond .eq 6, 3) := by decide +kernel
theorem dX6_refusalOf_76 : decode cX6_refusalOf 76 = .ok (.bipush (-102), 2) := by decide +kernel
theorem dX6_refusalOf_78 : decode cX6_refusalOf 78 = .ok (.ireturn, 1) := by decide +kernel
theorem dX6_refusalOf_79 : decode cX6_refusalOf 79 = .ok (.aload_n 0, 1) := by decide +kernel
theorem dX6_refusalOf_80 : decode cX6_refusalOf 80 = .ok (.getfield 87, 3) := by decide +kernel
theorem dX6_refusalOf_83 : decode cX6_refusalOf 83 = .ok (.ifCond .ne 6, 3) := by decide +kernel
theorem dX6_refusalOf_86 : decode cX6_refusalOf 86 = .ok (.bipush (-103), 2) := by decide +kernel
theorem dX6_refusalOf_88 : decode cX6_refusalOf 88 = .ok (.ireturn, 1) := by decide +kernel
theorem dX6_refusalOf_89 : decode cX6_refusalOf 89 = .ok (.aload_n 0, 1) := by decide +kernel
theorem dX6_refusalOf_90 : decode cX6_refusalOf 90 = .ok (.getfield 21, 3) := by decide +kernel
theorem dX6_refusalOf_93 : decode cX6_refusalOf 93 = .ok (.getfield 101, 3) := by decide +kernel
theorem dX6_refusalOf_96 : decode cX6_refusalOf 96 = .ok (.bipush 40, 2) := by decide +kernel
theorem dX6_refusalOf_98 : decode cX6_refusalOf 98 = .ok (.if_icmp .lt 8, 3) := by decide +kernel
theorem dX6_refusalOf_101 : decode cX6_refusalOf 101 = .ok (.bipush (-104), 2) := by decide +kernel
theorem dX6_refusalOf_103 : decode cX6_refusalOf 103 = .ok (.goto 4, 3) := by decide +kernel
theorem dX6_refusalOf_106 : decode cX6_refusalOf 106 = .ok (.iconst 0, 1) := by decide +kernel
theorem dX6_refusalOf_107 : decode cX6_refusalOf 107 = .ok (.ireturn, 1) := by decide +kernel
theorem dX6_quantitiesOf_0 : decode cX6_quantitiesOf 0 = .ok (.iconst 0, 1) := by decide +kernel
theorem dX6_quantitiesOf_1 : decode cX6_quantitiesOf 1 = .ok (.istore_n 3, 1) := by decide +kernel
theorem dX6_quantitiesOf_2 : decode cX6_quantitiesOf 2 = .ok (.iconst 0, 1) := by decide +kernel
theorem dX6_quantitiesOf_3 : decode cX6_quantitiesOf 3 = .ok (.istore 4, 2) := by decide +kernel
theorem dX6_quantitiesOf_5 : decode cX6_quantitiesOf 5 = .ok (.iload 4, 2) := by decide +kernel
theorem dX6_quantitiesOf_7 : decode cX6_quantitiesOf 7 = .ok (.bipush 64, 2) := by decide +kernel
theorem dX6_quantitiesOf_9 : decode cX6_quantitiesOf 9 = .ok (.if_icmp .ge 35, 3) := by decide +kernel
theorem dX6_quantitiesOf_12 : decode cX6_quantitiesOf 12 = .ok (.aload_n 0, 1) := by decide +kernel
theorem dX6_quantitiesOf_13 : decode cX6_quantitiesOf 13 = .ok (.getfield 30, 3) := by decide +kernel
theorem dX6_quantitiesOf_16 : decode cX6_quantitiesOf 16 = .ok (.iload 4, 2) := by decide +kernel
theorem dX6_quantitiesOf_18 : decode cX6_quantitiesOf 18 = .ok (.invokevirtual 174, 3) := by decide +kernel
theorem dX6_quantitiesOf_21 : decode cX6_quantitiesOf 21 = .ok (.istore 5, 2) := by decide +kernel
theorem dX6_quantitiesOf_23 : decode cX6_quantitiesOf 23 = .ok (.iload 5, 2) := by decide +kernel
theorem dX6_quantitiesOf_25 : decode cX6_quantitiesOf 25 = .ok (.iload_n 1, 1) := by decide +kernel
theorem dX6_quantitiesOf_26 : decode cX6_quantitiesOf 26 = .ok (.if_icmp .lt 12, 3) := by decide +kernel
theorem dX6_quantitiesOf_29 : decode cX6_quantitiesOf 29 = .ok (.iload 5, 2) := by decide +kernel
theorem dX6_quantitiesOf_31 : decode cX6_quantitiesOf 31 = .ok (.iload_n 2, 1) := by decide +kernel
theorem dX6_quantitiesOf_32 : decode cX6_quantitiesOf 32 = .ok (.if_icmp .gt 6, 3) := by decide +kernel
theorem dX6_quantitiesOf_35 : decode cX6_quantitiesOf 35 = .ok (.iinc 3 1, 3) := by decide +kernel
theorem dX6_quantitiesOf_38 : decode cX6_quantitiesOf 38 = .ok (.iinc 4 1, 3) := by decide +kernel
theorem dX6_quantitiesOf_41 : decode cX6_quantitiesOf 41 = .ok (.goto (-36), 3) := by decide +kernel
theorem dX6_quantitiesOf_44 : decode cX6_quantitiesOf 44 = .ok (.iload_n 3, 1) := by decide +kernel
theorem dX6_quantitiesOf_45 : decode cX6_quantitiesOf 45 = .ok (.ireturn, 1) := by decide +kernel
theorem dX6_tariffsNeverLowest_0 : decode cX6_tariffsNeverLowest 0 = .ok (.iconst 0, 1) := by decide +kernel
theorem dX6_tariffsNeverLowest_1 : decode cX6_tariffsNeverLowest 1 = .ok (.istore_n 1, 1) := by decide +kernel
theorem dX6_tariffsNeverLowest_2 : decode cX6_tariffsNeverLowest 2 = .ok (.iconst 0, 1) := by decide +kernel
theorem dX6_tariffsNeverLowest_3 : decode cX6_tariffsNeverLowest 3 = .ok (.istore_n 2, 1) := by decide +kernel
theorem dX6_tariffsNeverLowest_4 : decode cX6_tariffsNeverLowest 4 = .ok (.iload_n 2, 1) := by decide +kernel
theorem dX6_tariffsNeverLowest_5 : decode cX6_tariffsNeverLowest 5 = .ok (.aload_n 0, 1) := by decide +kernel
theorem dX6_tariffsNeverLowest_6 : decode cX6_tariffsNeverLowest 6 = .ok (.getfield 21, 3) := by decide +kernel
theorem dX6_tariffsNeverLowest_9 : decode cX6_tariffsNeverLowest 9 = .ok (.getfield 101, 3) := by decide +kernel
theorem dX6_tariffsNeverLowest_12 : decode cX6_tariffsNeverLowest 12 = .ok (.if_icmp .ge 21, 3) := by decide +kernel
theorem dX6_tariffsNeverLowest_15 : decode cX6_tariffsNeverLowest 15 = .ok (.aload_n 0, 1) := by decide +kernel
theorem dX6_tariffsNeverLowest_16 : decode cX6_tariffsNeverLowest 16 = .ok (.iload_n 2, 1) := by decide +kernel
theorem dX6_tariffsNeverLowest_17 : decode cX6_tariffsNeverLowest 17 = .ok (.iload_n 2, 1) := by decide +kernel
theorem dX6_tariffsNeverLowest_18 : decode cX6_tariffsNeverLowest 18 = .ok (.invokevirtual 122, 3) := by decide +kernel
theorem dX6_tariffsNeverLowest_21 : decode cX6_tariffsNeverLowest 21 = .ok (.ifCond .ne 6, 3) := by decide +kernel
theorem dX6_tariffsNeverLowest_24 : decode cX6_tariffsNeverLowest 24 = .ok (.iinc 1 1, 3) := by decide +kernel
theorem dX6_tariffsNeverLowest_27 : decode cX6_tariffsNeverLowest 27 = .ok (.iinc 2 1, 3) := by decide +kernel
theorem dX6_tariffsNeverLowest_30 : decode cX6_tariffsNeverLowest 30 = .ok (.goto (-26), 3) := by decide +kernel
theorem dX6_tariffsNeverLowest_33 : decode cX6_tariffsNeverLowest 33 = .ok (.iload_n 1, 1) := by decide +kernel
theorem dX6_tariffsNeverLowest_34 : decode cX6_tariffsNeverLowest 34 = .ok (.ireturn, 1) := by decide +kernel
theorem dX6_beginsPiece_0 : decode cX6_beginsPiece 0 = .ok (.aload_n 0, 1) := by decide +kernel
theorem dX6_beginsPiece_1 : decode cX6_beginsPiece 1 = .ok (.getfield 30, 3) := by decide +kernel
theorem dX6_beginsPiece_4 : decode cX6_beginsPiece 4 = .ok (.iload_n 1, 1) := by decide +kernel
theorem dX6_beginsPiece_5 : decode cX6_beginsPiece 5 = .ok (.invokevirtual 174, 3) := by decide +kernel
theorem dX6_beginsPiece_8 : decode cX6_beginsPiece 8 = .ok (.istore_n 2, 1) := by decide +kernel
theorem dX6_beginsPiece_9 : decode cX6_beginsPiece 9 = .ok (.iload_n 2, 1) := by decide +kernel
theorem dX6_beginsPiece_10 : decode cX6_beginsPiece 10 = .ok (.iconst (-1), 1) := by decide +kernel
theorem dX6_beginsPiece_11 : decode cX6_beginsPiece 11 = .ok (.if_icmp .eq 25, 3) := by decide +kernel
theorem dX6_beginsPiece_14 : decode cX6_beginsPiece 14 = .ok (.iload_n 1, 1) := by decide +kernel
theorem dX6_beginsPiece_15 : decode cX6_beginsPiece 15 = .ok (.ifCond .eq 17, 3) := by decide +kernel
theorem dX6_beginsPiece_18 : decode cX6_beginsPiece 18 = .ok (.aload_n 0, 1) := by decide +kernel
theorem dX6_beginsPiece_19 : decode cX6_beginsPiece 19 = .ok (.getfield 30, 3) := by decide +kernel
theorem dX6_beginsPiece_22 : decode cX6_beginsPiece 22 = .ok (.iload_n 1, 1) := by decide +kernel
theorem dX6_beginsPiece_23 : decode cX6_beginsPiece 23 = .ok (.iconst 1, 1) := by decide +kernel
theorem dX6_beginsPiece_24 : decode cX6_beginsPiece 24 = .ok (.isub, 1) := by decide +kernel
theorem dX6_beginsPiece_25 : decode cX6_beginsPiece 25 = .ok (.invokevirtual 174, 3) := by decide +kernel
theorem dX6_beginsPiece_28 : decode cX6_beginsPiece 28 = .ok (.iload_n 2, 1) := by decide +kernel
theorem dX6_beginsPiece_29 : decode cX6_beginsPiece 29 = .ok (.if_icmp .eq 7, 3) := by decide +kernel
theorem dX6_beginsPiece_32 : decode cX6_beginsPiece 32 = .ok (.iconst 1, 1) := by decide +kernel
theorem dX6_beginsPiece_33 : decode cX6_beginsPiece 33 = .ok (.goto 4, 3) := by decide +kernel
theorem dX6_beginsPiece_36 : decode cX6_beginsPiece 36 = .ok (.iconst 0, 1) := by decide +kernel
theorem dX6_beginsPiece_37 : decode cX6_beginsPiece 37 = .ok (.ireturn, 1) := by decide +kernel
theorem dX6_pieces_0 : decode cX6_pieces 0 = .ok (.iconst 0, 1) := by decide +kernel
theorem dX6_pieces_1 : decode cX6_pieces 1 = .ok (.istore_n 1, 1) := by decide +kernel
theorem dX6_pieces_2 : decode cX6_pieces 2 = .ok (.iconst 0, 1) := by decide +kernel
theorem dX6_pieces_3 : decode cX6_pieces 3 = .ok (.istore_n 2, 1) := by decide +kernel
theorem dX6_pieces_4 : decode cX6_pieces 4 = .ok (.iload_n 2, 1) := by decide +kernel
theorem dX6_pieces_5 : decode cX6_pieces 5 = .ok (.bipush 64, 2) := by decide +kernel
theorem dX6_pieces_7 : decode cX6_pieces 7 = .ok (.if_icmp .ge 20, 3) := by decide +kernel
theorem dX6_pieces_10 : decode cX6_pieces 10 = .ok (.aload_n 0, 1) := by decide +kernel
theorem dX6_pieces_11 : decode cX6_pieces 11 = .ok (.iload_n 2, 1) := by decide +kernel
theorem dX6_pieces_12 : decode cX6_pieces 12 = .ok (.invokevirtual 254, 3) := by decide +kernel
theorem dX6_pieces_15 : decode cX6_pieces 15 = .ok (.ifCond .eq 6, 3) := by decide +kernel
theorem dX6_pieces_18 : decode cX6_pieces 18 = .ok (.iinc 1 1, 3) := by decide +kernel
theorem dX6_pieces_21 : decode cX6_pieces 21 = .ok (.iinc 2 1, 3) := by decide +kernel
theorem dX6_pieces_24 : decode cX6_pieces 24 = .ok (.goto (-20), 3) := by decide +kernel
theorem dX6_pieces_27 : decode cX6_pieces 27 = .ok (.iload_n 1, 1) := by decide +kernel
theorem dX6_pieces_28 : decode cX6_pieces 28 = .ok (.ireturn, 1) := by decide +kernel
theorem dX6_firstOfPiece_0 : decode cX6_firstOfPiece 0 = .ok (.iconst 0, 1) := by decide +kernel
theorem dX6_firstOfPiece_1 : decode cX6_firstOfPiece 1 = .ok (.istore_n 2, 1) := by decide +kernel
theorem dX6_firstOfPiece_2 : decode cX6_firstOfPiece 2 = .ok (.iconst 0, 1) := by decide +kernel
theorem dX6_firstOfPiece_3 : decode cX6_firstOfPiece 3 = .ok (.istore_n 3, 1) := by decide +kernel
theorem dX6_firstOfPiece_4 : decode cX6_firstOfPiece 4 = .ok (.iload_n 3, 1) := by decide +kernel
theorem dX6_firstOfPiece_5 : decode cX6_firstOfPiece 5 = .ok (.bipush 64, 2) := by decide +kernel
theorem dX6_firstOfPiece_7 : decode cX6_firstOfPiece 7 = .ok (.if_icmp .ge 27, 3) := by decide +kernel
theorem dX6_firstOfPiece_10 : decode cX6_firstOfPiece 10 = .ok (.aload_n 0, 1) := by decide +kernel
theorem dX6_firstOfPiece_11 : decode cX6_firstOfPiece 11 = .ok (.iload_n 3, 1) := by decide +kernel
theorem dX6_firstOfPiece_12 : decode cX6_firstOfPiece 12 = .ok (.invokevirtual 254, 3) := by decide +kernel
theorem dX6_firstOfPiece_15 : decode cX6_firstOfPiece 15 = .ok (.ifCond .eq 13, 3) := by decide +kernel
theorem dX6_firstOfPiece_18 : decode cX6_firstOfPiece 18 = .ok (.iload_n 2, 1) := by decide +kernel
theorem dX6_firstOfPiece_19 : decode cX6_firstOfPiece 19 = .ok (.iload_n 1, 1) := by decide +kernel
theorem dX6_firstOfPiece_20 : decode cX6_firstOfPiece 20 = .ok (.if_icmp .ne 5, 3) := by decide +kernel
theorem dX6_firstOfPiece_23 : decode cX6_firstOfPiece 23 = .ok (.iload_n 3, 1) := by decide +kernel
theorem dX6_firstOfPiece_24 : decode cX6_firstOfPiece 24 = .ok (.ireturn, 1) := by decide +kernel
theorem dX6_firstOfPiece_25 : decode cX6_firstOfPiece 25 = .ok (.iinc 2 1, 3) := by decide +kernel
theorem dX6_firstOfPiece_28 : decode cX6_firstOfPiece 28 = .ok (.iinc 3 1, 3) := by decide +kernel
theorem dX6_firstOfPiece_31 : decode cX6_firstOfPiece 31 = .ok (.goto (-27), 3) := by decide +kernel
theorem dX6_firstOfPiece_34 : decode cX6_firstOfPiece 34 = .ok (.iconst (-1), 1) := by decide +kernel
theorem dX6_firstOfPiece_35 : decode cX6_firstOfPiece 35 = .ok (.ireturn, 1) := by decide +kernel
theorem dX6_lastOfPiece_0 : decode cX6_lastOfPiece 0 = .ok (.aload_n 0, 1) := by decide +kernel
theorem dX6_lastOfPiece_1 : decode cX6_lastOfPiece 1 = .ok (.getfield 30, 3) := by decide +kernel
theorem dX6_lastOfPiece_4 : decode cX6_lastOfPiece 4 = .ok (.iload_n 1, 1) := by decide +kernel
theorem dX6_lastOfPiece_5 : decode cX6_lastOfPiece 5 = .ok (.invokevirtual 174, 3) := by decide +kernel
theorem dX6_lastOfPiece_8 : decode cX6_lastOfPiece 8 = .ok (.istore_n 2, 1) := by decide +kernel
theorem dX6_lastOfPiece_9 : decode cX6_lastOfPiece 9 = .ok (.iload_n 1, 1) := by decide +kernel
theorem dX6_lastOfPiece_10 : decode cX6_lastOfPiece 10 = .ok (.istore_n 3, 1) := by decide +kernel
theorem dX6_lastOfPiece_11 : decode cX6_lastOfPiece 11 = .ok (.iload_n 3, 1) := by decide +kernel
theorem dX6_lastOfPiece_12 : decode cX6_lastOfPiece 12 = .ok (.bipush 63, 2) := by decide +kernel
theorem dX6_lastOfPiece_14 : decode cX6_lastOfPiece 14 = .ok (.if_icmp .ge 23, 3) := by decide +kernel
theorem dX6_lastOfPiece_17 : decode cX6_lastOfPiece 17 = .ok (.aload_n 0, 1) := by decide +kernel
theorem dX6_lastOfPiece_18 : decode cX6_lastOfPiece 18 = .ok (.getfield 30, 3) := by decide +kernel
theorem dX6_lastOfPiece_21 : decode cX6_lastOfPiece 21 = .ok (.iload_n 3, 1) := by decide +kernel
theorem dX6_lastOfPiece_22 : decode cX6_lastOfPiece 22 = .ok (.iconst 1, 1) := by decide +kernel
theorem dX6_lastOfPiece_23 : decode cX6_lastOfPiece 23 = .ok (.iadd, 1) := by decide +kernel
theorem dX6_lastOfPiece_24 : decode cX6_lastOfPiece 24 = .ok (.invokevirtual 174, 3) := by decide +kernel
theorem dX6_lastOfPiece_27 : decode cX6_lastOfPiece 27 = .ok (.iload_n 2, 1) := by decide +kernel
theorem dX6_lastOfPiece_28 : decode cX6_lastOfPiece 28 = .ok (.if_icmp .ne 9, 3) := by decide +kernel
theorem dX6_lastOfPiece_31 : decode cX6_lastOfPiece 31 = .ok (.iinc 3 1, 3) := by decide +kernel
theorem dX6_lastOfPiece_34 : decode cX6_lastOfPiece 34 = .ok (.goto (-23), 3) := by decide +kernel
theorem dX6_lastOfPiece_37 : decode cX6_lastOfPiece 37 = .ok (.iload_n 3, 1) := by decide +kernel
theorem dX6_lastOfPiece_38 : decode cX6_lastOfPiece 38 = .ok (.ireturn, 1) := by decide +kernel
end
section
theorem dX7_init_0 : decode cX7_init 0 = .ok (.aload_n 0, 1) := by decide +kernel
theorem dX7_init_1 : decode cX7_init 1 = .ok (.invokespecial 1, 3) := by decide +kernel
theorem dX7_init_4 : decode cX7_init 4 = .ok (.aload_n 0, 1) := by decide +kernel
theorem dX7_init_5 : decode cX7_init 5 = .ok (.bipush 70, 2) := by decide +kernel
theorem dX7_init_7 : decode cX7_init 7 = .ok (.newarray .int, 2) := by decide +kernel
theorem dX7_init_9 : decode cX7_init 9 = .ok (.putfield 7, 3) := by decide +kernel
theorem dX7_init_12 : decode cX7_init 12 = .ok (.aload_n 0, 1) := by decide +kernel
theorem dX7_init_13 : decode cX7_init 13 = .ok (.bipush 70, 2) := by decide +kernel
theorem dX7_init_15 : decode cX7_init 15 = .ok (.newarray .int, 2) := by decide +kernel
theorem dX7_init_17 : decode cX7_init 17 = .ok (.putfield 13, 3) := by decide +kernel
theorem dX7_init_20 : decode cX7_init 20 = .ok (.aload_n 0, 1) := by decide +kernel
theorem dX7_init_21 : decode cX7_init 21 = .ok (.bipush 70, 2) := by decide +kernel
theorem dX7_init_23 : decode cX7_init 23 = .ok (.newarray .int, 2) := by decide +kernel
theorem dX7_init_25 : decode cX7_init 25 = .ok (.putfield 16, 3) := by decide +kernel
theorem dX7_init_28 : decode cX7_init 28 = .ok (.aload_n 0, 1) := by decide +kernel
theorem dX7_init_29 : decode cX7_init 29 = .ok (.bipush 70, 2) := by decide +kernel
theorem dX7_init_31 : decode cX7_init 31 = .ok (.newarray .int, 2) := by decide +kernel
theorem dX7_init_33 : decode cX7_init 33 = .ok (.putfield 19, 3) := by decide +kernel
theorem dX7_init_36 : decode cX7_init 36 = .ok (.aload_n 0, 1) := by decide +kernel
theorem dX7_init_37 : decode cX7_init 37 = .ok (.bipush 70, 2) := by decide +kernel
theorem dX7_init_39 : decode cX7_init 39 = .ok (.newarray .int, 2) := by decide +kernel
theorem dX7_init_41 : decode cX7_init 41 = .ok (.putfield 22, 3) := by decide +kernel
theorem dX7_init_44 : decode cX7_init 44 = .ok (.aload_n 0, 1) := by decide +kernel
theorem dX7_init_45 : decode cX7_init 45 = .ok (.sipush 128, 3) := by decide +kernel
theorem dX7_init_48 : decode cX7_init 48 = .ok (.newarray .int, 2) := by decide +kernel
theorem dX7_init_50 : decode cX7_init 50 = .ok (.putfield 25, 3) := by decide +kernel
theorem dX7_init_53 : decode cX7_init 53 = .ok (.aload_n 0, 1) := by decide +kernel
theorem dX7_init_54 : decode cX7_init 54 = .ok (.bipush 6, 2) := by decide +kernel
theorem dX7_init_56 : decode cX7_init 56 = .ok (.newarray .int, 2) := by decide +kernel
theorem dX7_init_58 : decode cX7_init 58 = .ok (.putfield 28, 3) := by decide +kernel
theorem dX7_init_61 : decode cX7_init 61 = .ok (.aload_n 0, 1) := by decide +kernel
theorem dX7_init_62 : decode cX7_init 62 = .ok (.bipush 6, 2) := by decide +kernel
theorem dX7_init_64 : decode cX7_init 64 = .ok (.newarray .int, 2) := by decide +kernel
theorem dX7_init_66 : decode cX7_init 66 = .ok (.putfield 31, 3) := by decide +kernel
theorem dX7_init_69 : decode cX7_init 69 = .ok (.aload_n 0, 1) := by decide +kernel
theorem dX7_init_70 : decode cX7_init 70 = .ok (.bipush 6, 2) := by decide +kernel
theorem dX7_init_72 : decode cX7_init 72 = .ok (.newarray .int, 2) := by decide +kernel
theorem dX7_init_74 : decode cX7_init 74 = .ok (.putfield 34, 3) := by decide +kernel
theorem dX7_init_77 : decode cX7_init 77 = .ok (.aload_n 0, 1) := by decide +kernel
theorem dX7_init_78 : decode cX7_init 78 = .ok (.bipush 50, 2) := by decide +kernel
theorem dX7_init_80 : decode cX7_init 80 = .ok (.newarray .byte, 2) := by decide +kernel
theorem dX7_init_82 : decode cX7_init 82 = .ok (.putfield 37, 3) := by decide +kernel
theorem dX7_init_85 : decode cX7_init 85 = .ok (.aload_n 0, 1) := by decide +kernel
theorem dX7_init_86 : decode cX7_init 86 = .ok (.sipush 128, 3) := by decide +kernel
theorem dX7_init_89 : decode cX7_init 89 = .ok (.newarray .int, 2) := by decide +kernel
theorem dX7_init_91 : decode cX7_init 91 = .ok (.putfield 41, 3) := by decide +kernel
theorem dX7_init_94 : decode cX7_init 94 = .ok (.aload_n 0, 1) := by decide +kernel
theorem dX7_init_95 : decode cX7_init 95 = .ok (.bipush 40, 2) := by decide +kernel
theorem dX7_init_97 : decode cX7_init 97 = .ok (.newarray .int, 2) := by decide +kernel
theorem dX7_init_99 : decode cX7_init 99 = .ok (.putfield 44, 3) := by decide +kernel
theorem dX7_init_102 : decode cX7_init 102 = .ok (.aload_n 0, 1) := by decide +kernel
theorem dX7_init_103 : decode cX7_init 103 = .ok (.bipush 40, 2) := by decide +kernel
theorem dX7_init_105 : decode cX7_init 105 = .ok (.newarray .int, 2) := by decide +kernel
theorem dX7_init_107 : decode cX7_init 107 = .ok (.putfield 47, 3) := by decide +kernel
theorem dX7_init_110 : decode cX7_init 110 = .ok (.aload_n 0, 1) := by decide +kernel
theorem dX7_init_111 : decode cX7_init 111 = .ok (.bipush 40, 2) := by decide +kernel
theorem dX7_init_113 : decode cX7_init 113 = .ok (.newarray .int, 2) := by decide +kernel
theorem dX7_init_115 : decode cX7_init 115 = .ok (.putfield 50, 3) := by decide +kernel
theorem dX7_init_118 : decode cX7_init 118 = .ok (.aload_n 0, 1) := by decide +kernel
theorem dX7_init_119 : decode cX7_init 119 = .ok (.bipush 40, 2) := by decide +kernel
theorem dX7_init_121 : decode cX7_init 121 = .ok (.newarray .int, 2) := by decide +kernel
theorem dX7_init_123 : decode cX7_init 123 = .ok (.putfield 53, 3) := by decide +kernel
theorem dX7_init_126 : decode cX7_init 126 = .ok (.aload_n 0, 1) := by decide +kernel
theorem dX7_init_127 : decode cX7_init 127 = .ok (.bipush 40, 2) := by decide +kernel
theorem dX7_init_129 : decode cX7_init 129 = .ok (.newarray .int, 2) := by decide +kernel
theorem dX7_init_131 : decode cX7_init 131 = .ok (.putfield 56, 3) := by decide +kernel
theorem dX7_init_134 : decode cX7_init 134 = .ok (.aload_n 0, 1) := by decide +kernel
theorem dX7_init_135 : decode cX7_init 135 = .ok (.bipush 6, 2) := by decide +kernel
theorem dX7_init_137 : decode cX7_init 137 = .ok (.newarray .int, 2) := by decide +kernel
theorem dX7_init_139 : decode cX7_init 139 = .ok (.putfield 59, 3) := by decide +kernel
theorem dX7_init_142 : decode cX7_init 142 = .ok (.aload_n 0, 1) := by decide +kernel
theorem dX7_init_143 : decode cX7_init 143 = .ok (.bipush 6, 2) := by decide +kernel
theorem dX7_init_145 : decode cX7_init 145 = .ok (.newarray .int, 2) := by decide +kernel
theorem dX7_init_147 : decode cX7_init 147 = .ok (.putfield 62, 3) := by decide +kernel
theorem dX7_init_150 : decode cX7_init 150 = .ok (.aload_n 0, 1) := by decide +kernel
theorem dX7_init_151 : decode cX7_init 151 = .ok (.bipush 6, 2) := by decide +kernel
theorem dX7_init_153 : decode cX7_init 153 = .ok (.newarray .int, 2) := by decide +kernel
theorem dX7_init_155 : decode cX7_init 155 = .ok (.putfield 65, 3) := by decide +kernel
theorem dX7_init_158 : decode cX7_init 158 = .ok (.return_, 1) := by decide +kernel
theorem dX7_within_0 : decode cX7_within 0 = .ok (.iload_n 0, 1) := by decide +kernel
theorem dX7_within_1 : decode cX7_within 1 = .ok (.iload_n 1, 1) := by decide +kernel
theorem dX7_within_2 : decode cX7_within 2 = .ok (.if_icmp .lt 12, 3) := by decide +kernel
theorem dX7_within_5 : decode cX7_within 5 = .ok (.iload_n 0, 1) := by decide +kernel
theorem dX7_within_6 : decode cX7_within 6 = .ok (.iload_n 2, 1) := by decide +kernel
theorem dX7_within_7 : decode cX7_within 7 = .ok (.if_icmp .gt 7, 3) := by decide +kernel
theorem dX7_within_10 : decode cX7_within 10 = .ok (.iconst 1, 1) := by decide +kernel
theorem dX7_within_11 : decode cX7_within 11 = .ok (.goto 4, 3) := by decide +kernel
theorem dX7_within_14 : decode cX7_within 14 = .ok (.iconst 0, 1) := by decide +kernel
theorem dX7_within_15 : decode cX7_within 15 = .ok (.ireturn, 1) := by decide +kernel
theorem dX7_isIn_0 : decode cX7_isIn 0 = .ok (.iload_n 0, 1) := by decide +kernel
theorem dX7_isIn_1 : decode cX7_isIn 1 = .ok (.iload_n 1, 1) := by decide +kernel
theorem dX7_isIn_2 : decode cX7_isIn 2 = .ok (.ishr, 1) := by decide +kernel
theorem dX7_isIn_3 : decode cX7_isIn 3 = .ok (.iconst 1, 1) := by decide +kernel
theorem dX7_isIn_4 : decode cX7_isIn 4 = .ok (.iand, 1) := by decide +kernel
theorem dX7_isIn_5 : decode cX7_isIn 5 = .ok (.iconst 1, 1) := by decide +kernel
theorem dX7_isIn_6 : decode cX7_isIn 6 = .ok (.if_icmp .ne 7, 3) := by decide +kernel
theorem dX7_isIn_9 : decode cX7_isIn 9 = .ok (.iconst 1, 1) := by decide +kernel
theorem dX7_isIn_10 : decode cX7_isIn 10 = .ok (.goto 4, 3) := by decide +kernel
theorem dX7_isIn_13 : decode cX7_isIn 13 = .ok (.iconst 0, 1) := by decide +kernel
theorem dX7_isIn_14 : decode cX7_isIn 14 = .ok (.ireturn, 1) := by decide +kernel
theorem dX7_letter_0 : decode cX7_letter 0 = .ok (.iload_n 1, 1) := by decide +kernel
theorem dX7_letter_1 : decode cX7_letter 1 = .ok (.bipush 32, 2) := by decide +kernel
theorem dX7_letter_3 : decode cX7_letter 3 = .ok (.bipush 126, 2) := by decide +kernel
theorem dX7_letter_5 : decode cX7_letter 5 = .ok (.invokestatic 68, 3) := by decide +kernel
theorem dX7_letter_8 : decode cX7_letter 8 = .ok (.ifCond .ne 6, 3) := by decide +kernel
theorem dX7_letter_11 : decode cX7_letter 11 = .ok (.bipush (-102), 2) := by decide +kernel
theorem dX7_letter_13 : decode cX7_letter 13 = .ok (.ireturn, 1) := by decide +kernel
theorem dX7_letter_14 : decode cX7_letter 14 = .ok (.aload_n 0, 1) := by decide +kernel
theorem dX7_letter_15 : decode cX7_letter 15 = .ok (.getfield 72, 3) := by decide +kernel
theorem dX7_letter_18 : decode cX7_letter 18 = .ok (.bipush 50, 2) := by decide +kernel
theorem dX7_letter_20 : decode cX7_letter 20 = .ok (.if_icmp .ne 6, 3) := by decide +kernel
theorem dX7_letter_23 : decode cX7_letter 23 = .ok (.bipush (-104), 2) := by decide +kernel
theorem dX7_letter_25 : decode cX7_letter 25 = .ok (.ireturn, 1) := by decide +kernel
theorem dX7_letter_26 : decode cX7_letter 26 = .ok (.aload_n 0, 1) := by decide +kernel
theorem dX7_letter_27 : decode cX7_letter 27 = .ok (.getfield 37, 3) := by decide +kernel
theorem dX7_letter_30 : decode cX7_letter 30 = .ok (.aload_n 0, 1) := by decide +kernel
theorem dX7_letter_31 : decode cX7_letter 31 = .ok (.getfield 72, 3) := by decide +kernel
theorem dX7_letter_34 : decode cX7_letter 34 = .ok (.iload_n 1, 1) := by decide +kernel
theorem dX7_letter_35 : decode cX7_letter 35 = .ok (.i2b, 1) := by decide +kernel
theorem dX7_letter_36 : decode cX7_letter 36 = .ok (.bastore, 1) := by decide +kernel
theorem dX7_letter_37 : decode cX7_letter 37 = .ok (.aload_n 0, 1) := by decide +kernel
theorem dX7_letter_38 : decode cX7_letter 38 = .ok (.dup, 1) := by decide +kernel
theorem dX7_letter_39 : decode cX7_letter 39 = .ok (.getfield 72, 3) := by decide +kernel
theorem dX7_letter_42 : decode cX7_letter 42 = .ok (.iconst 1, 1) := by decide +kernel
theorem dX7_letter_43 : decode cX7_letter 43 = .ok (.iadd, 1) := by decide +kernel
theorem dX7_letter_44 : decode cX7_letter 44 = .ok (.putfield 72, 3) := by decide +kernel
theorem dX7_letter_47 : decode cX7_letter 47 = .ok (.aload_n 0, 1) := by decide +kernel
theorem dX7_letter_48 : decode cX7_letter 48 = .ok (.getfield 72, 3) := by decide +kernel
theorem dX7_letter_51 : decode cX7_letter 51 = .ok (.ireturn, 1) := by decide +kernel
theorem dX7_blank_0 : decode cX7_blank 0 = .ok (.aload_n 0, 1) := by decide +kernel
theorem dX7_blank_1 : decode cX7_blank 1 = .ok (.getfield 72, 3) := by decide +kernel
theorem dX7_blank_4 : decode cX7_blank 4 = .ok (.istore_n 1, 1) := by decide +kernel
theorem dX7_blank_5 : decode cX7_blank 5 = .ok (.aload_n 0, 1) := by decide +kernel
theorem dX7_blank_6 : decode cX7_blank 6 = .ok (.iconst 0, 1) := by decide +kernel
theorem dX7_blank_7 : decode cX7_blank 7 = .ok (.putfield 72, 3) := by decide +kernel
theorem dX7_blank_10 : decode cX7_blank 10 = .ok (.iload_n 1, 1) := by decide +kernel
theorem dX7_blank_11 : decode cX7_blank 11 = .ok (.ireturn, 1) := by decide +kernel
theorem dX7_kindBy_0 : decode cX7_kindBy 0 = .ok (.iload_n 0, 1) := by decide +kernel
theorem dX7_kindBy_1 : decode cX7_kindBy 1 = .ok (.lookupswitch 61 #[(98, 57), (102, 53), (111, 59), (115, 55), (116, 51)], 51) := by decide +kernel
theorem dX7_kindBy_52 : decode cX7_kindBy 52 = .ok (.iconst 0, 1) := by decide +kernel
theorem dX7_kindBy_53 : decode cX7_kindBy 53 = .ok (.ireturn, 1) := by decide +kernel
theorem dX7_kindBy_54 : decode cX7_kindBy 54 = .ok (.iconst 1, 1) := by decide +kernel
theorem dX7_kindBy_55 : decode cX7_kindBy 55 = .ok (.ireturn, 1) := by decide +kernel
theorem dX7_kindBy_56 : decode cX7_kindBy 56 = .ok (.iconst 2, 1) := by decide +kernel
theorem dX7_kindBy_57 : decode cX7_kindBy 57 = .ok (.ireturn, 1) := by decide +kernel
theorem dX7_kindBy_58 : decode cX7_kindBy 58 = .ok (.iconst 3, 1) := by decide +kernel
theorem dX7_kindBy_59 : decode cX7_kindBy 59 = .ok (.ireturn, 1) := by decide +kernel
theorem dX7_kindBy_60 : decode cX7_kindBy 60 = .ok (.iconst 4, 1) := by decide +kernel
theorem dX7_kindBy_61 : decode cX7_kindBy 61 = .ok (.ireturn, 1) := by decide +kernel
theorem dX7_kindBy_62 : decode cX7_kindBy 62 = .ok (.iconst (-1), 1) := by decide +kernel
theorem dX7_kindBy_63 : decode cX7_kindBy 63 = .ok (.ireturn, 1) := by decide +kernel
theorem dX7_at_0 : decode cX7_at 0 = .ok (.iload_n 1, 1) := by decide +kernel
theorem dX7_at_1 : decode cX7_at 1 = .ok (.aload_n 0, 1) := by decide +kernel
theorem dX7_at_2 : decode cX7_at 2 = .ok (.getfield 72, 3) := by decide +kernel
theorem dX7_at_5 : decode cX7_at 5 = .ok (.if_icmp .ge 12, 3) := by decide +kernel
theorem dX7_at_8 : decode cX7_at 8 = .ok (.aload_n 0, 1) := by decide +kernel
theorem dX7_at_9 : decode cX7_at 9 = .ok (.getfield 37, 3) := by decide +kernel
theorem dX7_at_12 : decode cX7_at 12 = .ok (.iload_n 1, 1) := by decide +kernel
theorem dX7_at_13 : decode cX7_at 13 = .ok (.baload, 1) := by decide +kernel
theorem dX7_at_14 : decode cX7_at 14 = .ok (.goto 4, 3) := by decide +kernel
theorem dX7_at_17 : decode cX7_at 17 = .ok (.iconst 0, 1) := by decide +kernel
theorem dX7_at_18 : decode cX7_at 18 = .ok (.ireturn, 1) := by decide +kernel
theorem dX7_figure_0 : decode cX7_figure 0 = .ok (.aload_n 0, 1) := by decide +kernel
theorem dX7_figure_1 : decode cX7_figure 1 = .ok (.iload_n 1, 1) := by decide +kernel
theorem dX7_figure_2 : decode cX7_figure 2 = .ok (.invokevirtual 76, 3) := by decide +kernel
theorem dX7_figure_5 : decode cX7_figure 5 = .ok (.bipush 48, 2) := by decide +kernel
theorem dX7_figure_7 : decode cX7_figure 7 = .ok (.isub, 1) := by decide +kernel
theorem dX7_figure_8 : decode cX7_figure 8 = .ok (.ireturn, 1) := by decide +kernel
theorem dX7_isSign_0 : decode cX7_isSign 0 = .ok (.aload_n 0, 1) := by decide +kernel
theorem dX7_isSign_1 : decode cX7_isSign 1 = .ok (.iload_n 1, 1) := by decide +kernel
theorem dX7_isSign_2 : decode cX7_isSign 2 = .ok (.invokevirtual 76, 3) := by decide +kernel
theorem dX7_isSign_5 : decode cX7_isSign 5 = .ok (.bipush 43, 2) := by decide +kernel
theorem dX7_isSign_7 : decode cX7_isSign 7 = .ok (.if_icmp .eq 13, 3) := by decide +kernel
theorem dX7_isSign_10 : decode cX7_isSign 10 = .ok (.aload_n 0, 1) := by decide +kernel
theorem dX7_isSign_11 : decode cX7_isSign 11 = .ok (.iload_n 1, 1) := by decide +kernel
theorem dX7_isSign_12 : decode cX7_isSign 12 = .ok (.invokevirtual 76, 3) := by decide +kernel
theorem dX7_isSign_15 : decode cX7_isSign 15 = .ok (.bipush 45, 2) := by decide +kernel
theorem dX7_isSign_17 : decode cX7_isSign 17 = .ok (.if_icmp .ne 7, 3) := by decide +kernel
theorem dX7_isSign_20 : decode cX7_isSign 20 = .ok (.iconst 1, 1) := by decide +kernel
theorem dX7_isSign_21 : decode cX7_isSign 21 = .ok (.goto 4, 3) := by decide +kernel
theorem dX7_isSign_24 : decode cX7_isSign 24 = .ok (.iconst 0, 1) := by decide +kernel
theorem dX7_isSign_25 : decode cX7_isSign 25 = .ok (.ireturn, 1) := by decide +kernel
theorem dX7_isLetter_0 : decode cX7_isLetter 0 = .ok (.iload_n 1, 1) := by decide +kernel
theorem dX7_isLetter_1 : decode cX7_isLetter 1 = .ok (.iload_n 2, 1) := by decide +kernel
theorem dX7_isLetter_2 : decode cX7_isLetter 2 = .ok (.iadd, 1) := by decide +kernel
theorem dX7_isLetter_3 : decode cX7_isLetter 3 = .ok (.istore_n 3, 1) := by decide +kernel
theorem dX7_isLetter_4 : decode cX7_isLetter 4 = .ok (.iload_n 2, 1) := by decide +kernel
theorem dX7_isLetter_5 : decode cX7_isLetter 5 = .ok (.tableswitch 212 0 10 #[59, 77, 212, 77, 212, 212, 83, 99, 111, 139, 157], 59) := by decide +kernel
theorem dX7_isLetter_64 : decode cX7_isLetter 64 = .ok (.aload_n 0, 1) := by decide +kernel
theorem dX7_isLetter_65 : decode cX7_isLetter 65 = .ok (.iload_n 3, 1) := by decide +kernel
theorem dX7_isLetter_66 : decode cX7_isLetter 66 = .ok (.invokevirtual 76, 3) := by decide +kernel
theorem dX7_isLetter_69 : decode cX7_isLetter 69 = .ok (.invokestatic 80, 3) := by decide +kernel
theorem dX7_isLetter_72 : decode cX7_isLetter 72 = .ok (.iconst (-1), 1) := by decide +kernel
theorem dX7_isLetter_73 : decode cX7_isLetter 73 = .ok (.if_icmp .eq 7, 3) := by decide +kernel
theorem dX7_isLetter_76 : decode cX7_isLetter 76 = .ok (.iconst 1, 1) := by decide +kernel
theorem dX7_isLetter_77 : decode cX7_isLetter 77 = .ok (.goto 4, 3) := by decide +kernel
theorem dX7_isLetter_80 : decode cX7_isLetter 80 = .ok (.iconst 0, 1) := by decide +kernel
theorem dX7_isLetter_81 : decode cX7_isLetter 81 = .ok (.ireturn, 1) := by decide +kernel
theorem dX7_isLetter_82 : decode cX7_isLetter 82 = .ok (.aload_n 0, 1) := by decide +kernel
theorem dX7_isLetter_83 : decode cX7_isLetter 83 = .ok (.iload_n 3, 1) := by decide +kernel
theorem dX7_isLetter_84 : decode cX7_isLetter 84 = .ok (.invokevirtual 83, 3) := by decide +kernel
theorem dX7_isLetter_87 : decode cX7_isLetter 87 = .ok (.ireturn, 1) := by decide +kernel
theorem dX7_isLetter_88 : decode cX7_isLetter 88 = .ok (.aload_n 0, 1) := by decide +kernel
theorem dX7_isLetter_89 : decode cX7_isLetter 89 = .ok (.iload_n 3, 1) := by decide +kernel
theorem dX7_isLetter_90 : decode cX7_isLetter 90 = .ok (.invokevirtual 76, 3) := by decide +kernel
theorem dX7_isLetter_93 : decode cX7_isLetter 93 = .ok (.bipush 64, 2) := by decide +kernel
theorem dX7_isLetter_95 : decode cX7_isLetter 95 = .ok (.if_icmp .ne 7, 3) := by decide +kernel
theorem dX7_isLetter_98 : decode cX7_isLetter 98 = .ok (.iconst 1, 1) := by decide +kernel
theorem dX7_isLetter_99 : decode cX7_isLetter 99 = .ok (.goto 4, 3) := by decide +kernel
theorem dX7_isLetter_102 : decode cX7_isLetter 102 = .ok (.iconst 0, 1) := by decide +kernel
theorem dX7_isLetter_103 : decode cX7_isLetter 103 = .ok (.ireturn, 1) := by decide +kernel
theorem dX7_isLetter_104 : decode cX7_isLetter 104 = .ok (.aload_n 0, 1) := by decide +kernel
theorem dX7_isLetter_105 : decode cX7_isLetter 105 = .ok (.iload_n 3, 1) := by decide +kernel
theorem dX7_isLetter_106 : decode cX7_isLetter 106 = .ok (.invokevirtual 87, 3) := by decide +kernel
theorem dX7_isLetter_109 : decode cX7_isLetter 109 = .ok (.iconst 0, 1) := by decide +kernel
theorem dX7_isLetter_110 : decode cX7_isLetter 110 = .ok (.bipush 6, 2) := by decide +kernel
theorem dX7_isLetter_112 : decode cX7_isLetter 112 = .ok (.invokestatic 68, 3) := by decide +kernel
theorem dX7_isLetter_115 : decode cX7_isLetter 115 = .ok (.ireturn, 1) := by decide +kernel
theorem dX7_isLetter_116 : decode cX7_isLetter 116 = .ok (.aload_n 0, 1) := by decide +kernel
theorem dX7_isLetter_117 : decode cX7_isLetter 117 = .ok (.iload_n 3, 1) := by decide +kernel
theorem dX7_isLetter_118 : decode cX7_isLetter 118 = .ok (.invokevirtual 87, 3) := by decide +kernel
theorem dX7_isLetter_121 : decode cX7_isLetter 121 = .ok (.iconst 0, 1) := by decide +kernel
theorem dX7_isLetter_122 : decode cX7_isLetter 122 = .ok (.aload_n 0, 1) := by decide +kernel
theorem dX7_isLetter_123 : decode cX7_isLetter 123 = .ok (.iload_n 3, 1) := by decide +kernel
theorem dX7_isLetter_124 : decode cX7_isLetter 124 = .ok (.iconst 1, 1) := by decide +kernel
theorem dX7_isLetter_125 : decode cX7_isLetter 125 = .ok (.isub, 1) := by decide +kernel
theorem dX7_isLetter_126 : decode cX7_isLetter 126 = .ok (.invokevirtual 87, 3) := by decide +kernel
theorem dX7_isLetter_129 : decode cX7_isLetter 129 = .ok (.bipush 6, 2) := by decide +kernel
theorem dX7_isLetter_131 : decode cX7_isLetter 131 = .ok (.if_icmp .ne 7, 3) := by decide +kernel
theorem dX7_isLetter_134 : decode cX7_isLetter 134 = .ok (.iconst 3, 1) := by decide +kernel
theorem dX7_isLetter_135 : decode cX7_isLetter 135 = .ok (.goto 5, 3) := by decide +kernel
theorem dX7_isLetter_138 : decode cX7_isLetter 138 = .ok (.bipush 9, 2) := by decide +kernel
theorem dX7_isLetter_140 : decode cX7_isLetter 140 = .ok (.invokestatic 68, 3) := by decide +kernel
theorem dX7_isLetter_143 : decode cX7_isLetter 143 = .ok (.ireturn, 1) := by decide +kernel
theorem dX7_isLetter_144 : decode cX7_isLetter 144 = .ok (.aload_n 0, 1) := by decide +kernel
theorem dX7_isLetter_145 : decode cX7_isLetter 145 = .ok (.iload_n 3, 1) := by decide +kernel
theorem dX7_isLetter_146 : decode cX7_isLetter 146 = .ok (.invokevirtual 87, 3) := by decide +kernel
theorem dX7_isLetter_149 : decode cX7_isLetter 149 = .ok (.aload_n 0, 1) := by decide +kernel
theorem dX7_isLetter_150 : decode cX7_isLetter 150 = .ok (.iload_n 3, 1) := by decide +kernel
theorem dX7_isLetter_151 : decode cX7_isLetter 151 = .ok (.iconst 2, 1) := by decide +kernel
theorem dX7_isLetter_152 : decode cX7_isLetter 152 = .ok (.isub, 1) := by decide +kernel
theorem dX7_isLetter_153 : decode cX7_isLetter 153 = .ok (.invokevirtual 87, 3) := by decide +kernel
theorem dX7_isLetter_156 : decode cX7_isLetter 156 = .ok (.bipush 6, 2) := by decide +kernel
theorem dX7_isLetter_158 : decode cX7_isLetter 158 = .ok (.invokestatic 68, 3) := by decide +kernel
theorem dX7_isLetter_161 : decode cX7_isLetter 161 = .ok (.ireturn, 1) := by decide +kernel
theorem dX7_isLetter_162 : decode cX7_isLetter 162 = .ok (.aload_n 0, 1) := by decide +kernel
theorem dX7_isLetter_163 : decode cX7_isLetter 163 = .ok (.iload_n 3, 1) := by decide +kernel
theorem dX7_isLetter_164 : decode cX7_isLetter 164 = .ok (.invokevirtual 87, 3) := by decide +kernel
theorem dX7_isLetter_167 : decode cX7_isLetter 167 = .ok (.aload_n 0, 1) := by decide +kernel
theorem dX7_isLetter_168 : decode cX7_isLetter 168 = .ok (.iload_n 3, 1) := by decide +kernel
theorem dX7_isLetter_169 : decode cX7_isLetter 169 = .ok (.iconst 1, 1) := by decide +kernel
theorem dX7_isLetter_170 : decode cX7_isLetter 170 = .ok (.isub, 1) := by decide +kernel
theorem dX7_isLetter_171 : decode cX7_isLetter 171 = .ok (.invokevirtual 87, 3) := by decide +kernel
theorem dX7_isLetter_174 : decode cX7_isLetter 174 = .ok (.aload_n 0, 1) := by decide +kernel
theorem dX7_isLetter_175 : decode cX7_isLetter 175 = .ok (.iload_n 3, 1) := by decide +kernel
theorem dX7_isLetter_176 : decode cX7_isLetter 176 = .ok (.iconst 3, 1) := by decide +kernel
theorem dX7_isLetter_177 : decode cX7_isLetter 177 = .ok (.isub, 1) := by decide +kernel
theorem dX7_isLetter_178 : decode cX7_isLetter 178 = .ok (.invokevirtual 87, 3) := by decide +kernel
theorem dX7_isLetter_181 : decode cX7_isLetter 181 = .ok (.if_icmp .ne 13, 3) := by decide +kernel
theorem dX7_isLetter_184 : decode cX7_isLetter 184 = .ok (.aload_n 0, 1) := by decide +kernel
theorem dX7_isLetter_185 : decode cX7_isLetter 185 = .ok (.iload_n 3, 1) := by decide +kernel
theorem dX7_isLetter_186 : decode cX7_isLetter 186 = .ok (.iconst 2, 1) := by decide +kernel
theorem dX7_isLetter_187 : decode cX7_isLetter 187 = .ok (.isub, 1) := by decide +kernel
theorem dX7_isLetter_188 : decode cX7_isLetter 188 = .ok (.invokevirtual 87, 3) := by decide +kernel
theorem dX7_isLetter_191 : decode cX7_isLetter 191 = .ok (.goto 4, 3) := by decide +kernel
theorem dX7_isLetter_194 : decode cX7_isLetter 194 = .ok (.iconst 0, 1) := by decide +kernel
theorem dX7_isLetter_195 : decode cX7_isLetter 195 = .ok (.aload_n 0, 1) := by decide +kernel
theorem dX7_isLetter_196 : decode cX7_isLetter 196 = .ok (.iload_n 3, 1) := by decide +kernel
theorem dX7_isLetter_197 : decode cX7_isLetter 197 = .ok (.iconst 1, 1) := by decide +kernel
theorem dX7_isLetter_198 : decode cX7_isLetter 198 = .ok (.isub, 1) := by decide +kernel
theorem dX7_isLetter_199 : decode cX7_isLetter 199 = .ok (.invokevirtual 87, 3) := by decide +kernel
theorem dX7_isLetter_202 : decode cX7_isLetter 202 = .ok (.bipush 6, 2) := by decide +kernel
theorem dX7_isLetter_204 : decode cX7_isLetter 204 = .ok (.if_icmp .ne 7, 3) := by decide +kernel
theorem dX7_isLetter_207 : decode cX7_isLetter 207 = .ok (.iconst 3, 1) := by decide +kernel
theorem dX7_isLetter_208 : decode cX7_isLetter 208 = .ok (.goto 5, 3) := by decide +kernel
theorem dX7_isLetter_211 : decode cX7_isLetter 211 = .ok (.bipush 9, 2) := by decide +kernel
theorem dX7_isLetter_213 : decode cX7_isLetter 213 = .ok (.invokestatic 68, 3) := by decide +kernel
theorem dX7_isLetter_216 : decode cX7_isLetter 216 = .ok (.ireturn, 1) := by decide +kernel
theorem dX7_isLetter_217 : decode cX7_isLetter 217 = .ok (.aload_n 0, 1) := by decide +kernel
theorem dX7_isLetter_218 : decode cX7_isLetter 218 = .ok (.iload_n 3, 1) := by decide +kernel
theorem dX7_isLetter_219 : decode cX7_isLetter 219 = .ok (.invokevirtual 87, 3) := by decide +kernel
theorem dX7_isLetter_222 : decode cX7_isLetter 222 = .ok (.iconst 0, 1) := by decide +kernel
theorem dX7_isLetter_223 : decode cX7_isLetter 223 = .ok (.bipush 9, 2) := by decide +kernel
theorem dX7_isLetter_225 : decode cX7_isLetter 225 = .ok (.invokestatic 68, 3) := by decide +kernel
theorem dX7_isLetter_228 : decode cX7_isLetter 228 = .ok (.ireturn, 1) := by decide +kernel
theorem dX7_readTariff_0 : decode cX7_readTariff 0 = .ok (.iconst 0, 1) := by decide +kernel
theorem dX7_readTariff_1 : decode cX7_readTariff 1 = .ok (.istore_n 2, 1) := by decide +kernel
theorem dX7_readTariff_2 : decode cX7_readTariff 2 = .ok (.iload_n 2, 1) := by decide +kernel
theorem dX7_readTariff_3 : decode cX7_readTariff 3 = .ok (.bipush 11, 2) := by decide +kernel
theorem dX7_readTariff_5 : decode cX7_readTariff 5 = .ok (.if_icmp .ge 18, 3) := by decide +kernel
theorem dX7_readTariff_8 : decode cX7_readTariff 8 = .ok (.aload_n 0, 1) := by decide +kernel
theorem dX7_readTariff_9 : decode cX7_readTariff 9 = .ok (.iload_n 1, 1) := by decide +kernel
theorem dX7_readTariff_10 : decode cX7_readTariff 10 = .ok (.iload_n 2, 1) := by decide +kernel
theorem dX7_readTariff_11 : decode cX7_readTariff 11 = .ok (.invokevirtual 90, 3) := by decide +kernel
theorem dX7_readTariff_14 : decode cX7_readTariff 14 = .ok (.ifCond .eq 9, 3) := by decide +kernel
theorem dX7_readTariff_17 : decode cX7_readTariff 17 = .ok (.iinc 2 1, 3) := by decide +kernel
theorem dX7_readTariff_20 : decode cX7_readTariff 20 = .ok (.goto (-18), 3) := by decide +kernel
theorem dX7_readTariff_23 : decode cX7_readTariff 23 = .ok (.iload_n 1, 1) := by decide +kernel
theorem dX7_readTariff_24 : decode cX7_readTariff 24 = .ok (.iload_n 2, 1) := by decide +kernel
theorem dX7_readTariff_25 : decode cX7_readTariff 25 = .ok (.iadd, 1) := by decide +kernel
theorem dX7_readTariff_26 : decode cX7_readTariff 26 = .ok (.ireturn, 1) := by decide +kernel
theorem dX7_read_0 : decode cX7_read 0 = .ok (.aload_n 0, 1) := by decide +kernel
theorem dX7_read_1 : decode cX7_read 1 = .ok (.iconst 0, 1) := by decide +kernel
theorem dX7_read_2 : decode cX7_read 2 = .ok (.putfield 94, 3) := by decide +kernel
theorem dX7_read_5 : decode cX7_read 5 = .ok (.aload_n 0, 1) := by decide +kernel
theorem dX7_read_6 : decode cX7_read 6 = .ok (.iconst 0, 1) := by decide +kernel
theorem dX7_read_7 : decode cX7_read 7 = .ok (.putfield 98, 3) := by decide +kernel
theorem dX7_read_10 : decode cX7_read 10 = .ok (.iconst 0, 1) := by decide +kernel
theorem dX7_read_11 : decode cX7_read 11 = .ok (.istore_n 1, 1) := by decide +kernel
theorem dX7_read_12 : decode cX7_read 12 = .ok (.aload_n 0, 1) := by decide +kernel
theorem dX7_read_13 : decode cX7_read 13 = .ok (.getfield 98, 3) := by decide +kernel
theorem dX7_read_16 : decode cX7_read 16 = .ok (.iconst 4, 1) := by decide +kernel
theorem dX7_read_17 : decode cX7_read 17 = .ok (.if_icmp .ge 74, 3) := by decide +kernel
theorem dX7_read_20 : decode cX7_read 20 = .ok (.aload_n 0, 1) := by decide +kernel
theorem dX7_read_21 : decode cX7_read 21 = .ok (.iload_n 1, 1) := by decide +kernel
theorem dX7_read_22 : decode cX7_read 22 = .ok (.invokevirtual 101, 3) := by decide +kernel
theorem dX7_read_25 : decode cX7_read 25 = .ok (.istore_n 2, 1) := by decide +kernel
theorem dX7_read_26 : decode cX7_read 26 = .ok (.iload_n 2, 1) := by decide +kernel
theorem dX7_read_27 : decode cX7_read 27 = .ok (.iload_n 1, 1) := by decide +kernel
theorem dX7_read_28 : decode cX7_read 28 = .ok (.bipush 11, 2) := by decide +kernel
theorem dX7_read_30 : decode cX7_read 30 = .ok (.iadd, 1) := by decide +kernel
theorem dX7_read_31 : decode cX7_read 31 = .ok (.if_icmp .eq 5, 3) := by decide +kernel
theorem dX7_read_34 : decode cX7_read 34 = .ok (.iload_n 2, 1) := by decide +kernel
theorem dX7_read_35 : decode cX7_read 35 = .ok (.ireturn, 1) := by decide +kernel
theorem dX7_read_36 : decode cX7_read 36 = .ok (.aload_n 0, 1) := by decide +kernel
theorem dX7_read_37 : decode cX7_read 37 = .ok (.dup, 1) := by decide +kernel
theorem dX7_read_38 : decode cX7_read 38 = .ok (.getfield 98, 3) := by decide +kernel
theorem dX7_read_41 : decode cX7_read 41 = .ok (.iconst 1, 1) := by decide +kernel
theorem dX7_read_42 : decode cX7_read 42 = .ok (.iadd, 1) := by decide +kernel
theorem dX7_read_43 : decode cX7_read 43 = .ok (.putfield 98, 3) := by decide +kernel
theorem dX7_read_46 : decode cX7_read 46 = .ok (.iload_n 2, 1) := by decide +kernel
theorem dX7_read_47 : decode cX7_read 47 = .ok (.istore_n 1, 1) := by decide +kernel
theorem dX7_read_48 : decode cX7_read 48 = .ok (.aload_n 0, 1) := by decide +kernel
theorem dX7_read_49 : decode cX7_read 49 = .ok (.iload_n 1, 1) := by decide +kernel
theorem dX7_read_50 : decode cX7_read 50 = .ok (.aload_n 0, 1) := by decide +kernel
theorem dX7_read_51 : decode cX7_read 51 = .ok (.getfield 72, 3) := by decide +kernel
theorem dX7_read_54 : decode cX7_read 54 = .ok (.if_icmp .ne 7, 3) := by decide +kernel
theorem dX7_read_57 : decode cX7_read 57 = .ok (.iconst 1, 1) := by decide +kernel
theorem dX7_read_58 : decode cX7_read 58 = .ok (.goto 4, 3) := by decide +kernel
theorem dX7_read_61 : decode cX7_read 61 = .ok (.iconst 0, 1) := by decide +kernel
theorem dX7_read_62 : decode cX7_read 62 = .ok (.putfield 94, 3) := by decide +kernel
theorem dX7_read_65 : decode cX7_read 65 = .ok (.aload_n 0, 1) := by decide +kernel
theorem dX7_read_66 : decode cX7_read 66 = .ok (.getfield 98, 3) := by decide +kernel
theorem dX7_read_69 : decode cX7_read 69 = .ok (.iconst 4, 1) := by decide +kernel
theorem dX7_read_70 : decode cX7_read 70 = .ok (.if_icmp .eq 13, 3) := by decide +kernel
theorem dX7_read_73 : decode cX7_read 73 = .ok (.aload_n 0, 1) := by decide +kernel
theorem dX7_read_74 : decode cX7_read 74 = .ok (.iload_n 1, 1) := by decide +kernel
theorem dX7_read_75 : decode cX7_read 75 = .ok (.invokevirtual 76, 3) := by decide +kernel
theorem dX7_read_78 : decode cX7_read 78 = .ok (.bipush 44, 2) := by decide +kernel
theorem dX7_read_80 : decode cX7_read 80 = .ok (.if_icmp .eq 5, 3) := by decide +kernel
theorem dX7_read_83 : decode cX7_read 83 = .ok (.iload_n 1, 1) := by decide +kernel
theorem dX7_read_84 : decode cX7_read 84 = .ok (.ireturn, 1) := by decide +kernel
theorem dX7_read_85 : decode cX7_read 85 = .ok (.iinc 1 1, 3) := by decide +kernel
theorem dX7_read_88 : decode cX7_read 88 = .ok (.goto (-76), 3) := by decide +kernel
theorem dX7_read_91 : decode cX7_read 91 = .ok (.iload_n 1, 1) := by decide +kernel
theorem dX7_read_92 : decode cX7_read 92 = .ok (.ireturn, 1) := by decide +kernel
theorem dX7_fault_0 : decode cX7_fault 0 = .ok (.aload_n 0, 1) := by decide +kernel
theorem dX7_fault_1 : decode cX7_fault 1 = .ok (.invokevirtual 104, 3) := by decide +kernel
theorem dX7_fault_4 : decode cX7_fault 4 = .ok (.ireturn, 1) := by decide +kernel
theorem dX7_signed_0 : decode cX7_signed 0 = .ok (.iconst 0, 1) := by decide +kernel
theorem dX7_signed_1 : decode cX7_signed 1 = .ok (.istore_n 3, 1) := by decide +kernel
theorem dX7_signed_2 : decode cX7_signed 2 = .ok (.iconst 1, 1) := by decide +kernel
theorem dX7_signed_3 : decode cX7_signed 3 = .ok (.istore 4, 2) := by decide +kernel
theorem dX7_signed_5 : decode cX7_signed 5 = .ok (.iload 4, 2) := by decide +kernel
theorem dX7_signed_7 : decode cX7_signed 7 = .ok (.iload_n 2, 1) := by decide +kernel
theorem dX7_signed_8 : decode cX7_signed 8 = .ok (.if_icmp .gt 23, 3) := by decide +kernel
theorem dX7_signed_11 : decode cX7_signed 11 = .ok (.bipush 10, 2) := by decide +kernel
theorem dX7_signed_13 : decode cX7_signed 13 = .ok (.iload_n 3, 1) := by decide +kernel
theorem dX7_signed_14 : decode cX7_signed 14 = .ok (.imul, 1) := by decide +kernel
theorem dX7_signed_15 : decode cX7_signed 15 = .ok (.aload_n 0, 1) := by decide +kernel
theorem dX7_signed_16 : decode cX7_signed 16 = .ok (.iload_n 1, 1) := by decide +kernel
theorem dX7_signed_17 : decode cX7_signed 17 = .ok (.iload 4, 2) := by decide +kernel
theorem dX7_signed_19 : decode cX7_signed 19 = .ok (.iadd, 1) := by decide +kernel
theorem dX7_signed_20 : decode cX7_signed 20 = .ok (.invokevirtual 87, 3) := by decide +kernel
theorem dX7_signed_23 : decode cX7_signed 23 = .ok (.iadd, 1) := by decide +kernel
theorem dX7_signed_24 : decode cX7_signed 24 = .ok (.istore_n 3, 1) := by decide +kernel
theorem dX7_signed_25 : decode cX7_signed 25 = .ok (.iinc 4 1, 3) := by decide +kernel
theorem dX7_signed_28 : decode cX7_signed 28 = .ok (.goto (-23), 3) := by decide +kernel
theorem dX7_signed_31 : decode cX7_signed 31 = .ok (.aload_n 0, 1) := by decide +kernel
theorem dX7_signed_32 : decode cX7_signed 32 = .ok (.iload_n 1, 1) := by decide +kernel
theorem dX7_signed_33 : decode cX7_signed 33 = .ok (.invokevirtual 76, 3) := by decide +kernel
theorem dX7_signed_36 : decode cX7_signed 36 = .ok (.bipush 45, 2) := by decide +kernel
theorem dX7_signed_38 : decode cX7_signed 38 = .ok (.if_icmp .ne 8, 3) := by decide +kernel
theorem dX7_signed_41 : decode cX7_signed 41 = .ok (.iload_n 3, 1) := by decide +kernel
theorem dX7_signed_42 : decode cX7_signed 42 = .ok (.ineg, 1) := by decide +kernel
theorem dX7_signed_43 : decode cX7_signed 43 = .ok (.goto 4, 3) := by decide +kernel
theorem dX7_signed_46 : decode cX7_signed 46 = .ok (.iload_n 3, 1) := by decide +kernel
theorem dX7_signed_47 : decode cX7_signed 47 = .ok (.ireturn, 1) := by decide +kernel
theorem dX7_desk_0 : decode cX7_desk 0 = .ok (.aload_n 0, 1) := by decide +kernel
theorem dX7_desk_1 : decode cX7_desk 1 = .ok (.invokevirtual 104, 3) := by decide +kernel
theorem dX7_desk_4 : decode cX7_desk 4 = .ok (.pop, 1) := by decide +kernel
theorem dX7_desk_5 : decode cX7_desk 5 = .ok (.aload_n 0, 1) := by decide +kernel
theorem dX7_desk_6 : decode cX7_desk 6 = .ok (.getfield 94, 3) := by decide +kernel
theorem dX7_desk_9 : decode cX7_desk 9 = .ok (.ifCond .ne 6, 3) := by decide +kernel
theorem dX7_desk_12 : decode cX7_desk 12 = .ok (.bipush (-103), 2) := by decide +kernel
theorem dX7_desk_14 : decode cX7_desk 14 = .ok (.ireturn, 1) := by decide +kernel
theorem dX7_desk_15 : decode cX7_desk 15 = .ok (.aload_n 0, 1) := by decide +kernel
theorem dX7_desk_16 : decode cX7_desk 16 = .ok (.iconst 0, 1) := by decide +kernel
theorem dX7_desk_17 : decode cX7_desk 17 = .ok (.putfield 108, 3) := by decide +kernel
theorem dX7_desk_20 : decode cX7_desk 20 = .ok (.iconst 0, 1) := by decide +kernel
theorem dX7_desk_21 : decode cX7_desk 21 = .ok (.istore_n 1, 1) := by decide +kernel
theorem dX7_desk_22 : decode cX7_desk 22 = .ok (.iload_n 1, 1) := by decide +kernel
theorem dX7_desk_23 : decode cX7_desk 23 = .ok (.sipush 128, 3) := by decide +kernel
theorem dX7_desk_26 : decode cX7_desk 26 = .ok (.if_icmp .ge 16, 3) := by decide +kernel
theorem dX7_desk_29 : decode cX7_desk 29 = .ok (.aload_n 0, 1) := by decide +kernel
theorem dX7_desk_30 : decode cX7_desk 30 = .ok (.getfield 25, 3) := by decide +kernel
theorem dX7_desk_33 : decode cX7_desk 33 = .ok (.iload_n 1, 1) := by decide +kernel
theorem dX7_desk_34 : decode cX7_desk 34 = .ok (.iconst (-1), 1) := by decide +kernel
theorem dX7_desk_35 : decode cX7_desk 35 = .ok (.iastore, 1) := by decide +kernel
theorem dX7_desk_36 : decode cX7_desk 36 = .ok (.iinc 1 1, 3) := by decide +kernel
theorem dX7_desk_39 : decode cX7_desk 39 = .ok (.goto (-17), 3) := by decide +kernel
theorem dX7_desk_42 : decode cX7_desk 42 = .ok (.iconst 0, 1) := by decide +kernel
theorem dX7_desk_43 : decode cX7_desk 43 = .ok (.istore_n 1, 1) := by decide +kernel
theorem dX7_desk_44 : decode cX7_desk 44 = .ok (.iload_n 1, 1) := by decide +kernel
theorem dX7_desk_45 : decode cX7_desk 45 = .ok (.aload_n 0, 1) := by decide +kernel
theorem dX7_desk_46 : decode cX7_desk 46 = .ok (.getfield 98, 3) := by decide +kernel
theorem dX7_desk_49 : decode cX7_desk 49 = .ok (.if_icmp .ge 83, 3) := by decide +kernel
theorem dX7_desk_52 : decode cX7_desk 52 = .ok (.bipush 12, 2) := by decide +kernel
theorem dX7_desk_54 : decode cX7_desk 54 = .ok (.iload_n 1, 1) := by decide +kernel
theorem dX7_desk_55 : decode cX7_desk 55 = .ok (.imul, 1) := by decide +kernel
theorem dX7_desk_56 : decode cX7_desk 56 = .ok (.istore_n 2, 1) := by decide +kernel
theorem dX7_desk_57 : decode cX7_desk 57 = .ok (.aload_n 0, 1) := by decide +kernel
theorem dX7_desk_58 : decode cX7_desk 58 = .ok (.aload_n 0, 1) := by decide +kernel
theorem dX7_desk_59 : decode cX7_desk 59 = .ok (.getfield 37, 3) := by decide +kernel
theorem dX7_desk_62 : decode cX7_desk 62 = .ok (.iload_n 2, 1) := by decide +kernel
theorem dX7_desk_63 : decode cX7_desk 63 = .ok (.baload, 1) := by decide +kernel
theorem dX7_desk_64 : decode cX7_desk 64 = .ok (.invokestatic 80, 3) := by decide +kernel
theorem dX7_desk_67 : decode cX7_desk 67 = .ok (.aload_n 0, 1) := by decide +kernel
theorem dX7_desk_68 : decode cX7_desk 68 = .ok (.iload_n 2, 1) := by decide +kernel
theorem dX7_desk_69 : decode cX7_desk 69 = .ok (.iconst 1, 1) := by decide +kernel
theorem dX7_desk_70 : decode cX7_desk 70 = .ok (.iadd, 1) := by decide +kernel
theorem dX7_desk_71 : decode cX7_desk 71 = .ok (.iconst 1, 1) := by decide +kernel
theorem dX7_desk_72 : decode cX7_desk 72 = .ok (.invokevirtual 111, 3) := by decide +kernel
theorem dX7_desk_75 : decode cX7_desk 75 = .ok (.aload_n 0, 1) := by decide +kernel
theorem dX7_desk_76 : decode cX7_desk 76 = .ok (.iload_n 2, 1) := by decide +kernel
theorem dX7_desk_77 : decode cX7_desk 77 = .ok (.iconst 3, 1) := by decide +kernel
theorem dX7_desk_78 : decode cX7_desk 78 = .ok (.iadd, 1) := by decide +kernel
theorem dX7_desk_79 : decode cX7_desk 79 = .ok (.iconst 2, 1) := by decide +kernel
theorem dX7_desk_80 : decode cX7_desk 80 = .ok (.invokevirtual 111, 3) := by decide +kernel
theorem dX7_desk_83 : decode cX7_desk 83 = .ok (.bipush 10, 2) := by decide +kernel
theorem dX7_desk_85 : decode cX7_desk 85 = .ok (.aload_n 0, 1) := by decide +kernel
theorem dX7_desk_86 : decode cX7_desk 86 = .ok (.iload_n 2, 1) := by decide +kernel
theorem dX7_desk_87 : decode cX7_desk 87 = .ok (.bipush 7, 2) := by decide +kernel
theorem dX7_desk_89 : decode cX7_desk 89 = .ok (.iadd, 1) := by decide +kernel
theorem dX7_desk_90 : decode cX7_desk 90 = .ok (.invokevirtual 87, 3) := by decide +kernel
theorem dX7_desk_93 : decode cX7_desk 93 = .ok (.imul, 1) := by decide +kernel
theorem dX7_desk_94 : decode cX7_desk 94 = .ok (.aload_n 0, 1) := by decide +kernel
theorem dX7_desk_95 : decode cX7_desk 95 = .ok (.iload_n 2, 1) := by decide +kernel
theorem dX7_desk_96 : decode cX7_desk 96 = .ok (.bipush 8, 2) := by decide +kernel
theorem dX7_desk_98 : decode cX7_desk 98 = .ok (.iadd, 1) := by decide +kernel
theorem dX7_desk_99 : decode cX7_desk 99 = .ok (.invokevirtual 87, 3) := by decide +kernel
theorem dX7_desk_102 : decode cX7_desk 102 = .ok (.iadd, 1) := by decide +kernel
theorem dX7_desk_103 : decode cX7_desk 103 = .ok (.bipush 10, 2) := by decide +kernel
theorem dX7_desk_105 : decode cX7_desk 105 = .ok (.aload_n 0, 1) := by decide +kernel
theorem dX7_desk_106 : decode cX7_desk 106 = .ok (.iload_n 2, 1) := by decide +kernel
theorem dX7_desk_107 : decode cX7_desk 107 = .ok (.bipush 9, 2) := by decide +kernel
theorem dX7_desk_109 : decode cX7_desk 109 = .ok (.iadd, 1) := by decide +kernel
theorem dX7_desk_110 : decode cX7_desk 110 = .ok (.invokevirtual 87, 3) := by decide +kernel
theorem dX7_desk_113 : decode cX7_desk 113 = .ok (.imul, 1) := by decide +kernel
theorem dX7_desk_114 : decode cX7_desk 114 = .ok (.aload_n 0, 1) := by decide +kernel
theorem dX7_desk_115 : decode cX7_desk 115 = .ok (.iload_n 2, 1) := by decide +kernel
theorem dX7_desk_116 : decode cX7_desk 116 = .ok (.bipush 10, 2) := by decide +kernel
theorem dX7_desk_118 : decode cX7_desk 118 = .ok (.iadd, 1) := by decide +kernel
theorem dX7_desk_119 : decode cX7_desk 119 = .ok (.invokevirtual 87, 3) := by decide +kernel
theorem dX7_desk_122 : decode cX7_desk 122 = .ok (.iadd, 1) := by decide +kernel
theorem dX7_desk_123 : decode cX7_desk 123 = .ok (.invokevirtual 115, 3) := by decide +kernel
theorem dX7_desk_126 : decode cX7_desk 126 = .ok (.iinc 1 1, 3) := by decide +kernel
theorem dX7_desk_129 : decode cX7_desk 129 = .ok (.goto (-85), 3) := by decide +kernel
theorem dX7_desk_132 : decode cX7_desk 132 = .ok (.aload_n 0, 1) := by decide +kernel
theorem dX7_desk_133 : decode cX7_desk 133 = .ok (.dup, 1) := by decide +kernel
theorem dX7_desk_134 : decode cX7_desk 134 = .ok (.getfield 119, 3) := by decide +kernel
theorem dX7_desk_137 : decode cX7_desk 137 = .ok (.iconst 1, 1) := by decide +kernel
theorem dX7_desk_138 : decode cX7_desk 138 = .ok (.iadd, 1) := by decide +kernel
theorem dX7_desk_139 : decode cX7_desk 139 = .ok (.putfield 119, 3) := by decide +kernel
theorem dX7_desk_142 : decode cX7_desk 142 = .ok (.aload_n 0, 1) := by decide +kernel
theorem dX7_desk_143 : decode cX7_desk 143 = .ok (.iconst 0, 1) := by decide +kernel
theorem dX7_desk_144 : decode cX7_desk 144 = .ok (.putfield 122, 3) := by decide +kernel
theorem dX7_desk_147 : decode cX7_desk 147 = .ok (.aload_n 0, 1) := by decide +kernel
theorem dX7_desk_148 : decode cX7_desk 148 = .ok (.iconst 0, 1) := by decide +kernel
theorem dX7_desk_149 : decode cX7_desk 149 = .ok (.putfield 72, 3) := by decide +kernel
theorem dX7_desk_152 : decode cX7_desk 152 = .ok (.aload_n 0, 1) := by decide +kernel
theorem dX7_desk_153 : decode cX7_desk 153 = .ok (.getfield 108, 3) := by decide +kernel
theorem dX7_desk_156 : decode cX7_desk 156 = .ok (.ireturn, 1) := by decide +kernel
theorem dX7_isTariff_0 : decode cX7_isTariff 0 = .ok (.iload_n 1, 1) := by decide +kernel
theorem dX7_isTariff_1 : decode cX7_isTariff 1 = .ok (.iconst 0, 1) := by decide +kernel
theorem dX7_isTariff_2 : decode cX7_isTariff 2 = .ok (.aload_n 0, 1) := by decide +kernel
theorem dX7_isTariff_3 : decode cX7_isTariff 3 = .ok (.getfield 108, 3) := by decide +kernel
theorem dX7_isTariff_6 : decode cX7_isTariff 6 = .ok (.iconst 1, 1) := by decide +kernel
theorem dX7_isTariff_7 : decode cX7_isTariff 7 = .ok (.isub, 1) := by decide +kernel
theorem dX7_isTariff_8 : decode cX7_isTariff 8 = .ok (.invokestatic 68, 3) := by decide +kernel
theorem dX7_isTariff_11 : decode cX7_isTariff 11 = .ok (.ireturn, 1) := by decide +kernel
theorem dX7_often_0 : decode cX7_often 0 = .ok (.iload_n 0, 1) := by decide +kernel
theorem dX7_often_1 : decode cX7_often 1 = .ok (.tableswitch 46 1 4 #[31, 33, 40, 40], 31) := by decide +kernel
theorem dX7_often_32 : decode cX7_often 32 = .ok (.lconst 0, 1) := by decide +kernel
theorem dX7_often_33 : decode cX7_often 33 = .ok (.lreturn, 1) := by decide +kernel
theorem dX7_often_34 : decode cX7_often 34 = .ok (.ldc2_w 125, 3) := by decide +kernel
theorem dX7_often_37 : decode cX7_often 37 = .ok (.iload_n 2, 1) := by decide +kernel
theorem dX7_often_38 : decode cX7_often 38 = .ok (.i2l, 1) := by decide +kernel
theorem dX7_often_39 : decode cX7_often 39 = .ok (.lmul, 1) := by decide +kernel
theorem dX7_often_40 : decode cX7_often 40 = .ok (.lreturn, 1) := by decide +kernel
theorem dX7_often_41 : decode cX7_often 41 = .ok (.iload_n 2, 1) := by decide +kernel
theorem dX7_often_42 : decode cX7_often 42 = .ok (.i2l, 1) := by decide +kernel
theorem dX7_often_43 : decode cX7_often 43 = .ok (.iload_n 1, 1) := by decide +kernel
theorem dX7_often_44 : decode cX7_often 44 = .ok (.i2l, 1) := by decide +kernel
theorem dX7_often_45 : decode cX7_often 45 = .ok (.lsub, 1) := by decide +kernel
theorem dX7_often_46 : decode cX7_often 46 = .ok (.lreturn, 1) := by decide +kernel
theorem dX7_often_47 : decode cX7_often 47 = .ok (.iload_n 2, 1) := by decide +kernel
theorem dX7_often_48 : decode cX7_often 48 = .ok (.i2l, 1) := by decide +kernel
theorem dX7_often_49 : decode cX7_often 49 = .ok (.lreturn, 1) := by decide +kernel
theorem dX7_asBase_0 : decode cX7_asBase 0 = .ok (.iload_n 0, 1) := by decide +kernel
theorem dX7_asBase_1 : decode cX7_asBase 1 = .ok (.iconst 4, 1) := by decide +kernel
theorem dX7_asBase_2 : decode cX7_asBase 2 = .ok (.if_icmp .ne 10, 3) := by decide +kernel
theorem dX7_asBase_5 : decode cX7_asBase 5 = .ok (.iload_n 1, 1) := by decide +kernel
theorem dX7_asBase_6 : decode cX7_asBase 6 = .ok (.iconst 1, 1) := by decide +kernel
theorem dX7_asBase_7 : decode cX7_asBase 7 = .ok (.ishr, 1) := by decide +kernel
theorem dX7_asBase_8 : decode cX7_asBase 8 = .ok (.i2l, 1) := by decide +kernel
theorem dX7_asBase_9 : decode cX7_asBase 9 = .ok (.goto 5, 3) := by decide +kernel
theorem dX7_asBase_12 : decode cX7_asBase 12 = .ok (.iload_n 1, 1) := by decide +kernel
theorem dX7_asBase_13 : decode cX7_asBase 13 = .ok (.i2l, 1) := by decide +kernel
theorem dX7_asBase_14 : decode cX7_asBase 14 = .ok (.lreturn, 1) := by decide +kernel
theorem dX7_priceBy_0 : decode cX7_priceBy 0 = .ok (.iload_n 0, 1) := by decide +kernel
theorem dX7_priceBy_1 : decode cX7_priceBy 1 = .ok (.iload_n 3, 1) := by decide +kernel
theorem dX7_priceBy_2 : decode cX7_priceBy 2 = .ok (.iload 4, 2) := by decide +kernel
theorem dX7_priceBy_4 : decode cX7_priceBy 4 = .ok (.invokestatic 127, 3) := by decide +kernel
theorem dX7_priceBy_7 : decode cX7_priceBy 7 = .ok (.iload_n 1, 1) := by decide +kernel
theorem dX7_priceBy_8 : decode cX7_priceBy 8 = .ok (.i2l, 1) := by decide +kernel
theorem dX7_priceBy_9 : decode cX7_priceBy 9 = .ok (.lmul, 1) := by decide +kernel
theorem dX7_priceBy_10 : decode cX7_priceBy 10 = .ok (.iload_n 0, 1) := by decide +kernel
theorem dX7_priceBy_11 : decode cX7_priceBy 11 = .ok (.iload_n 2, 1) := by decide +kernel
theorem dX7_priceBy_12 : decode cX7_priceBy 12 = .ok (.invokestatic 131, 3) := by decide +kernel
theorem dX7_priceBy_15 : decode cX7_priceBy 15 = .ok (.ladd, 1) := by decide +kernel
theorem dX7_priceBy_16 : decode cX7_priceBy 16 = .ok (.lreturn, 1) := by decide +kernel
theorem dX7_priceOf_0 : decode cX7_priceOf 0 = .ok (.aload_n 0, 1) := by decide +kernel
theorem dX7_priceOf_1 : decode cX7_priceOf 1 = .ok (.getfield 7, 3) := by decide +kernel
theorem dX7_priceOf_4 : decode cX7_priceOf 4 = .ok (.iload_n 1, 1) := by decide +kernel
theorem dX7_priceOf_5 : decode cX7_priceOf 5 = .ok (.iaload, 1) := by decide +kernel
theorem dX7_priceOf_6 : decode cX7_priceOf 6 = .ok (.aload_n 0, 1) := by decide +kernel
theorem dX7_priceOf_7 : decode cX7_priceOf 7 = .ok (.getfield 13, 3) := by decide +kernel
theorem dX7_priceOf_10 : decode cX7_priceOf 10 = .ok (.iload_n 1, 1) := by decide +kernel
theorem dX7_priceOf_11 : decode cX7_priceOf 11 = .ok (.iaload, 1) := by decide +kernel
theorem dX7_priceOf_12 : decode cX7_priceOf 12 = .ok (.aload_n 0, 1) := by decide +kernel
theorem dX7_priceOf_13 : decode cX7_priceOf 13 = .ok (.getfield 16, 3) := by decide +kernel
theorem dX7_priceOf_16 : decode cX7_priceOf 16 = .ok (.iload_n 1, 1) := by decide +kernel
theorem dX7_priceOf_17 : decode cX7_priceOf 17 = .ok (.iaload, 1) := by decide +kernel
theorem dX7_priceOf_18 : decode cX7_priceOf 18 = .ok (.aload_n 0, 1) := by decide +kernel
theorem dX7_priceOf_19 : decode cX7_priceOf 19 = .ok (.getfield 19, 3) := by decide +kernel
theorem dX7_priceOf_22 : decode cX7_priceOf 22 = .ok (.iload_n 1, 1) := by decide +kernel
theorem dX7_priceOf_23 : decode cX7_priceOf 23 = .ok (.iaload, 1) := by decide +kernel
theorem dX7_priceOf_24 : decode cX7_priceOf 24 = .ok (.iload_n 2, 1) := by decide +kernel
theorem dX7_priceOf_25 : decode cX7_priceOf 25 = .ok (.invokestatic 135, 3) := by decide +kernel
theorem dX7_priceOf_28 : decode cX7_priceOf 28 = .ok (.lreturn, 1) := by decide +kernel
theorem dX7_isGreat_0 : decode cX7_isGreat 0 = .ok (.lload_n 0, 1) := by decide +kernel
theorem dX7_isGreat_1 : decode cX7_isGreat 1 = .ok (.ldc2_w 139, 3) := by decide +kernel
theorem dX7_isGreat_4 : decode cX7_isGreat 4 = .ok (.lcmp, 1) := by decide +kernel
theorem dX7_isGreat_5 : decode cX7_isGreat 5 = .ok (.ifCond .lt 11, 3) := by decide +kernel
theorem dX7_isGreat_8 : decode cX7_isGreat 8 = .ok (.lload_n 0, 1) := by decide +kernel
theorem dX7_isGreat_9 : decode cX7_isGreat 9 = .ok (.ldc2_w 141, 3) := by decide +kernel
theorem dX7_isGreat_12 : decode cX7_isGreat 12 = .ok (.lcmp, 1) := by decide +kernel
theorem dX7_isGreat_13 : decode cX7_isGreat 13 = .ok (.ifCond .le 7, 3) := by decide +kernel
theorem dX7_isGreat_16 : decode cX7_isGreat 16 = .ok (.iconst 1, 1) := by decide +kernel
theorem dX7_isGreat_17 : decode cX7_isGreat 17 = .ok (.goto 4, 3) := by decide +kernel
theorem dX7_isGreat_20 : decode cX7_isGreat 20 = .ok (.iconst 0, 1) := by decide +kernel
theorem dX7_isGreat_21 : decode cX7_isGreat 21 = .ok (.ireturn, 1) := by decide +kernel
theorem dX7_isTooGreat_0 : decode cX7_isTooGreat 0 = .ok (.iload_n 0, 1) := by decide +kernel
theorem dX7_isTooGreat_1 : decode cX7_isTooGreat 1 = .ok (.iconst 2, 1) := by decide +kernel
theorem dX7_isTooGreat_2 : decode cX7_isTooGreat 2 = .ok (.if_icmp .ne 19, 3) := by decide +kernel
theorem dX7_isTooGreat_5 : decode cX7_isTooGreat 5 = .ok (.ldc2_w 125, 3) := by decide +kernel
theorem dX7_isTooGreat_8 : decode cX7_isTooGreat 8 = .ok (.iload_n 1, 1) := by decide +kernel
theorem dX7_isTooGreat_9 : decode cX7_isTooGreat 9 = .ok (.i2l, 1) := by decide +kernel
theorem dX7_isTooGreat_10 : decode cX7_isTooGreat 10 = .ok (.lmul, 1) := by decide +kernel
theorem dX7_isTooGreat_11 : decode cX7_isTooGreat 11 = .ok (.invokestatic 143, 3) := by decide +kernel
theorem dX7_isTooGreat_14 : decode cX7_isTooGreat 14 = .ok (.ifCond .eq 7, 3) := by decide +kernel
theorem dX7_isTooGreat_17 : decode cX7_isTooGreat 17 = .ok (.iconst 1, 1) := by decide +kernel
theorem dX7_isTooGreat_18 : decode cX7_isTooGreat 18 = .ok (.goto 4, 3) := by decide +kernel
theorem dX7_isTooGreat_21 : decode cX7_isTooGreat 21 = .ok (.iconst 0, 1) := by decide +kernel
theorem dX7_isTooGreat_22 : decode cX7_isTooGreat 22 = .ok (.istore 5, 2) := by decide +kernel
theorem dX7_isTooGreat_24 : decode cX7_isTooGreat 24 = .ok (.iload 5, 2) := by decide +kernel
theorem dX7_isTooGreat_26 : decode cX7_isTooGreat 26 = .ok (.ifCond .ne 34, 3) := by decide +kernel
theorem dX7_isTooGreat_29 : decode cX7_isTooGreat 29 = .ok (.iload_n 0, 1) := by decide +kernel
theorem dX7_isTooGreat_30 : decode cX7_isTooGreat 30 = .ok (.iload_n 3, 1) := by decide +kernel
theorem dX7_isTooGreat_31 : decode cX7_isTooGreat 31 = .ok (.iload_n 3, 1) := by decide +kernel
theorem dX7_isTooGreat_32 : decode cX7_isTooGreat 32 = .ok (.invokestatic 127, 3) := by decide +kernel
theorem dX7_isTooGreat_35 : decode cX7_isTooGreat 35 = .ok (.iload_n 1, 1) := by decide +kernel
theorem dX7_isTooGreat_36 : decode cX7_isTooGreat 36 = .ok (.i2l, 1) := by decide +kernel
theorem dX7_isTooGreat_37 : decode cX7_isTooGreat 37 = .ok (.lmul, 1) := by decide +kernel
theorem dX7_isTooGreat_38 : decode cX7_isTooGreat 38 = .ok (.invokestatic 143, 3) := by decide +kernel
theorem dX7_isTooGreat_41 : decode cX7_isTooGreat 41 = .ok (.ifCond .ne 19, 3) := by decide +kernel
theorem dX7_isTooGreat_44 : decode cX7_isTooGreat 44 = .ok (.iload_n 0, 1) := by decide +kernel
theorem dX7_isTooGreat_45 : decode cX7_isTooGreat 45 = .ok (.iload_n 3, 1) := by decide +kernel
theorem dX7_isTooGreat_46 : decode cX7_isTooGreat 46 = .ok (.iload 4, 2) := by decide +kernel
theorem dX7_isTooGreat_48 : decode cX7_isTooGreat 48 = .ok (.invokestatic 127, 3) := by decide +kernel
theorem dX7_isTooGreat_51 : decode cX7_isTooGreat 51 = .ok (.iload_n 1, 1) := by decide +kernel
theorem dX7_isTooGreat_52 : decode cX7_isTooGreat 52 = .ok (.i2l, 1) := by decide +kernel
theorem dX7_isTooGreat_53 : decode cX7_isTooGreat 53 = .ok (.lmul, 1) := by decide +kernel
theorem dX7_isTooGreat_54 : decode cX7_isTooGreat 54 = .ok (.invokestatic 143, 3) := by decide +kernel
theorem dX7_isTooGreat_57 : decode cX7_isTooGreat 57 = .ok (.ifCond .eq 7, 3) := by decide +kernel
theorem dX7_isTooGreat_60 : decode cX7_isTooGreat 60 = .ok (.iconst 1, 1) := by decide +kernel
theorem dX7_isTooGreat_61 : decode cX7_isTooGreat 61 = .ok (.goto 4, 3) := by decide +kernel
theorem dX7_isTooGreat_64 : decode cX7_isTooGreat 64 = .ok (.iconst 0, 1) := by decide +kernel
theorem dX7_isTooGreat_65 : decode cX7_isTooGreat 65 = .ok (.istore 5, 2) := by decide +kernel
end
section
theorem dX7_isTooGreat_67 : decode cX7_isTooGreat 67 = .ok (.iload 5, 2) := by decide +kernel
theorem dX7_isTooGreat_69 : decode cX7_isTooGreat 69 = .ok (.ifCond .ne 32, 3) := by decide +kernel
theorem dX7_isTooGreat_72 : decode cX7_isTooGreat 72 = .ok (.iload_n 0, 1) := by decide +kernel
theorem dX7_isTooGreat_73 : decode cX7_isTooGreat 73 = .ok (.iload_n 1, 1) := by decide +kernel
theorem dX7_isTooGreat_74 : decode cX7_isTooGreat 74 = .ok (.iload_n 2, 1) := by decide +kernel
theorem dX7_isTooGreat_75 : decode cX7_isTooGreat 75 = .ok (.iload_n 3, 1) := by decide +kernel
theorem dX7_isTooGreat_76 : decode cX7_isTooGreat 76 = .ok (.iload_n 3, 1) := by decide +kernel
theorem dX7_isTooGreat_77 : decode cX7_isTooGreat 77 = .ok (.invokestatic 135, 3) := by decide +kernel
theorem dX7_isTooGreat_80 : decode cX7_isTooGreat 80 = .ok (.invokestatic 143, 3) := by decide +kernel
theorem dX7_isTooGreat_83 : decode cX7_isTooGreat 83 = .ok (.ifCond .ne 18, 3) := by decide +kernel
theorem dX7_isTooGreat_86 : decode cX7_isTooGreat 86 = .ok (.iload_n 0, 1) := by decide +kernel
theorem dX7_isTooGreat_87 : decode cX7_isTooGreat 87 = .ok (.iload_n 1, 1) := by decide +kernel
theorem dX7_isTooGreat_88 : decode cX7_isTooGreat 88 = .ok (.iload_n 2, 1) := by decide +kernel
theorem dX7_isTooGreat_89 : decode cX7_isTooGreat 89 = .ok (.iload_n 3, 1) := by decide +kernel
theorem dX7_isTooGreat_90 : decode cX7_isTooGreat 90 = .ok (.iload 4, 2) := by decide +kernel
theorem dX7_isTooGreat_92 : decode cX7_isTooGreat 92 = .ok (.invokestatic 135, 3) := by decide +kernel
theorem dX7_isTooGreat_95 : decode cX7_isTooGreat 95 = .ok (.invokestatic 143, 3) := by decide +kernel
theorem dX7_isTooGreat_98 : decode cX7_isTooGreat 98 = .ok (.ifCond .eq 7, 3) := by decide +kernel
theorem dX7_isTooGreat_101 : decode cX7_isTooGreat 101 = .ok (.iconst 1, 1) := by decide +kernel
theorem dX7_isTooGreat_102 : decode cX7_isTooGreat 102 = .ok (.goto 4, 3) := by decide +kernel
theorem dX7_isTooGreat_105 : decode cX7_isTooGreat 105 = .ok (.iconst 0, 1) := by decide +kernel
theorem dX7_isTooGreat_106 : decode cX7_isTooGreat 106 = .ok (.ireturn, 1) := by decide +kernel
theorem dX7_isBetter_0 : decode cX7_isBetter 0 = .ok (.aload_n 0, 1) := by decide +kernel
theorem dX7_isBetter_1 : decode cX7_isBetter 1 = .ok (.iload_n 1, 1) := by decide +kernel
theorem dX7_isBetter_2 : decode cX7_isBetter 2 = .ok (.iload_n 3, 1) := by decide +kernel
theorem dX7_isBetter_3 : decode cX7_isBetter 3 = .ok (.invokevirtual 147, 3) := by decide +kernel
theorem dX7_isBetter_6 : decode cX7_isBetter 6 = .ok (.lstore 4, 2) := by decide +kernel
theorem dX7_isBetter_8 : decode cX7_isBetter 8 = .ok (.aload_n 0, 1) := by decide +kernel
theorem dX7_isBetter_9 : decode cX7_isBetter 9 = .ok (.iload_n 2, 1) := by decide +kernel
theorem dX7_isBetter_10 : decode cX7_isBetter 10 = .ok (.iload_n 3, 1) := by decide +kernel
theorem dX7_isBetter_11 : decode cX7_isBetter 11 = .ok (.invokevirtual 147, 3) := by decide +kernel
theorem dX7_isBetter_14 : decode cX7_isBetter 14 = .ok (.lstore 6, 2) := by decide +kernel
theorem dX7_isBetter_16 : decode cX7_isBetter 16 = .ok (.lload 4, 2) := by decide +kernel
theorem dX7_isBetter_18 : decode cX7_isBetter 18 = .ok (.lload 6, 2) := by decide +kernel
theorem dX7_isBetter_20 : decode cX7_isBetter 20 = .ok (.lcmp, 1) := by decide +kernel
theorem dX7_isBetter_21 : decode cX7_isBetter 21 = .ok (.ifCond .lt 16, 3) := by decide +kernel
theorem dX7_isBetter_24 : decode cX7_isBetter 24 = .ok (.lload 4, 2) := by decide +kernel
theorem dX7_isBetter_26 : decode cX7_isBetter 26 = .ok (.lload 6, 2) := by decide +kernel
theorem dX7_isBetter_28 : decode cX7_isBetter 28 = .ok (.lcmp, 1) := by decide +kernel
theorem dX7_isBetter_29 : decode cX7_isBetter 29 = .ok (.ifCond .ne 12, 3) := by decide +kernel
theorem dX7_isBetter_32 : decode cX7_isBetter 32 = .ok (.iload_n 1, 1) := by decide +kernel
theorem dX7_isBetter_33 : decode cX7_isBetter 33 = .ok (.iload_n 2, 1) := by decide +kernel
theorem dX7_isBetter_34 : decode cX7_isBetter 34 = .ok (.if_icmp .ge 7, 3) := by decide +kernel
theorem dX7_isBetter_37 : decode cX7_isBetter 37 = .ok (.iconst 1, 1) := by decide +kernel
theorem dX7_isBetter_38 : decode cX7_isBetter 38 = .ok (.goto 4, 3) := by decide +kernel
theorem dX7_isBetter_41 : decode cX7_isBetter 41 = .ok (.iconst 0, 1) := by decide +kernel
theorem dX7_isBetter_42 : decode cX7_isBetter 42 = .ok (.ireturn, 1) := by decide +kernel
theorem dX7_has_0 : decode cX7_has 0 = .ok (.iload_n 2, 1) := by decide +kernel
theorem dX7_has_1 : decode cX7_has 1 = .ok (.aload_n 0, 1) := by decide +kernel
theorem dX7_has_2 : decode cX7_has 2 = .ok (.getfield 19, 3) := by decide +kernel
theorem dX7_has_5 : decode cX7_has 5 = .ok (.iload_n 1, 1) := by decide +kernel
theorem dX7_has_6 : decode cX7_has 6 = .ok (.iaload, 1) := by decide +kernel
theorem dX7_has_7 : decode cX7_has 7 = .ok (.aload_n 0, 1) := by decide +kernel
theorem dX7_has_8 : decode cX7_has 8 = .ok (.getfield 22, 3) := by decide +kernel
theorem dX7_has_11 : decode cX7_has 11 = .ok (.iload_n 1, 1) := by decide +kernel
theorem dX7_has_12 : decode cX7_has 12 = .ok (.iaload, 1) := by decide +kernel
theorem dX7_has_13 : decode cX7_has 13 = .ok (.invokestatic 68, 3) := by decide +kernel
theorem dX7_has_16 : decode cX7_has 16 = .ok (.ireturn, 1) := by decide +kernel
theorem dX7_lengthOf_0 : decode cX7_lengthOf 0 = .ok (.bipush 64, 2) := by decide +kernel
theorem dX7_lengthOf_2 : decode cX7_lengthOf 2 = .ok (.istore_n 1, 1) := by decide +kernel
theorem dX7_lengthOf_3 : decode cX7_lengthOf 3 = .ok (.iload_n 0, 1) := by decide +kernel
theorem dX7_lengthOf_4 : decode cX7_lengthOf 4 = .ok (.istore_n 2, 1) := by decide +kernel
theorem dX7_lengthOf_5 : decode cX7_lengthOf 5 = .ok (.iload_n 2, 1) := by decide +kernel
theorem dX7_lengthOf_6 : decode cX7_lengthOf 6 = .ok (.iconst 1, 1) := by decide +kernel
theorem dX7_lengthOf_7 : decode cX7_lengthOf 7 = .ok (.if_icmp .le 14, 3) := by decide +kernel
theorem dX7_lengthOf_10 : decode cX7_lengthOf 10 = .ok (.iload_n 1, 1) := by decide +kernel
theorem dX7_lengthOf_11 : decode cX7_lengthOf 11 = .ok (.iconst 2, 1) := by decide +kernel
theorem dX7_lengthOf_12 : decode cX7_lengthOf 12 = .ok (.idiv, 1) := by decide +kernel
theorem dX7_lengthOf_13 : decode cX7_lengthOf 13 = .ok (.istore_n 1, 1) := by decide +kernel
theorem dX7_lengthOf_14 : decode cX7_lengthOf 14 = .ok (.iload_n 2, 1) := by decide +kernel
theorem dX7_lengthOf_15 : decode cX7_lengthOf 15 = .ok (.iconst 2, 1) := by decide +kernel
theorem dX7_lengthOf_16 : decode cX7_lengthOf 16 = .ok (.idiv, 1) := by decide +kernel
theorem dX7_lengthOf_17 : decode cX7_lengthOf 17 = .ok (.istore_n 2, 1) := by decide +kernel
theorem dX7_lengthOf_18 : decode cX7_lengthOf 18 = .ok (.goto (-13), 3) := by decide +kernel
theorem dX7_lengthOf_21 : decode cX7_lengthOf 21 = .ok (.iload_n 1, 1) := by decide +kernel
theorem dX7_lengthOf_22 : decode cX7_lengthOf 22 = .ok (.ireturn, 1) := by decide +kernel
theorem dX7_firstAt_0 : decode cX7_firstAt 0 = .ok (.iload_n 0, 1) := by decide +kernel
theorem dX7_firstAt_1 : decode cX7_firstAt 1 = .ok (.invokestatic 150, 3) := by decide +kernel
theorem dX7_firstAt_4 : decode cX7_firstAt 4 = .ok (.istore_n 1, 1) := by decide +kernel
theorem dX7_firstAt_5 : decode cX7_firstAt 5 = .ok (.iload_n 0, 1) := by decide +kernel
theorem dX7_firstAt_6 : decode cX7_firstAt 6 = .ok (.iload_n 1, 1) := by decide +kernel
theorem dX7_firstAt_7 : decode cX7_firstAt 7 = .ok (.imul, 1) := by decide +kernel
theorem dX7_firstAt_8 : decode cX7_firstAt 8 = .ok (.bipush 64, 2) := by decide +kernel
theorem dX7_firstAt_10 : decode cX7_firstAt 10 = .ok (.isub, 1) := by decide +kernel
theorem dX7_firstAt_11 : decode cX7_firstAt 11 = .ok (.ireturn, 1) := by decide +kernel
theorem dX7_lastAt_0 : decode cX7_lastAt 0 = .ok (.iload_n 0, 1) := by decide +kernel
theorem dX7_lastAt_1 : decode cX7_lastAt 1 = .ok (.invokestatic 153, 3) := by decide +kernel
theorem dX7_lastAt_4 : decode cX7_lastAt 4 = .ok (.iload_n 0, 1) := by decide +kernel
theorem dX7_lastAt_5 : decode cX7_lastAt 5 = .ok (.invokestatic 150, 3) := by decide +kernel
theorem dX7_lastAt_8 : decode cX7_lastAt 8 = .ok (.iadd, 1) := by decide +kernel
theorem dX7_lastAt_9 : decode cX7_lastAt 9 = .ok (.iconst 1, 1) := by decide +kernel
theorem dX7_lastAt_10 : decode cX7_lastAt 10 = .ok (.isub, 1) := by decide +kernel
theorem dX7_lastAt_11 : decode cX7_lastAt 11 = .ok (.ireturn, 1) := by decide +kernel
theorem dX7_middleAt_0 : decode cX7_middleAt 0 = .ok (.iload_n 0, 1) := by decide +kernel
theorem dX7_middleAt_1 : decode cX7_middleAt 1 = .ok (.invokestatic 150, 3) := by decide +kernel
theorem dX7_middleAt_4 : decode cX7_middleAt 4 = .ok (.iconst 1, 1) := by decide +kernel
theorem dX7_middleAt_5 : decode cX7_middleAt 5 = .ok (.if_icmp .ne 10, 3) := by decide +kernel
theorem dX7_middleAt_8 : decode cX7_middleAt 8 = .ok (.iload_n 0, 1) := by decide +kernel
theorem dX7_middleAt_9 : decode cX7_middleAt 9 = .ok (.invokestatic 153, 3) := by decide +kernel
theorem dX7_middleAt_12 : decode cX7_middleAt 12 = .ok (.goto 16, 3) := by decide +kernel
theorem dX7_middleAt_15 : decode cX7_middleAt 15 = .ok (.iload_n 0, 1) := by decide +kernel
theorem dX7_middleAt_16 : decode cX7_middleAt 16 = .ok (.invokestatic 153, 3) := by decide +kernel
theorem dX7_middleAt_19 : decode cX7_middleAt 19 = .ok (.iload_n 0, 1) := by decide +kernel
theorem dX7_middleAt_20 : decode cX7_middleAt 20 = .ok (.invokestatic 150, 3) := by decide +kernel
theorem dX7_middleAt_23 : decode cX7_middleAt 23 = .ok (.iconst 2, 1) := by decide +kernel
theorem dX7_middleAt_24 : decode cX7_middleAt 24 = .ok (.idiv, 1) := by decide +kernel
theorem dX7_middleAt_25 : decode cX7_middleAt 25 = .ok (.iadd, 1) := by decide +kernel
theorem dX7_middleAt_26 : decode cX7_middleAt 26 = .ok (.iconst 1, 1) := by decide +kernel
theorem dX7_middleAt_27 : decode cX7_middleAt 27 = .ok (.isub, 1) := by decide +kernel
theorem dX7_middleAt_28 : decode cX7_middleAt 28 = .ok (.ireturn, 1) := by decide +kernel
theorem dX7_push_0 : decode cX7_push 0 = .ok (.iload_n 1, 1) := by decide +kernel
theorem dX7_push_1 : decode cX7_push 1 = .ok (.istore_n 3, 1) := by decide +kernel
theorem dX7_push_2 : decode cX7_push 2 = .ok (.iload_n 2, 1) := by decide +kernel
theorem dX7_push_3 : decode cX7_push 3 = .ok (.istore 4, 2) := by decide +kernel
theorem dX7_push_5 : decode cX7_push 5 = .ok (.iload 4, 2) := by decide +kernel
theorem dX7_push_7 : decode cX7_push 7 = .ok (.iconst (-1), 1) := by decide +kernel
theorem dX7_push_8 : decode cX7_push 8 = .ok (.if_icmp .eq 168, 3) := by decide +kernel
theorem dX7_push_11 : decode cX7_push 11 = .ok (.aload_n 0, 1) := by decide +kernel
theorem dX7_push_12 : decode cX7_push 12 = .ok (.getfield 25, 3) := by decide +kernel
theorem dX7_push_15 : decode cX7_push 15 = .ok (.iload_n 3, 1) := by decide +kernel
theorem dX7_push_16 : decode cX7_push 16 = .ok (.iaload, 1) := by decide +kernel
theorem dX7_push_17 : decode cX7_push 17 = .ok (.iconst (-1), 1) := by decide +kernel
theorem dX7_push_18 : decode cX7_push 18 = .ok (.if_icmp .ne 17, 3) := by decide +kernel
theorem dX7_push_21 : decode cX7_push 21 = .ok (.aload_n 0, 1) := by decide +kernel
theorem dX7_push_22 : decode cX7_push 22 = .ok (.getfield 25, 3) := by decide +kernel
theorem dX7_push_25 : decode cX7_push 25 = .ok (.iload_n 3, 1) := by decide +kernel
theorem dX7_push_26 : decode cX7_push 26 = .ok (.iload 4, 2) := by decide +kernel
theorem dX7_push_28 : decode cX7_push 28 = .ok (.iastore, 1) := by decide +kernel
theorem dX7_push_29 : decode cX7_push 29 = .ok (.iconst (-1), 1) := by decide +kernel
theorem dX7_push_30 : decode cX7_push 30 = .ok (.istore 4, 2) := by decide +kernel
theorem dX7_push_32 : decode cX7_push 32 = .ok (.goto (-27), 3) := by decide +kernel
theorem dX7_push_35 : decode cX7_push 35 = .ok (.aload_n 0, 1) := by decide +kernel
theorem dX7_push_36 : decode cX7_push 36 = .ok (.getfield 25, 3) := by decide +kernel
theorem dX7_push_39 : decode cX7_push 39 = .ok (.iload_n 3, 1) := by decide +kernel
theorem dX7_push_40 : decode cX7_push 40 = .ok (.iaload, 1) := by decide +kernel
theorem dX7_push_41 : decode cX7_push 41 = .ok (.istore 5, 2) := by decide +kernel
theorem dX7_push_43 : decode cX7_push 43 = .ok (.aload_n 0, 1) := by decide +kernel
theorem dX7_push_44 : decode cX7_push 44 = .ok (.iload 4, 2) := by decide +kernel
theorem dX7_push_46 : decode cX7_push 46 = .ok (.iload 5, 2) := by decide +kernel
theorem dX7_push_48 : decode cX7_push 48 = .ok (.iload_n 3, 1) := by decide +kernel
theorem dX7_push_49 : decode cX7_push 49 = .ok (.invokestatic 156, 3) := by decide +kernel
theorem dX7_push_52 : decode cX7_push 52 = .ok (.invokevirtual 159, 3) := by decide +kernel
theorem dX7_push_55 : decode cX7_push 55 = .ok (.istore 6, 2) := by decide +kernel
theorem dX7_push_57 : decode cX7_push 57 = .ok (.aload_n 0, 1) := by decide +kernel
theorem dX7_push_58 : decode cX7_push 58 = .ok (.getfield 25, 3) := by decide +kernel
theorem dX7_push_61 : decode cX7_push 61 = .ok (.iload_n 3, 1) := by decide +kernel
theorem dX7_push_62 : decode cX7_push 62 = .ok (.iload 6, 2) := by decide +kernel
theorem dX7_push_64 : decode cX7_push 64 = .ok (.ifCond .eq 8, 3) := by decide +kernel
theorem dX7_push_67 : decode cX7_push 67 = .ok (.iload 4, 2) := by decide +kernel
theorem dX7_push_69 : decode cX7_push 69 = .ok (.goto 5, 3) := by decide +kernel
theorem dX7_push_72 : decode cX7_push 72 = .ok (.iload 5, 2) := by decide +kernel
theorem dX7_push_74 : decode cX7_push 74 = .ok (.iastore, 1) := by decide +kernel
theorem dX7_push_75 : decode cX7_push 75 = .ok (.iload 6, 2) := by decide +kernel
theorem dX7_push_77 : decode cX7_push 77 = .ok (.ifCond .eq 8, 3) := by decide +kernel
theorem dX7_push_80 : decode cX7_push 80 = .ok (.iload 5, 2) := by decide +kernel
theorem dX7_push_82 : decode cX7_push 82 = .ok (.goto 5, 3) := by decide +kernel
theorem dX7_push_85 : decode cX7_push 85 = .ok (.iload 4, 2) := by decide +kernel
theorem dX7_push_87 : decode cX7_push 87 = .ok (.istore 4, 2) := by decide +kernel
theorem dX7_push_89 : decode cX7_push 89 = .ok (.aload_n 0, 1) := by decide +kernel
theorem dX7_push_90 : decode cX7_push 90 = .ok (.iload 4, 2) := by decide +kernel
theorem dX7_push_92 : decode cX7_push 92 = .ok (.aload_n 0, 1) := by decide +kernel
theorem dX7_push_93 : decode cX7_push 93 = .ok (.getfield 25, 3) := by decide +kernel
theorem dX7_push_96 : decode cX7_push 96 = .ok (.iload_n 3, 1) := by decide +kernel
theorem dX7_push_97 : decode cX7_push 97 = .ok (.iaload, 1) := by decide +kernel
theorem dX7_push_98 : decode cX7_push 98 = .ok (.iload_n 3, 1) := by decide +kernel
theorem dX7_push_99 : decode cX7_push 99 = .ok (.invokestatic 153, 3) := by decide +kernel
theorem dX7_push_102 : decode cX7_push 102 = .ok (.invokevirtual 159, 3) := by decide +kernel
theorem dX7_push_105 : decode cX7_push 105 = .ok (.istore 7, 2) := by decide +kernel
theorem dX7_push_107 : decode cX7_push 107 = .ok (.iload 7, 2) := by decide +kernel
theorem dX7_push_109 : decode cX7_push 109 = .ok (.ifCond .ne 26, 3) := by decide +kernel
theorem dX7_push_112 : decode cX7_push 112 = .ok (.aload_n 0, 1) := by decide +kernel
theorem dX7_push_113 : decode cX7_push 113 = .ok (.iload 4, 2) := by decide +kernel
theorem dX7_push_115 : decode cX7_push 115 = .ok (.aload_n 0, 1) := by decide +kernel
theorem dX7_push_116 : decode cX7_push 116 = .ok (.getfield 25, 3) := by decide +kernel
theorem dX7_push_119 : decode cX7_push 119 = .ok (.iload_n 3, 1) := by decide +kernel
theorem dX7_push_120 : decode cX7_push 120 = .ok (.iaload, 1) := by decide +kernel
theorem dX7_push_121 : decode cX7_push 121 = .ok (.iload_n 3, 1) := by decide +kernel
theorem dX7_push_122 : decode cX7_push 122 = .ok (.invokestatic 162, 3) := by decide +kernel
theorem dX7_push_125 : decode cX7_push 125 = .ok (.invokevirtual 159, 3) := by decide +kernel
theorem dX7_push_128 : decode cX7_push 128 = .ok (.ifCond .eq 7, 3) := by decide +kernel
theorem dX7_push_131 : decode cX7_push 131 = .ok (.iconst 1, 1) := by decide +kernel
theorem dX7_push_132 : decode cX7_push 132 = .ok (.goto 4, 3) := by decide +kernel
theorem dX7_push_135 : decode cX7_push 135 = .ok (.iconst 0, 1) := by decide +kernel
theorem dX7_push_136 : decode cX7_push 136 = .ok (.istore 8, 2) := by decide +kernel
theorem dX7_push_138 : decode cX7_push 138 = .ok (.iload 7, 2) := by decide +kernel
theorem dX7_push_140 : decode cX7_push 140 = .ok (.ifCond .ne 8, 3) := by decide +kernel
theorem dX7_push_143 : decode cX7_push 143 = .ok (.iload 8, 2) := by decide +kernel
theorem dX7_push_145 : decode cX7_push 145 = .ok (.ifCond .eq 8, 3) := by decide +kernel
theorem dX7_push_148 : decode cX7_push 148 = .ok (.iload 4, 2) := by decide +kernel
theorem dX7_push_150 : decode cX7_push 150 = .ok (.goto 4, 3) := by decide +kernel
theorem dX7_push_153 : decode cX7_push 153 = .ok (.iconst (-1), 1) := by decide +kernel
theorem dX7_push_154 : decode cX7_push 154 = .ok (.istore 4, 2) := by decide +kernel
theorem dX7_push_156 : decode cX7_push 156 = .ok (.iload 7, 2) := by decide +kernel
theorem dX7_push_158 : decode cX7_push 158 = .ok (.ifCond .eq 9, 3) := by decide +kernel
theorem dX7_push_161 : decode cX7_push 161 = .ok (.iconst 2, 1) := by decide +kernel
theorem dX7_push_162 : decode cX7_push 162 = .ok (.iload_n 3, 1) := by decide +kernel
theorem dX7_push_163 : decode cX7_push 163 = .ok (.imul, 1) := by decide +kernel
theorem dX7_push_164 : decode cX7_push 164 = .ok (.goto 8, 3) := by decide +kernel
theorem dX7_push_167 : decode cX7_push 167 = .ok (.iconst 2, 1) := by decide +kernel
theorem dX7_push_168 : decode cX7_push 168 = .ok (.iload_n 3, 1) := by decide +kernel
theorem dX7_push_169 : decode cX7_push 169 = .ok (.imul, 1) := by decide +kernel
theorem dX7_push_170 : decode cX7_push 170 = .ok (.iconst 1, 1) := by decide +kernel
theorem dX7_push_171 : decode cX7_push 171 = .ok (.iadd, 1) := by decide +kernel
theorem dX7_push_172 : decode cX7_push 172 = .ok (.istore_n 3, 1) := by decide +kernel
theorem dX7_push_173 : decode cX7_push 173 = .ok (.goto (-168), 3) := by decide +kernel
theorem dX7_push_176 : decode cX7_push 176 = .ok (.return_, 1) := by decide +kernel
theorem dX7_isAll_0 : decode cX7_isAll 0 = .ok (.iload_n 1, 1) := by decide +kernel
theorem dX7_isAll_1 : decode cX7_isAll 1 = .ok (.ifCond .le 33, 3) := by decide +kernel
theorem dX7_isAll_4 : decode cX7_isAll 4 = .ok (.iload_n 1, 1) := by decide +kernel
theorem dX7_isAll_5 : decode cX7_isAll 5 = .ok (.invokestatic 153, 3) := by decide +kernel
theorem dX7_isAll_8 : decode cX7_isAll 8 = .ok (.aload_n 0, 1) := by decide +kernel
theorem dX7_isAll_9 : decode cX7_isAll 9 = .ok (.getfield 19, 3) := by decide +kernel
theorem dX7_isAll_12 : decode cX7_isAll 12 = .ok (.iload_n 2, 1) := by decide +kernel
theorem dX7_isAll_13 : decode cX7_isAll 13 = .ok (.iaload, 1) := by decide +kernel
theorem dX7_isAll_14 : decode cX7_isAll 14 = .ok (.if_icmp .lt 20, 3) := by decide +kernel
theorem dX7_isAll_17 : decode cX7_isAll 17 = .ok (.iload_n 1, 1) := by decide +kernel
theorem dX7_isAll_18 : decode cX7_isAll 18 = .ok (.invokestatic 162, 3) := by decide +kernel
theorem dX7_isAll_21 : decode cX7_isAll 21 = .ok (.aload_n 0, 1) := by decide +kernel
theorem dX7_isAll_22 : decode cX7_isAll 22 = .ok (.getfield 22, 3) := by decide +kernel
theorem dX7_isAll_25 : decode cX7_isAll 25 = .ok (.iload_n 2, 1) := by decide +kernel
theorem dX7_isAll_26 : decode cX7_isAll 26 = .ok (.iaload, 1) := by decide +kernel
theorem dX7_isAll_27 : decode cX7_isAll 27 = .ok (.if_icmp .gt 7, 3) := by decide +kernel
theorem dX7_isAll_30 : decode cX7_isAll 30 = .ok (.iconst 1, 1) := by decide +kernel
theorem dX7_isAll_31 : decode cX7_isAll 31 = .ok (.goto 4, 3) := by decide +kernel
theorem dX7_isAll_34 : decode cX7_isAll 34 = .ok (.iconst 0, 1) := by decide +kernel
theorem dX7_isAll_35 : decode cX7_isAll 35 = .ok (.ireturn, 1) := by decide +kernel
theorem dX7_offerNow_0 : decode cX7_offerNow 0 = .ok (.aload_n 0, 1) := by decide +kernel
theorem dX7_offerNow_1 : decode cX7_offerNow 1 = .ok (.getfield 19, 3) := by decide +kernel
theorem dX7_offerNow_4 : decode cX7_offerNow 4 = .ok (.iload_n 1, 1) := by decide +kernel
theorem dX7_offerNow_5 : decode cX7_offerNow 5 = .ok (.iaload, 1) := by decide +kernel
theorem dX7_offerNow_6 : decode cX7_offerNow 6 = .ok (.istore_n 2, 1) := by decide +kernel
theorem dX7_offerNow_7 : decode cX7_offerNow 7 = .ok (.iload_n 2, 1) := by decide +kernel
theorem dX7_offerNow_8 : decode cX7_offerNow 8 = .ok (.aload_n 0, 1) := by decide +kernel
theorem dX7_offerNow_9 : decode cX7_offerNow 9 = .ok (.getfield 22, 3) := by decide +kernel
theorem dX7_offerNow_12 : decode cX7_offerNow 12 = .ok (.iload_n 1, 1) := by decide +kernel
theorem dX7_offerNow_13 : decode cX7_offerNow 13 = .ok (.iaload, 1) := by decide +kernel
theorem dX7_offerNow_14 : decode cX7_offerNow 14 = .ok (.if_icmp .gt 42, 3) := by decide +kernel
theorem dX7_offerNow_17 : decode cX7_offerNow 17 = .ok (.bipush 64, 2) := by decide +kernel
theorem dX7_offerNow_19 : decode cX7_offerNow 19 = .ok (.iload_n 2, 1) := by decide +kernel
theorem dX7_offerNow_20 : decode cX7_offerNow 20 = .ok (.iadd, 1) := by decide +kernel
theorem dX7_offerNow_21 : decode cX7_offerNow 21 = .ok (.istore_n 3, 1) := by decide +kernel
theorem dX7_offerNow_22 : decode cX7_offerNow 22 = .ok (.aload_n 0, 1) := by decide +kernel
theorem dX7_offerNow_23 : decode cX7_offerNow 23 = .ok (.iload_n 3, 1) := by decide +kernel
theorem dX7_offerNow_24 : decode cX7_offerNow 24 = .ok (.iconst 2, 1) := by decide +kernel
theorem dX7_offerNow_25 : decode cX7_offerNow 25 = .ok (.idiv, 1) := by decide +kernel
theorem dX7_offerNow_26 : decode cX7_offerNow 26 = .ok (.iload_n 1, 1) := by decide +kernel
theorem dX7_offerNow_27 : decode cX7_offerNow 27 = .ok (.invokevirtual 165, 3) := by decide +kernel
theorem dX7_offerNow_30 : decode cX7_offerNow 30 = .ok (.ifCond .eq 10, 3) := by decide +kernel
theorem dX7_offerNow_33 : decode cX7_offerNow 33 = .ok (.iload_n 3, 1) := by decide +kernel
theorem dX7_offerNow_34 : decode cX7_offerNow 34 = .ok (.iconst 2, 1) := by decide +kernel
theorem dX7_offerNow_35 : decode cX7_offerNow 35 = .ok (.idiv, 1) := by decide +kernel
theorem dX7_offerNow_36 : decode cX7_offerNow 36 = .ok (.istore_n 3, 1) := by decide +kernel
theorem dX7_offerNow_37 : decode cX7_offerNow 37 = .ok (.goto (-15), 3) := by decide +kernel
theorem dX7_offerNow_40 : decode cX7_offerNow 40 = .ok (.aload_n 0, 1) := by decide +kernel
theorem dX7_offerNow_41 : decode cX7_offerNow 41 = .ok (.iload_n 3, 1) := by decide +kernel
theorem dX7_offerNow_42 : decode cX7_offerNow 42 = .ok (.iload_n 1, 1) := by decide +kernel
theorem dX7_offerNow_43 : decode cX7_offerNow 43 = .ok (.invokevirtual 168, 3) := by decide +kernel
theorem dX7_offerNow_46 : decode cX7_offerNow 46 = .ok (.iload_n 3, 1) := by decide +kernel
theorem dX7_offerNow_47 : decode cX7_offerNow 47 = .ok (.invokestatic 162, 3) := by decide +kernel
theorem dX7_offerNow_50 : decode cX7_offerNow 50 = .ok (.iconst 1, 1) := by decide +kernel
theorem dX7_offerNow_51 : decode cX7_offerNow 51 = .ok (.iadd, 1) := by decide +kernel
theorem dX7_offerNow_52 : decode cX7_offerNow 52 = .ok (.istore_n 2, 1) := by decide +kernel
theorem dX7_offerNow_53 : decode cX7_offerNow 53 = .ok (.goto (-46), 3) := by decide +kernel
theorem dX7_offerNow_56 : decode cX7_offerNow 56 = .ok (.return_, 1) := by decide +kernel
theorem dX7_take_0 : decode cX7_take 0 = .ok (.aload_n 0, 1) := by decide +kernel
theorem dX7_take_1 : decode cX7_take 1 = .ok (.getfield 7, 3) := by decide +kernel
theorem dX7_take_4 : decode cX7_take 4 = .ok (.aload_n 0, 1) := by decide +kernel
theorem dX7_take_5 : decode cX7_take 5 = .ok (.getfield 108, 3) := by decide +kernel
theorem dX7_take_8 : decode cX7_take 8 = .ok (.iload_n 1, 1) := by decide +kernel
theorem dX7_take_9 : decode cX7_take 9 = .ok (.iastore, 1) := by decide +kernel
theorem dX7_take_10 : decode cX7_take 10 = .ok (.aload_n 0, 1) := by decide +kernel
theorem dX7_take_11 : decode cX7_take 11 = .ok (.getfield 13, 3) := by decide +kernel
theorem dX7_take_14 : decode cX7_take 14 = .ok (.aload_n 0, 1) := by decide +kernel
theorem dX7_take_15 : decode cX7_take 15 = .ok (.getfield 108, 3) := by decide +kernel
theorem dX7_take_18 : decode cX7_take 18 = .ok (.iload_n 2, 1) := by decide +kernel
theorem dX7_take_19 : decode cX7_take 19 = .ok (.iastore, 1) := by decide +kernel
theorem dX7_take_20 : decode cX7_take 20 = .ok (.aload_n 0, 1) := by decide +kernel
theorem dX7_take_21 : decode cX7_take 21 = .ok (.getfield 16, 3) := by decide +kernel
theorem dX7_take_24 : decode cX7_take 24 = .ok (.aload_n 0, 1) := by decide +kernel
theorem dX7_take_25 : decode cX7_take 25 = .ok (.getfield 108, 3) := by decide +kernel
theorem dX7_take_28 : decode cX7_take 28 = .ok (.iload_n 3, 1) := by decide +kernel
theorem dX7_take_29 : decode cX7_take 29 = .ok (.iastore, 1) := by decide +kernel
theorem dX7_take_30 : decode cX7_take 30 = .ok (.aload_n 0, 1) := by decide +kernel
theorem dX7_take_31 : decode cX7_take 31 = .ok (.getfield 19, 3) := by decide +kernel
theorem dX7_take_34 : decode cX7_take 34 = .ok (.aload_n 0, 1) := by decide +kernel
theorem dX7_take_35 : decode cX7_take 35 = .ok (.getfield 108, 3) := by decide +kernel
theorem dX7_take_38 : decode cX7_take 38 = .ok (.iload 4, 2) := by decide +kernel
theorem dX7_take_40 : decode cX7_take 40 = .ok (.iastore, 1) := by decide +kernel
theorem dX7_take_41 : decode cX7_take 41 = .ok (.aload_n 0, 1) := by decide +kernel
theorem dX7_take_42 : decode cX7_take 42 = .ok (.getfield 22, 3) := by decide +kernel
theorem dX7_take_45 : decode cX7_take 45 = .ok (.aload_n 0, 1) := by decide +kernel
theorem dX7_take_46 : decode cX7_take 46 = .ok (.getfield 108, 3) := by decide +kernel
theorem dX7_take_49 : decode cX7_take 49 = .ok (.iload 5, 2) := by decide +kernel
theorem dX7_take_51 : decode cX7_take 51 = .ok (.iastore, 1) := by decide +kernel
theorem dX7_take_52 : decode cX7_take 52 = .ok (.aload_n 0, 1) := by decide +kernel
theorem dX7_take_53 : decode cX7_take 53 = .ok (.dup, 1) := by decide +kernel
theorem dX7_take_54 : decode cX7_take 54 = .ok (.getfield 108, 3) := by decide +kernel
theorem dX7_take_57 : decode cX7_take 57 = .ok (.iconst 1, 1) := by decide +kernel
theorem dX7_take_58 : decode cX7_take 58 = .ok (.iadd, 1) := by decide +kernel
theorem dX7_take_59 : decode cX7_take 59 = .ok (.putfield 108, 3) := by decide +kernel
theorem dX7_take_62 : decode cX7_take 62 = .ok (.aload_n 0, 1) := by decide +kernel
theorem dX7_take_63 : decode cX7_take 63 = .ok (.aload_n 0, 1) := by decide +kernel
theorem dX7_take_64 : decode cX7_take 64 = .ok (.getfield 108, 3) := by decide +kernel
theorem dX7_take_67 : decode cX7_take 67 = .ok (.iconst 1, 1) := by decide +kernel
theorem dX7_take_68 : decode cX7_take 68 = .ok (.isub, 1) := by decide +kernel
theorem dX7_take_69 : decode cX7_take 69 = .ok (.invokevirtual 172, 3) := by decide +kernel
theorem dX7_take_72 : decode cX7_take 72 = .ok (.return_, 1) := by decide +kernel
theorem dX7_again_0 : decode cX7_again 0 = .ok (.aload_n 0, 1) := by decide +kernel
theorem dX7_again_1 : decode cX7_again 1 = .ok (.iload_n 1, 1) := by decide +kernel
theorem dX7_again_2 : decode cX7_again 2 = .ok (.putfield 108, 3) := by decide +kernel
theorem dX7_again_5 : decode cX7_again 5 = .ok (.iconst 0, 1) := by decide +kernel
theorem dX7_again_6 : decode cX7_again 6 = .ok (.istore_n 2, 1) := by decide +kernel
theorem dX7_again_7 : decode cX7_again 7 = .ok (.iload_n 2, 1) := by decide +kernel
theorem dX7_again_8 : decode cX7_again 8 = .ok (.sipush 128, 3) := by decide +kernel
theorem dX7_again_11 : decode cX7_again 11 = .ok (.if_icmp .ge 16, 3) := by decide +kernel
theorem dX7_again_14 : decode cX7_again 14 = .ok (.aload_n 0, 1) := by decide +kernel
theorem dX7_again_15 : decode cX7_again 15 = .ok (.getfield 25, 3) := by decide +kernel
theorem dX7_again_18 : decode cX7_again 18 = .ok (.iload_n 2, 1) := by decide +kernel
theorem dX7_again_19 : decode cX7_again 19 = .ok (.iconst (-1), 1) := by decide +kernel
theorem dX7_again_20 : decode cX7_again 20 = .ok (.iastore, 1) := by decide +kernel
theorem dX7_again_21 : decode cX7_again 21 = .ok (.iinc 2 1, 3) := by decide +kernel
theorem dX7_again_24 : decode cX7_again 24 = .ok (.goto (-17), 3) := by decide +kernel
theorem dX7_again_27 : decode cX7_again 27 = .ok (.iconst 0, 1) := by decide +kernel
theorem dX7_again_28 : decode cX7_again 28 = .ok (.istore_n 2, 1) := by decide +kernel
theorem dX7_again_29 : decode cX7_again 29 = .ok (.iload_n 2, 1) := by decide +kernel
theorem dX7_again_30 : decode cX7_again 30 = .ok (.iload_n 1, 1) := by decide +kernel
theorem dX7_again_31 : decode cX7_again 31 = .ok (.if_icmp .ge 14, 3) := by decide +kernel
theorem dX7_again_34 : decode cX7_again 34 = .ok (.aload_n 0, 1) := by decide +kernel
theorem dX7_again_35 : decode cX7_again 35 = .ok (.iload_n 2, 1) := by decide +kernel
theorem dX7_again_36 : decode cX7_again 36 = .ok (.invokevirtual 172, 3) := by decide +kernel
theorem dX7_again_39 : decode cX7_again 39 = .ok (.iinc 2 1, 3) := by decide +kernel
theorem dX7_again_42 : decode cX7_again 42 = .ok (.goto (-13), 3) := by decide +kernel
theorem dX7_again_45 : decode cX7_again 45 = .ok (.return_, 1) := by decide +kernel
theorem dX7_cheapestFor_0 : decode cX7_cheapestFor 0 = .ok (.iconst (-1), 1) := by decide +kernel
theorem dX7_cheapestFor_1 : decode cX7_cheapestFor 1 = .ok (.istore_n 2, 1) := by decide +kernel
theorem dX7_cheapestFor_2 : decode cX7_cheapestFor 2 = .ok (.bipush 64, 2) := by decide +kernel
theorem dX7_cheapestFor_4 : decode cX7_cheapestFor 4 = .ok (.iload_n 1, 1) := by decide +kernel
theorem dX7_cheapestFor_5 : decode cX7_cheapestFor 5 = .ok (.iadd, 1) := by decide +kernel
theorem dX7_cheapestFor_6 : decode cX7_cheapestFor 6 = .ok (.istore_n 3, 1) := by decide +kernel
theorem dX7_cheapestFor_7 : decode cX7_cheapestFor 7 = .ok (.iload_n 3, 1) := by decide +kernel
theorem dX7_cheapestFor_8 : decode cX7_cheapestFor 8 = .ok (.ifCond .le 47, 3) := by decide +kernel
theorem dX7_cheapestFor_11 : decode cX7_cheapestFor 11 = .ok (.aload_n 0, 1) := by decide +kernel
theorem dX7_cheapestFor_12 : decode cX7_cheapestFor 12 = .ok (.getfield 25, 3) := by decide +kernel
theorem dX7_cheapestFor_15 : decode cX7_cheapestFor 15 = .ok (.iload_n 3, 1) := by decide +kernel
theorem dX7_cheapestFor_16 : decode cX7_cheapestFor 16 = .ok (.iaload, 1) := by decide +kernel
theorem dX7_cheapestFor_17 : decode cX7_cheapestFor 17 = .ok (.istore 4, 2) := by decide +kernel
theorem dX7_cheapestFor_19 : decode cX7_cheapestFor 19 = .ok (.iload 4, 2) := by decide +kernel
theorem dX7_cheapestFor_21 : decode cX7_cheapestFor 21 = .ok (.iconst (-1), 1) := by decide +kernel
theorem dX7_cheapestFor_22 : decode cX7_cheapestFor 22 = .ok (.if_icmp .eq 24, 3) := by decide +kernel
theorem dX7_cheapestFor_25 : decode cX7_cheapestFor 25 = .ok (.iload_n 2, 1) := by decide +kernel
theorem dX7_cheapestFor_26 : decode cX7_cheapestFor 26 = .ok (.iconst (-1), 1) := by decide +kernel
theorem dX7_cheapestFor_27 : decode cX7_cheapestFor 27 = .ok (.if_icmp .eq 14, 3) := by decide +kernel
theorem dX7_cheapestFor_30 : decode cX7_cheapestFor 30 = .ok (.aload_n 0, 1) := by decide +kernel
theorem dX7_cheapestFor_31 : decode cX7_cheapestFor 31 = .ok (.iload 4, 2) := by decide +kernel
theorem dX7_cheapestFor_33 : decode cX7_cheapestFor 33 = .ok (.iload_n 2, 1) := by decide +kernel
theorem dX7_cheapestFor_34 : decode cX7_cheapestFor 34 = .ok (.iload_n 1, 1) := by decide +kernel
theorem dX7_cheapestFor_35 : decode cX7_cheapestFor 35 = .ok (.invokevirtual 159, 3) := by decide +kernel
theorem dX7_cheapestFor_38 : decode cX7_cheapestFor 38 = .ok (.ifCond .eq 8, 3) := by decide +kernel
theorem dX7_cheapestFor_41 : decode cX7_cheapestFor 41 = .ok (.iload 4, 2) := by decide +kernel
theorem dX7_cheapestFor_43 : decode cX7_cheapestFor 43 = .ok (.goto 4, 3) := by decide +kernel
theorem dX7_cheapestFor_46 : decode cX7_cheapestFor 46 = .ok (.iload_n 2, 1) := by decide +kernel
theorem dX7_cheapestFor_47 : decode cX7_cheapestFor 47 = .ok (.istore_n 2, 1) := by decide +kernel
theorem dX7_cheapestFor_48 : decode cX7_cheapestFor 48 = .ok (.iload_n 3, 1) := by decide +kernel
theorem dX7_cheapestFor_49 : decode cX7_cheapestFor 49 = .ok (.iconst 2, 1) := by decide +kernel
theorem dX7_cheapestFor_50 : decode cX7_cheapestFor 50 = .ok (.idiv, 1) := by decide +kernel
theorem dX7_cheapestFor_51 : decode cX7_cheapestFor 51 = .ok (.istore_n 3, 1) := by decide +kernel
theorem dX7_cheapestFor_52 : decode cX7_cheapestFor 52 = .ok (.goto (-45), 3) := by decide +kernel
theorem dX7_cheapestFor_55 : decode cX7_cheapestFor 55 = .ok (.iload_n 2, 1) := by decide +kernel
theorem dX7_cheapestFor_56 : decode cX7_cheapestFor 56 = .ok (.ireturn, 1) := by decide +kernel
theorem dX7_nodesOf_0 : decode cX7_nodesOf 0 = .ok (.iconst 0, 1) := by decide +kernel
theorem dX7_nodesOf_1 : decode cX7_nodesOf 1 = .ok (.istore_n 2, 1) := by decide +kernel
theorem dX7_nodesOf_2 : decode cX7_nodesOf 2 = .ok (.iconst 1, 1) := by decide +kernel
theorem dX7_nodesOf_3 : decode cX7_nodesOf 3 = .ok (.istore_n 3, 1) := by decide +kernel
theorem dX7_nodesOf_4 : decode cX7_nodesOf 4 = .ok (.iload_n 3, 1) := by decide +kernel
theorem dX7_nodesOf_5 : decode cX7_nodesOf 5 = .ok (.sipush 128, 3) := by decide +kernel
theorem dX7_nodesOf_8 : decode cX7_nodesOf 8 = .ok (.if_icmp .ge 27, 3) := by decide +kernel
theorem dX7_nodesOf_11 : decode cX7_nodesOf 11 = .ok (.iload_n 2, 1) := by decide +kernel
theorem dX7_nodesOf_12 : decode cX7_nodesOf 12 = .ok (.aload_n 0, 1) := by decide +kernel
theorem dX7_nodesOf_13 : decode cX7_nodesOf 13 = .ok (.getfield 25, 3) := by decide +kernel
theorem dX7_nodesOf_16 : decode cX7_nodesOf 16 = .ok (.iload_n 3, 1) := by decide +kernel
theorem dX7_nodesOf_17 : decode cX7_nodesOf 17 = .ok (.iaload, 1) := by decide +kernel
theorem dX7_nodesOf_18 : decode cX7_nodesOf 18 = .ok (.iload_n 1, 1) := by decide +kernel
theorem dX7_nodesOf_19 : decode cX7_nodesOf 19 = .ok (.if_icmp .ne 7, 3) := by decide +kernel
theorem dX7_nodesOf_22 : decode cX7_nodesOf 22 = .ok (.iconst 1, 1) := by decide +kernel
theorem dX7_nodesOf_23 : decode cX7_nodesOf 23 = .ok (.goto 4, 3) := by decide +kernel
theorem dX7_nodesOf_26 : decode cX7_nodesOf 26 = .ok (.iconst 0, 1) := by decide +kernel
theorem dX7_nodesOf_27 : decode cX7_nodesOf 27 = .ok (.iadd, 1) := by decide +kernel
theorem dX7_nodesOf_28 : decode cX7_nodesOf 28 = .ok (.istore_n 2, 1) := by decide +kernel
theorem dX7_nodesOf_29 : decode cX7_nodesOf 29 = .ok (.iinc 3 1, 3) := by decide +kernel
theorem dX7_nodesOf_32 : decode cX7_nodesOf 32 = .ok (.goto (-28), 3) := by decide +kernel
theorem dX7_nodesOf_35 : decode cX7_nodesOf 35 = .ok (.iload_n 2, 1) := by decide +kernel
theorem dX7_nodesOf_36 : decode cX7_nodesOf 36 = .ok (.ireturn, 1) := by decide +kernel
theorem dX7_quantitiesOf_0 : decode cX7_quantitiesOf 0 = .ok (.iconst 0, 1) := by decide +kernel
theorem dX7_quantitiesOf_1 : decode cX7_quantitiesOf 1 = .ok (.istore_n 2, 1) := by decide +kernel
theorem dX7_quantitiesOf_2 : decode cX7_quantitiesOf 2 = .ok (.iconst 0, 1) := by decide +kernel
theorem dX7_quantitiesOf_3 : decode cX7_quantitiesOf 3 = .ok (.istore_n 3, 1) := by decide +kernel
theorem dX7_quantitiesOf_4 : decode cX7_quantitiesOf 4 = .ok (.iload_n 3, 1) := by decide +kernel
theorem dX7_quantitiesOf_5 : decode cX7_quantitiesOf 5 = .ok (.bipush 64, 2) := by decide +kernel
theorem dX7_quantitiesOf_7 : decode cX7_quantitiesOf 7 = .ok (.if_icmp .ge 26, 3) := by decide +kernel
theorem dX7_quantitiesOf_10 : decode cX7_quantitiesOf 10 = .ok (.iload_n 2, 1) := by decide +kernel
theorem dX7_quantitiesOf_11 : decode cX7_quantitiesOf 11 = .ok (.aload_n 0, 1) := by decide +kernel
theorem dX7_quantitiesOf_12 : decode cX7_quantitiesOf 12 = .ok (.iload_n 3, 1) := by decide +kernel
theorem dX7_quantitiesOf_13 : decode cX7_quantitiesOf 13 = .ok (.invokevirtual 176, 3) := by decide +kernel
theorem dX7_quantitiesOf_16 : decode cX7_quantitiesOf 16 = .ok (.iload_n 1, 1) := by decide +kernel
theorem dX7_quantitiesOf_17 : decode cX7_quantitiesOf 17 = .ok (.if_icmp .ne 7, 3) := by decide +kernel
theorem dX7_quantitiesOf_20 : decode cX7_quantitiesOf 20 = .ok (.iconst 1, 1) := by decide +kernel
theorem dX7_quantitiesOf_21 : decode cX7_quantitiesOf 21 = .ok (.goto 4, 3) := by decide +kernel
theorem dX7_quantitiesOf_24 : decode cX7_quantitiesOf 24 = .ok (.iconst 0, 1) := by decide +kernel
theorem dX7_quantitiesOf_25 : decode cX7_quantitiesOf 25 = .ok (.iadd, 1) := by decide +kernel
theorem dX7_quantitiesOf_26 : decode cX7_quantitiesOf 26 = .ok (.istore_n 2, 1) := by decide +kernel
theorem dX7_quantitiesOf_27 : decode cX7_quantitiesOf 27 = .ok (.iinc 3 1, 3) := by decide +kernel
theorem dX7_quantitiesOf_30 : decode cX7_quantitiesOf 30 = .ok (.goto (-26), 3) := by decide +kernel
theorem dX7_quantitiesOf_33 : decode cX7_quantitiesOf 33 = .ok (.iload_n 2, 1) := by decide +kernel
theorem dX7_quantitiesOf_34 : decode cX7_quantitiesOf 34 = .ok (.ireturn, 1) := by decide +kernel
theorem dX7_tariffNow_0 : decode cX7_tariffNow 0 = .ok (.iload_n 2, 1) := by decide +kernel
theorem dX7_tariffNow_1 : decode cX7_tariffNow 1 = .ok (.tableswitch 78 0 5 #[39, 46, 53, 60, 66, 72], 39) := by decide +kernel
theorem dX7_tariffNow_40 : decode cX7_tariffNow 40 = .ok (.aload_n 0, 1) := by decide +kernel
theorem dX7_tariffNow_41 : decode cX7_tariffNow 41 = .ok (.getfield 7, 3) := by decide +kernel
theorem dX7_tariffNow_44 : decode cX7_tariffNow 44 = .ok (.iload_n 1, 1) := by decide +kernel
theorem dX7_tariffNow_45 : decode cX7_tariffNow 45 = .ok (.iaload, 1) := by decide +kernel
theorem dX7_tariffNow_46 : decode cX7_tariffNow 46 = .ok (.ireturn, 1) := by decide +kernel
theorem dX7_tariffNow_47 : decode cX7_tariffNow 47 = .ok (.aload_n 0, 1) := by decide +kernel
theorem dX7_tariffNow_48 : decode cX7_tariffNow 48 = .ok (.getfield 19, 3) := by decide +kernel
theorem dX7_tariffNow_51 : decode cX7_tariffNow 51 = .ok (.iload_n 1, 1) := by decide +kernel
theorem dX7_tariffNow_52 : decode cX7_tariffNow 52 = .ok (.iaload, 1) := by decide +kernel
theorem dX7_tariffNow_53 : decode cX7_tariffNow 53 = .ok (.ireturn, 1) := by decide +kernel
theorem dX7_tariffNow_54 : decode cX7_tariffNow 54 = .ok (.aload_n 0, 1) := by decide +kernel
theorem dX7_tariffNow_55 : decode cX7_tariffNow 55 = .ok (.getfield 22, 3) := by decide +kernel
theorem dX7_tariffNow_58 : decode cX7_tariffNow 58 = .ok (.iload_n 1, 1) := by decide +kernel
theorem dX7_tariffNow_59 : decode cX7_tariffNow 59 = .ok (.iaload, 1) := by decide +kernel
theorem dX7_tariffNow_60 : decode cX7_tariffNow 60 = .ok (.ireturn, 1) := by decide +kernel
theorem dX7_tariffNow_61 : decode cX7_tariffNow 61 = .ok (.aload_n 0, 1) := by decide +kernel
theorem dX7_tariffNow_62 : decode cX7_tariffNow 62 = .ok (.iload_n 1, 1) := by decide +kernel
theorem dX7_tariffNow_63 : decode cX7_tariffNow 63 = .ok (.invokevirtual 179, 3) := by decide +kernel
theorem dX7_tariffNow_66 : decode cX7_tariffNow 66 = .ok (.ireturn, 1) := by decide +kernel
theorem dX7_tariffNow_67 : decode cX7_tariffNow 67 = .ok (.aload_n 0, 1) := by decide +kernel
theorem dX7_tariffNow_68 : decode cX7_tariffNow 68 = .ok (.iload_n 1, 1) := by decide +kernel
theorem dX7_tariffNow_69 : decode cX7_tariffNow 69 = .ok (.invokevirtual 182, 3) := by decide +kernel
theorem dX7_tariffNow_72 : decode cX7_tariffNow 72 = .ok (.ireturn, 1) := by decide +kernel
theorem dX7_tariffNow_73 : decode cX7_tariffNow 73 = .ok (.aload_n 0, 1) := by decide +kernel
theorem dX7_tariffNow_74 : decode cX7_tariffNow 74 = .ok (.iload_n 1, 1) := by decide +kernel
theorem dX7_tariffNow_75 : decode cX7_tariffNow 75 = .ok (.invokevirtual 185, 3) := by decide +kernel
theorem dX7_tariffNow_78 : decode cX7_tariffNow 78 = .ok (.ireturn, 1) := by decide +kernel
theorem dX7_tariffNow_79 : decode cX7_tariffNow 79 = .ok (.aload_n 0, 1) := by decide +kernel
theorem dX7_tariffNow_80 : decode cX7_tariffNow 80 = .ok (.iload_n 1, 1) := by decide +kernel
theorem dX7_tariffNow_81 : decode cX7_tariffNow 81 = .ok (.invokevirtual 188, 3) := by decide +kernel
theorem dX7_tariffNow_84 : decode cX7_tariffNow 84 = .ok (.ireturn, 1) := by decide +kernel
theorem dX7_tariff_0 : decode cX7_tariff 0 = .ok (.aload_n 0, 1) := by decide +kernel
theorem dX7_tariff_1 : decode cX7_tariff 1 = .ok (.iload_n 1, 1) := by decide +kernel
theorem dX7_tariff_2 : decode cX7_tariff 2 = .ok (.invokevirtual 191, 3) := by decide +kernel
theorem dX7_tariff_5 : decode cX7_tariff 5 = .ok (.ifCond .ne 8, 3) := by decide +kernel
theorem dX7_tariff_8 : decode cX7_tariff 8 = .ok (.bipush (-101), 2) := by decide +kernel
theorem dX7_tariff_10 : decode cX7_tariff 10 = .ok (.goto 24, 3) := by decide +kernel
theorem dX7_tariff_13 : decode cX7_tariff 13 = .ok (.iload_n 2, 1) := by decide +kernel
theorem dX7_tariff_14 : decode cX7_tariff 14 = .ok (.iconst 0, 1) := by decide +kernel
theorem dX7_tariff_15 : decode cX7_tariff 15 = .ok (.bipush 6, 2) := by decide +kernel
theorem dX7_tariff_17 : decode cX7_tariff 17 = .ok (.invokestatic 68, 3) := by decide +kernel
theorem dX7_tariff_20 : decode cX7_tariff 20 = .ok (.ifCond .eq 12, 3) := by decide +kernel
theorem dX7_tariff_23 : decode cX7_tariff 23 = .ok (.aload_n 0, 1) := by decide +kernel
theorem dX7_tariff_24 : decode cX7_tariff 24 = .ok (.iload_n 1, 1) := by decide +kernel
theorem dX7_tariff_25 : decode cX7_tariff 25 = .ok (.iload_n 2, 1) := by decide +kernel
theorem dX7_tariff_26 : decode cX7_tariff 26 = .ok (.invokevirtual 194, 3) := by decide +kernel
theorem dX7_tariff_29 : decode cX7_tariff 29 = .ok (.goto 5, 3) := by decide +kernel
theorem dX7_tariff_32 : decode cX7_tariff 32 = .ok (.bipush (-102), 2) := by decide +kernel
theorem dX7_tariff_34 : decode cX7_tariff 34 = .ok (.ireturn, 1) := by decide +kernel
theorem dX7_as_0 : decode cX7_as 0 = .ok (.aload_n 0, 1) := by decide +kernel
theorem dX7_as_1 : decode cX7_as 1 = .ok (.iload_n 1, 1) := by decide +kernel
theorem dX7_as_2 : decode cX7_as 2 = .ok (.invokevirtual 191, 3) := by decide +kernel
theorem dX7_as_5 : decode cX7_as 5 = .ok (.ifCond .ne 6, 3) := by decide +kernel
theorem dX7_as_8 : decode cX7_as 8 = .ok (.bipush (-101), 2) := by decide +kernel
theorem dX7_as_10 : decode cX7_as 10 = .ok (.ireturn, 1) := by decide +kernel
theorem dX7_as_11 : decode cX7_as 11 = .ok (.iload_n 2, 1) := by decide +kernel
theorem dX7_as_12 : decode cX7_as 12 = .ok (.iconst 0, 1) := by decide +kernel
theorem dX7_as_13 : decode cX7_as 13 = .ok (.iconst 4, 1) := by decide +kernel
theorem dX7_as_14 : decode cX7_as 14 = .ok (.invokestatic 68, 3) := by decide +kernel
theorem dX7_as_17 : decode cX7_as 17 = .ok (.ifCond .ne 6, 3) := by decide +kernel
theorem dX7_as_20 : decode cX7_as 20 = .ok (.bipush (-102), 2) := by decide +kernel
theorem dX7_as_22 : decode cX7_as 22 = .ok (.ireturn, 1) := by decide +kernel
theorem dX7_as_23 : decode cX7_as 23 = .ok (.aload_n 0, 1) := by decide +kernel
theorem dX7_as_24 : decode cX7_as 24 = .ok (.getfield 7, 3) := by decide +kernel
theorem dX7_as_27 : decode cX7_as 27 = .ok (.iload_n 1, 1) := by decide +kernel
theorem dX7_as_28 : decode cX7_as 28 = .ok (.iaload, 1) := by decide +kernel
theorem dX7_as_29 : decode cX7_as 29 = .ok (.istore_n 3, 1) := by decide +kernel
theorem dX7_as_30 : decode cX7_as 30 = .ok (.iload_n 2, 1) := by decide +kernel
theorem dX7_as_31 : decode cX7_as 31 = .ok (.ifCond .eq 18, 3) := by decide +kernel
theorem dX7_as_34 : decode cX7_as 34 = .ok (.iload_n 3, 1) := by decide +kernel
theorem dX7_as_35 : decode cX7_as 35 = .ok (.iload_n 2, 1) := by decide +kernel
theorem dX7_as_36 : decode cX7_as 36 = .ok (.if_icmp .eq 13, 3) := by decide +kernel
theorem dX7_as_39 : decode cX7_as 39 = .ok (.iload_n 2, 1) := by decide +kernel
theorem dX7_as_40 : decode cX7_as 40 = .ok (.iconst 3, 1) := by decide +kernel
theorem dX7_as_41 : decode cX7_as 41 = .ok (.if_icmp .ne 12, 3) := by decide +kernel
theorem dX7_as_44 : decode cX7_as 44 = .ok (.iload_n 3, 1) := by decide +kernel
theorem dX7_as_45 : decode cX7_as 45 = .ok (.iconst 4, 1) := by decide +kernel
theorem dX7_as_46 : decode cX7_as 46 = .ok (.if_icmp .ne 7, 3) := by decide +kernel
theorem dX7_as_49 : decode cX7_as 49 = .ok (.iload_n 1, 1) := by decide +kernel
theorem dX7_as_50 : decode cX7_as 50 = .ok (.goto 4, 3) := by decide +kernel
theorem dX7_as_53 : decode cX7_as 53 = .ok (.iconst (-1), 1) := by decide +kernel
theorem dX7_as_54 : decode cX7_as 54 = .ok (.ireturn, 1) := by decide +kernel
theorem dX7_isQuantity_0 : decode cX7_isQuantity 0 = .ok (.iload_n 0, 1) := by decide +kernel
theorem dX7_isQuantity_1 : decode cX7_isQuantity 1 = .ok (.iconst 0, 1) := by decide +kernel
theorem dX7_isQuantity_2 : decode cX7_isQuantity 2 = .ok (.bipush 63, 2) := by decide +kernel
theorem dX7_isQuantity_4 : decode cX7_isQuantity 4 = .ok (.invokestatic 68, 3) := by decide +kernel
theorem dX7_isQuantity_7 : decode cX7_isQuantity 7 = .ok (.ireturn, 1) := by decide +kernel
theorem dX7_price_0 : decode cX7_price 0 = .ok (.aload_n 0, 1) := by decide +kernel
theorem dX7_price_1 : decode cX7_price 1 = .ok (.iload_n 1, 1) := by decide +kernel
theorem dX7_price_2 : decode cX7_price 2 = .ok (.invokevirtual 191, 3) := by decide +kernel
theorem dX7_price_5 : decode cX7_price 5 = .ok (.ifCond .eq 10, 3) := by decide +kernel
theorem dX7_price_8 : decode cX7_price 8 = .ok (.iload_n 2, 1) := by decide +kernel
theorem dX7_price_9 : decode cX7_price 9 = .ok (.invokestatic 197, 3) := by decide +kernel
theorem dX7_price_12 : decode cX7_price 12 = .ok (.ifCond .ne 7, 3) := by decide +kernel
theorem dX7_price_15 : decode cX7_price 15 = .ok (.ldc2_w 200, 3) := by decide +kernel
theorem dX7_price_18 : decode cX7_price 18 = .ok (.lreturn, 1) := by decide +kernel
theorem dX7_price_19 : decode cX7_price 19 = .ok (.aload_n 0, 1) := by decide +kernel
theorem dX7_price_20 : decode cX7_price 20 = .ok (.iload_n 1, 1) := by decide +kernel
theorem dX7_price_21 : decode cX7_price 21 = .ok (.iload_n 2, 1) := by decide +kernel
theorem dX7_price_22 : decode cX7_price 22 = .ok (.invokevirtual 202, 3) := by decide +kernel
theorem dX7_price_25 : decode cX7_price 25 = .ok (.ifCond .eq 16, 3) := by decide +kernel
theorem dX7_price_28 : decode cX7_price 28 = .ok (.ldc2_w 205, 3) := by decide +kernel
theorem dX7_price_31 : decode cX7_price 31 = .ok (.aload_n 0, 1) := by decide +kernel
theorem dX7_price_32 : decode cX7_price 32 = .ok (.iload_n 1, 1) := by decide +kernel
theorem dX7_price_33 : decode cX7_price 33 = .ok (.iload_n 2, 1) := by decide +kernel
theorem dX7_price_34 : decode cX7_price 34 = .ok (.invokevirtual 147, 3) := by decide +kernel
theorem dX7_price_37 : decode cX7_price 37 = .ok (.ladd, 1) := by decide +kernel
theorem dX7_price_38 : decode cX7_price 38 = .ok (.goto 6, 3) := by decide +kernel
theorem dX7_price_41 : decode cX7_price 41 = .ok (.ldc2_w 207, 3) := by decide +kernel
theorem dX7_price_44 : decode cX7_price 44 = .ok (.lreturn, 1) := by decide +kernel
theorem dX7_nodeNow_0 : decode cX7_nodeNow 0 = .ok (.iload_n 2, 1) := by decide +kernel
theorem dX7_nodeNow_1 : decode cX7_nodeNow 1 = .ok (.tableswitch 44 0 2 #[27, 34, 39], 27) := by decide +kernel
theorem dX7_nodeNow_28 : decode cX7_nodeNow 28 = .ok (.aload_n 0, 1) := by decide +kernel
theorem dX7_nodeNow_29 : decode cX7_nodeNow 29 = .ok (.getfield 25, 3) := by decide +kernel
theorem dX7_nodeNow_32 : decode cX7_nodeNow 32 = .ok (.iload_n 1, 1) := by decide +kernel
theorem dX7_nodeNow_33 : decode cX7_nodeNow 33 = .ok (.iaload, 1) := by decide +kernel
theorem dX7_nodeNow_34 : decode cX7_nodeNow 34 = .ok (.ireturn, 1) := by decide +kernel
theorem dX7_nodeNow_35 : decode cX7_nodeNow 35 = .ok (.iload_n 1, 1) := by decide +kernel
theorem dX7_nodeNow_36 : decode cX7_nodeNow 36 = .ok (.invokestatic 153, 3) := by decide +kernel
theorem dX7_nodeNow_39 : decode cX7_nodeNow 39 = .ok (.ireturn, 1) := by decide +kernel
theorem dX7_nodeNow_40 : decode cX7_nodeNow 40 = .ok (.iload_n 1, 1) := by decide +kernel
theorem dX7_nodeNow_41 : decode cX7_nodeNow 41 = .ok (.invokestatic 162, 3) := by decide +kernel
theorem dX7_nodeNow_44 : decode cX7_nodeNow 44 = .ok (.ireturn, 1) := by decide +kernel
theorem dX7_nodeNow_45 : decode cX7_nodeNow 45 = .ok (.iload_n 1, 1) := by decide +kernel
theorem dX7_nodeNow_46 : decode cX7_nodeNow 46 = .ok (.invokestatic 156, 3) := by decide +kernel
theorem dX7_nodeNow_49 : decode cX7_nodeNow 49 = .ok (.ireturn, 1) := by decide +kernel
theorem dX7_node_0 : decode cX7_node 0 = .ok (.aload_n 0, 1) := by decide +kernel
theorem dX7_node_1 : decode cX7_node 1 = .ok (.getfield 119, 3) := by decide +kernel
theorem dX7_node_4 : decode cX7_node 4 = .ok (.ifCond .eq 13, 3) := by decide +kernel
theorem dX7_node_7 : decode cX7_node 7 = .ok (.iload_n 1, 1) := by decide +kernel
theorem dX7_node_8 : decode cX7_node 8 = .ok (.iconst 1, 1) := by decide +kernel
theorem dX7_node_9 : decode cX7_node 9 = .ok (.bipush 127, 2) := by decide +kernel
theorem dX7_node_11 : decode cX7_node 11 = .ok (.invokestatic 68, 3) := by decide +kernel
theorem dX7_node_14 : decode cX7_node 14 = .ok (.ifCond .ne 6, 3) := by decide +kernel
theorem dX7_node_17 : decode cX7_node 17 = .ok (.bipush (-101), 2) := by decide +kernel
theorem dX7_node_19 : decode cX7_node 19 = .ok (.ireturn, 1) := by decide +kernel
theorem dX7_node_20 : decode cX7_node 20 = .ok (.iload_n 2, 1) := by decide +kernel
theorem dX7_node_21 : decode cX7_node 21 = .ok (.iconst 0, 1) := by decide +kernel
theorem dX7_node_22 : decode cX7_node 22 = .ok (.iconst 3, 1) := by decide +kernel
theorem dX7_node_23 : decode cX7_node 23 = .ok (.invokestatic 68, 3) := by decide +kernel
theorem dX7_node_26 : decode cX7_node 26 = .ok (.ifCond .eq 12, 3) := by decide +kernel
theorem dX7_node_29 : decode cX7_node 29 = .ok (.aload_n 0, 1) := by decide +kernel
theorem dX7_node_30 : decode cX7_node 30 = .ok (.iload_n 1, 1) := by decide +kernel
theorem dX7_node_31 : decode cX7_node 31 = .ok (.iload_n 2, 1) := by decide +kernel
theorem dX7_node_32 : decode cX7_node 32 = .ok (.invokevirtual 209, 3) := by decide +kernel
theorem dX7_node_35 : decode cX7_node 35 = .ok (.goto 5, 3) := by decide +kernel
theorem dX7_node_38 : decode cX7_node 38 = .ok (.bipush (-102), 2) := by decide +kernel
theorem dX7_node_40 : decode cX7_node 40 = .ok (.ireturn, 1) := by decide +kernel
theorem dX7_isSpan_0 : decode cX7_isSpan 0 = .ok (.iload_n 0, 1) := by decide +kernel
theorem dX7_isSpan_1 : decode cX7_isSpan 1 = .ok (.ifCond .lt 33, 3) := by decide +kernel
theorem dX7_isSpan_4 : decode cX7_isSpan 4 = .ok (.iload_n 0, 1) := by decide +kernel
theorem dX7_isSpan_5 : decode cX7_isSpan 5 = .ok (.bipush 100, 2) := by decide +kernel
theorem dX7_isSpan_7 : decode cX7_isSpan 7 = .ok (.idiv, 1) := by decide +kernel
theorem dX7_isSpan_8 : decode cX7_isSpan 8 = .ok (.invokestatic 197, 3) := by decide +kernel
theorem dX7_isSpan_11 : decode cX7_isSpan 11 = .ok (.ifCond .eq 23, 3) := by decide +kernel
theorem dX7_isSpan_14 : decode cX7_isSpan 14 = .ok (.iload_n 0, 1) := by decide +kernel
theorem dX7_isSpan_15 : decode cX7_isSpan 15 = .ok (.bipush 100, 2) := by decide +kernel
theorem dX7_isSpan_17 : decode cX7_isSpan 17 = .ok (.irem, 1) := by decide +kernel
theorem dX7_isSpan_18 : decode cX7_isSpan 18 = .ok (.iload_n 0, 1) := by decide +kernel
theorem dX7_isSpan_19 : decode cX7_isSpan 19 = .ok (.bipush 100, 2) := by decide +kernel
theorem dX7_isSpan_21 : decode cX7_isSpan 21 = .ok (.idiv, 1) := by decide +kernel
theorem dX7_isSpan_22 : decode cX7_isSpan 22 = .ok (.bipush 63, 2) := by decide +kernel
theorem dX7_isSpan_24 : decode cX7_isSpan 24 = .ok (.invokestatic 68, 3) := by decide +kernel
theorem dX7_isSpan_27 : decode cX7_isSpan 27 = .ok (.ifCond .eq 7, 3) := by decide +kernel
theorem dX7_isSpan_30 : decode cX7_isSpan 30 = .ok (.iconst 1, 1) := by decide +kernel
theorem dX7_isSpan_31 : decode cX7_isSpan 31 = .ok (.goto 4, 3) := by decide +kernel
theorem dX7_isSpan_34 : decode cX7_isSpan 34 = .ok (.iconst 0, 1) := by decide +kernel
theorem dX7_isSpan_35 : decode cX7_isSpan 35 = .ok (.ireturn, 1) := by decide +kernel
theorem dX7_refused_0 : decode cX7_refused 0 = .ok (.iload_n 1, 1) := by decide +kernel
theorem dX7_refused_1 : decode cX7_refused 1 = .ok (.iconst 0, 1) := by decide +kernel
theorem dX7_refused_2 : decode cX7_refused 2 = .ok (.iconst 4, 1) := by decide +kernel
theorem dX7_refused_3 : decode cX7_refused 3 = .ok (.invokestatic 68, 3) := by decide +kernel
theorem dX7_refused_6 : decode cX7_refused 6 = .ok (.ifCond .eq 30, 3) := by decide +kernel
theorem dX7_refused_9 : decode cX7_refused 9 = .ok (.iload 4, 2) := by decide +kernel
theorem dX7_refused_11 : decode cX7_refused 11 = .ok (.invokestatic 212, 3) := by decide +kernel
theorem dX7_refused_14 : decode cX7_refused 14 = .ok (.ifCond .eq 22, 3) := by decide +kernel
theorem dX7_refused_17 : decode cX7_refused 17 = .ok (.iload_n 1, 1) := by decide +kernel
theorem dX7_refused_18 : decode cX7_refused 18 = .ok (.iload_n 2, 1) := by decide +kernel
theorem dX7_refused_19 : decode cX7_refused 19 = .ok (.iload_n 3, 1) := by decide +kernel
theorem dX7_refused_20 : decode cX7_refused 20 = .ok (.iload 4, 2) := by decide +kernel
theorem dX7_refused_22 : decode cX7_refused 22 = .ok (.bipush 100, 2) := by decide +kernel
theorem dX7_refused_24 : decode cX7_refused 24 = .ok (.idiv, 1) := by decide +kernel
theorem dX7_refused_25 : decode cX7_refused 25 = .ok (.iload 4, 2) := by decide +kernel
theorem dX7_refused_27 : decode cX7_refused 27 = .ok (.bipush 100, 2) := by decide +kernel
end
section
theorem dX7_refused_29 : decode cX7_refused 29 = .ok (.irem, 1) := by decide +kernel
theorem dX7_refused_30 : decode cX7_refused 30 = .ok (.invokestatic 215, 3) := by decide +kernel
theorem dX7_refused_33 : decode cX7_refused 33 = .ok (.ifCond .eq 6, 3) := by decide +kernel
theorem dX7_refused_36 : decode cX7_refused 36 = .ok (.bipush (-102), 2) := by decide +kernel
theorem dX7_refused_38 : decode cX7_refused 38 = .ok (.ireturn, 1) := by decide +kernel
theorem dX7_refused_39 : decode cX7_refused 39 = .ok (.aload_n 0, 1) := by decide +kernel
theorem dX7_refused_40 : decode cX7_refused 40 = .ok (.getfield 119, 3) := by decide +kernel
theorem dX7_refused_43 : decode cX7_refused 43 = .ok (.ifCond .ne 8, 3) := by decide +kernel
theorem dX7_refused_46 : decode cX7_refused 46 = .ok (.bipush (-103), 2) := by decide +kernel
theorem dX7_refused_48 : decode cX7_refused 48 = .ok (.goto 18, 3) := by decide +kernel
theorem dX7_refused_51 : decode cX7_refused 51 = .ok (.aload_n 0, 1) := by decide +kernel
theorem dX7_refused_52 : decode cX7_refused 52 = .ok (.getfield 108, 3) := by decide +kernel
theorem dX7_refused_55 : decode cX7_refused 55 = .ok (.bipush 40, 2) := by decide +kernel
theorem dX7_refused_57 : decode cX7_refused 57 = .ok (.if_icmp .ne 8, 3) := by decide +kernel
theorem dX7_refused_60 : decode cX7_refused 60 = .ok (.bipush (-104), 2) := by decide +kernel
theorem dX7_refused_62 : decode cX7_refused 62 = .ok (.goto 4, 3) := by decide +kernel
theorem dX7_refused_65 : decode cX7_refused 65 = .ok (.iconst 0, 1) := by decide +kernel
theorem dX7_refused_66 : decode cX7_refused 66 = .ok (.ireturn, 1) := by decide +kernel
theorem dX7_layBefore_0 : decode cX7_layBefore 0 = .ok (.iconst 0, 1) := by decide +kernel
theorem dX7_layBefore_1 : decode cX7_layBefore 1 = .ok (.istore_n 1, 1) := by decide +kernel
theorem dX7_layBefore_2 : decode cX7_layBefore 2 = .ok (.iload_n 1, 1) := by decide +kernel
theorem dX7_layBefore_3 : decode cX7_layBefore 3 = .ok (.sipush 128, 3) := by decide +kernel
theorem dX7_layBefore_6 : decode cX7_layBefore 6 = .ok (.if_icmp .ge 21, 3) := by decide +kernel
theorem dX7_layBefore_9 : decode cX7_layBefore 9 = .ok (.aload_n 0, 1) := by decide +kernel
theorem dX7_layBefore_10 : decode cX7_layBefore 10 = .ok (.getfield 41, 3) := by decide +kernel
theorem dX7_layBefore_13 : decode cX7_layBefore 13 = .ok (.iload_n 1, 1) := by decide +kernel
theorem dX7_layBefore_14 : decode cX7_layBefore 14 = .ok (.aload_n 0, 1) := by decide +kernel
theorem dX7_layBefore_15 : decode cX7_layBefore 15 = .ok (.getfield 25, 3) := by decide +kernel
theorem dX7_layBefore_18 : decode cX7_layBefore 18 = .ok (.iload_n 1, 1) := by decide +kernel
theorem dX7_layBefore_19 : decode cX7_layBefore 19 = .ok (.iaload, 1) := by decide +kernel
theorem dX7_layBefore_20 : decode cX7_layBefore 20 = .ok (.iastore, 1) := by decide +kernel
theorem dX7_layBefore_21 : decode cX7_layBefore 21 = .ok (.iinc 1 1, 3) := by decide +kernel
theorem dX7_layBefore_24 : decode cX7_layBefore 24 = .ok (.goto (-22), 3) := by decide +kernel
theorem dX7_layBefore_27 : decode cX7_layBefore 27 = .ok (.return_, 1) := by decide +kernel
theorem dX7_offer_0 : decode cX7_offer 0 = .ok (.aload_n 0, 1) := by decide +kernel
theorem dX7_offer_1 : decode cX7_offer 1 = .ok (.iload_n 1, 1) := by decide +kernel
theorem dX7_offer_2 : decode cX7_offer 2 = .ok (.iload_n 2, 1) := by decide +kernel
theorem dX7_offer_3 : decode cX7_offer 3 = .ok (.iload_n 3, 1) := by decide +kernel
theorem dX7_offer_4 : decode cX7_offer 4 = .ok (.iload 4, 2) := by decide +kernel
theorem dX7_offer_6 : decode cX7_offer 6 = .ok (.invokevirtual 219, 3) := by decide +kernel
theorem dX7_offer_9 : decode cX7_offer 9 = .ok (.istore 5, 2) := by decide +kernel
theorem dX7_offer_11 : decode cX7_offer 11 = .ok (.iload 5, 2) := by decide +kernel
theorem dX7_offer_13 : decode cX7_offer 13 = .ok (.ifCond .ge 6, 3) := by decide +kernel
theorem dX7_offer_16 : decode cX7_offer 16 = .ok (.iload 5, 2) := by decide +kernel
theorem dX7_offer_18 : decode cX7_offer 18 = .ok (.ireturn, 1) := by decide +kernel
theorem dX7_offer_19 : decode cX7_offer 19 = .ok (.aload_n 0, 1) := by decide +kernel
theorem dX7_offer_20 : decode cX7_offer 20 = .ok (.invokevirtual 223, 3) := by decide +kernel
theorem dX7_offer_23 : decode cX7_offer 23 = .ok (.aload_n 0, 1) := by decide +kernel
theorem dX7_offer_24 : decode cX7_offer 24 = .ok (.iload_n 1, 1) := by decide +kernel
theorem dX7_offer_25 : decode cX7_offer 25 = .ok (.iload_n 2, 1) := by decide +kernel
theorem dX7_offer_26 : decode cX7_offer 26 = .ok (.iload_n 3, 1) := by decide +kernel
theorem dX7_offer_27 : decode cX7_offer 27 = .ok (.iload 4, 2) := by decide +kernel
theorem dX7_offer_29 : decode cX7_offer 29 = .ok (.bipush 100, 2) := by decide +kernel
theorem dX7_offer_31 : decode cX7_offer 31 = .ok (.idiv, 1) := by decide +kernel
theorem dX7_offer_32 : decode cX7_offer 32 = .ok (.iload 4, 2) := by decide +kernel
theorem dX7_offer_34 : decode cX7_offer 34 = .ok (.bipush 100, 2) := by decide +kernel
theorem dX7_offer_36 : decode cX7_offer 36 = .ok (.irem, 1) := by decide +kernel
theorem dX7_offer_37 : decode cX7_offer 37 = .ok (.invokevirtual 115, 3) := by decide +kernel
theorem dX7_offer_40 : decode cX7_offer 40 = .ok (.iconst 0, 1) := by decide +kernel
theorem dX7_offer_41 : decode cX7_offer 41 = .ok (.istore 6, 2) := by decide +kernel
theorem dX7_offer_43 : decode cX7_offer 43 = .ok (.iconst 1, 1) := by decide +kernel
theorem dX7_offer_44 : decode cX7_offer 44 = .ok (.istore 7, 2) := by decide +kernel
theorem dX7_offer_46 : decode cX7_offer 46 = .ok (.iload 7, 2) := by decide +kernel
theorem dX7_offer_48 : decode cX7_offer 48 = .ok (.sipush 128, 3) := by decide +kernel
theorem dX7_offer_51 : decode cX7_offer 51 = .ok (.if_icmp .ge 36, 3) := by decide +kernel
theorem dX7_offer_54 : decode cX7_offer 54 = .ok (.iload 6, 2) := by decide +kernel
theorem dX7_offer_56 : decode cX7_offer 56 = .ok (.aload_n 0, 1) := by decide +kernel
theorem dX7_offer_57 : decode cX7_offer 57 = .ok (.getfield 25, 3) := by decide +kernel
theorem dX7_offer_60 : decode cX7_offer 60 = .ok (.iload 7, 2) := by decide +kernel
theorem dX7_offer_62 : decode cX7_offer 62 = .ok (.iaload, 1) := by decide +kernel
theorem dX7_offer_63 : decode cX7_offer 63 = .ok (.aload_n 0, 1) := by decide +kernel
theorem dX7_offer_64 : decode cX7_offer 64 = .ok (.getfield 41, 3) := by decide +kernel
theorem dX7_offer_67 : decode cX7_offer 67 = .ok (.iload 7, 2) := by decide +kernel
theorem dX7_offer_69 : decode cX7_offer 69 = .ok (.iaload, 1) := by decide +kernel
theorem dX7_offer_70 : decode cX7_offer 70 = .ok (.if_icmp .eq 7, 3) := by decide +kernel
theorem dX7_offer_73 : decode cX7_offer 73 = .ok (.iconst 1, 1) := by decide +kernel
theorem dX7_offer_74 : decode cX7_offer 74 = .ok (.goto 4, 3) := by decide +kernel
theorem dX7_offer_77 : decode cX7_offer 77 = .ok (.iconst 0, 1) := by decide +kernel
theorem dX7_offer_78 : decode cX7_offer 78 = .ok (.iadd, 1) := by decide +kernel
theorem dX7_offer_79 : decode cX7_offer 79 = .ok (.istore 6, 2) := by decide +kernel
theorem dX7_offer_81 : decode cX7_offer 81 = .ok (.iinc 7 1, 3) := by decide +kernel
theorem dX7_offer_84 : decode cX7_offer 84 = .ok (.goto (-38), 3) := by decide +kernel
theorem dX7_offer_87 : decode cX7_offer 87 = .ok (.iload 6, 2) := by decide +kernel
theorem dX7_offer_89 : decode cX7_offer 89 = .ok (.ireturn, 1) := by decide +kernel
theorem dX7_undo_0 : decode cX7_undo 0 = .ok (.aload_n 0, 1) := by decide +kernel
theorem dX7_undo_1 : decode cX7_undo 1 = .ok (.getfield 108, 3) := by decide +kernel
theorem dX7_undo_4 : decode cX7_undo 4 = .ok (.ifCond .ne 6, 3) := by decide +kernel
theorem dX7_undo_7 : decode cX7_undo 7 = .ok (.bipush (-103), 2) := by decide +kernel
theorem dX7_undo_9 : decode cX7_undo 9 = .ok (.ireturn, 1) := by decide +kernel
theorem dX7_undo_10 : decode cX7_undo 10 = .ok (.aload_n 0, 1) := by decide +kernel
theorem dX7_undo_11 : decode cX7_undo 11 = .ok (.aload_n 0, 1) := by decide +kernel
theorem dX7_undo_12 : decode cX7_undo 12 = .ok (.getfield 108, 3) := by decide +kernel
theorem dX7_undo_15 : decode cX7_undo 15 = .ok (.iconst 1, 1) := by decide +kernel
theorem dX7_undo_16 : decode cX7_undo 16 = .ok (.isub, 1) := by decide +kernel
theorem dX7_undo_17 : decode cX7_undo 17 = .ok (.invokevirtual 226, 3) := by decide +kernel
theorem dX7_undo_20 : decode cX7_undo 20 = .ok (.aload_n 0, 1) := by decide +kernel
theorem dX7_undo_21 : decode cX7_undo 21 = .ok (.getfield 108, 3) := by decide +kernel
theorem dX7_undo_24 : decode cX7_undo 24 = .ok (.ireturn, 1) := by decide +kernel
theorem dX7_cheapest_0 : decode cX7_cheapest 0 = .ok (.aload_n 0, 1) := by decide +kernel
theorem dX7_cheapest_1 : decode cX7_cheapest 1 = .ok (.getfield 119, 3) := by decide +kernel
theorem dX7_cheapest_4 : decode cX7_cheapest 4 = .ok (.ifCond .le 18, 3) := by decide +kernel
theorem dX7_cheapest_7 : decode cX7_cheapest 7 = .ok (.iload_n 1, 1) := by decide +kernel
theorem dX7_cheapest_8 : decode cX7_cheapest 8 = .ok (.invokestatic 197, 3) := by decide +kernel
theorem dX7_cheapest_11 : decode cX7_cheapest 11 = .ok (.ifCond .eq 11, 3) := by decide +kernel
theorem dX7_cheapest_14 : decode cX7_cheapest 14 = .ok (.aload_n 0, 1) := by decide +kernel
theorem dX7_cheapest_15 : decode cX7_cheapest 15 = .ok (.iload_n 1, 1) := by decide +kernel
theorem dX7_cheapest_16 : decode cX7_cheapest 16 = .ok (.invokevirtual 176, 3) := by decide +kernel
theorem dX7_cheapest_19 : decode cX7_cheapest 19 = .ok (.goto 5, 3) := by decide +kernel
theorem dX7_cheapest_22 : decode cX7_cheapest 22 = .ok (.bipush (-101), 2) := by decide +kernel
theorem dX7_cheapest_24 : decode cX7_cheapest 24 = .ok (.ireturn, 1) := by decide +kernel
theorem dX7_costFor_0 : decode cX7_costFor 0 = .ok (.aload_n 0, 1) := by decide +kernel
theorem dX7_costFor_1 : decode cX7_costFor 1 = .ok (.iload_n 1, 1) := by decide +kernel
theorem dX7_costFor_2 : decode cX7_costFor 2 = .ok (.invokevirtual 176, 3) := by decide +kernel
theorem dX7_costFor_5 : decode cX7_costFor 5 = .ok (.istore_n 2, 1) := by decide +kernel
theorem dX7_costFor_6 : decode cX7_costFor 6 = .ok (.iload_n 2, 1) := by decide +kernel
theorem dX7_costFor_7 : decode cX7_costFor 7 = .ok (.iconst (-1), 1) := by decide +kernel
theorem dX7_costFor_8 : decode cX7_costFor 8 = .ok (.if_icmp .ne 9, 3) := by decide +kernel
theorem dX7_costFor_11 : decode cX7_costFor 11 = .ok (.ldc2_w 229, 3) := by decide +kernel
theorem dX7_costFor_14 : decode cX7_costFor 14 = .ok (.goto 13, 3) := by decide +kernel
theorem dX7_costFor_17 : decode cX7_costFor 17 = .ok (.ldc2_w 205, 3) := by decide +kernel
theorem dX7_costFor_20 : decode cX7_costFor 20 = .ok (.aload_n 0, 1) := by decide +kernel
theorem dX7_costFor_21 : decode cX7_costFor 21 = .ok (.iload_n 2, 1) := by decide +kernel
theorem dX7_costFor_22 : decode cX7_costFor 22 = .ok (.iload_n 1, 1) := by decide +kernel
theorem dX7_costFor_23 : decode cX7_costFor 23 = .ok (.invokevirtual 147, 3) := by decide +kernel
theorem dX7_costFor_26 : decode cX7_costFor 26 = .ok (.ladd, 1) := by decide +kernel
theorem dX7_costFor_27 : decode cX7_costFor 27 = .ok (.lreturn, 1) := by decide +kernel
theorem dX7_cost_0 : decode cX7_cost 0 = .ok (.aload_n 0, 1) := by decide +kernel
theorem dX7_cost_1 : decode cX7_cost 1 = .ok (.getfield 119, 3) := by decide +kernel
theorem dX7_cost_4 : decode cX7_cost 4 = .ok (.ifCond .le 18, 3) := by decide +kernel
theorem dX7_cost_7 : decode cX7_cost 7 = .ok (.iload_n 1, 1) := by decide +kernel
theorem dX7_cost_8 : decode cX7_cost 8 = .ok (.invokestatic 197, 3) := by decide +kernel
theorem dX7_cost_11 : decode cX7_cost 11 = .ok (.ifCond .eq 11, 3) := by decide +kernel
theorem dX7_cost_14 : decode cX7_cost 14 = .ok (.aload_n 0, 1) := by decide +kernel
theorem dX7_cost_15 : decode cX7_cost 15 = .ok (.iload_n 1, 1) := by decide +kernel
theorem dX7_cost_16 : decode cX7_cost 16 = .ok (.invokevirtual 231, 3) := by decide +kernel
theorem dX7_cost_19 : decode cX7_cost 19 = .ok (.goto 6, 3) := by decide +kernel
theorem dX7_cost_22 : decode cX7_cost 22 = .ok (.ldc2_w 200, 3) := by decide +kernel
theorem dX7_cost_25 : decode cX7_cost 25 = .ok (.lreturn, 1) := by decide +kernel
theorem dX7_isFirstOfPiece_0 : decode cX7_isFirstOfPiece 0 = .ok (.aload_n 0, 1) := by decide +kernel
theorem dX7_isFirstOfPiece_1 : decode cX7_isFirstOfPiece 1 = .ok (.iload_n 1, 1) := by decide +kernel
theorem dX7_isFirstOfPiece_2 : decode cX7_isFirstOfPiece 2 = .ok (.invokevirtual 176, 3) := by decide +kernel
theorem dX7_isFirstOfPiece_5 : decode cX7_isFirstOfPiece 5 = .ok (.istore_n 2, 1) := by decide +kernel
theorem dX7_isFirstOfPiece_6 : decode cX7_isFirstOfPiece 6 = .ok (.iload_n 2, 1) := by decide +kernel
theorem dX7_isFirstOfPiece_7 : decode cX7_isFirstOfPiece 7 = .ok (.iconst (-1), 1) := by decide +kernel
theorem dX7_isFirstOfPiece_8 : decode cX7_isFirstOfPiece 8 = .ok (.if_icmp .eq 22, 3) := by decide +kernel
theorem dX7_isFirstOfPiece_11 : decode cX7_isFirstOfPiece 11 = .ok (.iload_n 1, 1) := by decide +kernel
theorem dX7_isFirstOfPiece_12 : decode cX7_isFirstOfPiece 12 = .ok (.ifCond .eq 14, 3) := by decide +kernel
theorem dX7_isFirstOfPiece_15 : decode cX7_isFirstOfPiece 15 = .ok (.aload_n 0, 1) := by decide +kernel
theorem dX7_isFirstOfPiece_16 : decode cX7_isFirstOfPiece 16 = .ok (.iload_n 1, 1) := by decide +kernel
theorem dX7_isFirstOfPiece_17 : decode cX7_isFirstOfPiece 17 = .ok (.iconst 1, 1) := by decide +kernel
theorem dX7_isFirstOfPiece_18 : decode cX7_isFirstOfPiece 18 = .ok (.isub, 1) := by decide +kernel
theorem dX7_isFirstOfPiece_19 : decode cX7_isFirstOfPiece 19 = .ok (.invokevirtual 176, 3) := by decide +kernel
theorem dX7_isFirstOfPiece_22 : decode cX7_isFirstOfPiece 22 = .ok (.iload_n 2, 1) := by decide +kernel
theorem dX7_isFirstOfPiece_23 : decode cX7_isFirstOfPiece 23 = .ok (.if_icmp .eq 7, 3) := by decide +kernel
theorem dX7_isFirstOfPiece_26 : decode cX7_isFirstOfPiece 26 = .ok (.iconst 1, 1) := by decide +kernel
theorem dX7_isFirstOfPiece_27 : decode cX7_isFirstOfPiece 27 = .ok (.goto 4, 3) := by decide +kernel
theorem dX7_isFirstOfPiece_30 : decode cX7_isFirstOfPiece 30 = .ok (.iconst 0, 1) := by decide +kernel
theorem dX7_isFirstOfPiece_31 : decode cX7_isFirstOfPiece 31 = .ok (.ireturn, 1) := by decide +kernel
theorem dX7_pieces_0 : decode cX7_pieces 0 = .ok (.iconst 0, 1) := by decide +kernel
theorem dX7_pieces_1 : decode cX7_pieces 1 = .ok (.istore_n 1, 1) := by decide +kernel
theorem dX7_pieces_2 : decode cX7_pieces 2 = .ok (.iconst 0, 1) := by decide +kernel
theorem dX7_pieces_3 : decode cX7_pieces 3 = .ok (.istore_n 2, 1) := by decide +kernel
theorem dX7_pieces_4 : decode cX7_pieces 4 = .ok (.iload_n 2, 1) := by decide +kernel
theorem dX7_pieces_5 : decode cX7_pieces 5 = .ok (.bipush 64, 2) := by decide +kernel
theorem dX7_pieces_7 : decode cX7_pieces 7 = .ok (.if_icmp .ge 32, 3) := by decide +kernel
theorem dX7_pieces_10 : decode cX7_pieces 10 = .ok (.aload_n 0, 1) := by decide +kernel
theorem dX7_pieces_11 : decode cX7_pieces 11 = .ok (.getfield 119, 3) := by decide +kernel
theorem dX7_pieces_14 : decode cX7_pieces 14 = .ok (.ifCond .le 25, 3) := by decide +kernel
theorem dX7_pieces_17 : decode cX7_pieces 17 = .ok (.iload_n 1, 1) := by decide +kernel
theorem dX7_pieces_18 : decode cX7_pieces 18 = .ok (.aload_n 0, 1) := by decide +kernel
theorem dX7_pieces_19 : decode cX7_pieces 19 = .ok (.iload_n 2, 1) := by decide +kernel
theorem dX7_pieces_20 : decode cX7_pieces 20 = .ok (.invokevirtual 235, 3) := by decide +kernel
theorem dX7_pieces_23 : decode cX7_pieces 23 = .ok (.ifCond .eq 7, 3) := by decide +kernel
theorem dX7_pieces_26 : decode cX7_pieces 26 = .ok (.iconst 1, 1) := by decide +kernel
theorem dX7_pieces_27 : decode cX7_pieces 27 = .ok (.goto 4, 3) := by decide +kernel
theorem dX7_pieces_30 : decode cX7_pieces 30 = .ok (.iconst 0, 1) := by decide +kernel
theorem dX7_pieces_31 : decode cX7_pieces 31 = .ok (.iadd, 1) := by decide +kernel
theorem dX7_pieces_32 : decode cX7_pieces 32 = .ok (.istore_n 1, 1) := by decide +kernel
theorem dX7_pieces_33 : decode cX7_pieces 33 = .ok (.iinc 2 1, 3) := by decide +kernel
theorem dX7_pieces_36 : decode cX7_pieces 36 = .ok (.goto (-32), 3) := by decide +kernel
theorem dX7_pieces_39 : decode cX7_pieces 39 = .ok (.iload_n 1, 1) := by decide +kernel
theorem dX7_pieces_40 : decode cX7_pieces 40 = .ok (.ireturn, 1) := by decide +kernel
theorem dX7_pieceNow_0 : decode cX7_pieceNow 0 = .ok (.iconst 0, 1) := by decide +kernel
theorem dX7_pieceNow_1 : decode cX7_pieceNow 1 = .ok (.istore_n 3, 1) := by decide +kernel
theorem dX7_pieceNow_2 : decode cX7_pieceNow 2 = .ok (.iload_n 1, 1) := by decide +kernel
theorem dX7_pieceNow_3 : decode cX7_pieceNow 3 = .ok (.istore 4, 2) := by decide +kernel
theorem dX7_pieceNow_5 : decode cX7_pieceNow 5 = .ok (.aload_n 0, 1) := by decide +kernel
theorem dX7_pieceNow_6 : decode cX7_pieceNow 6 = .ok (.iload_n 3, 1) := by decide +kernel
theorem dX7_pieceNow_7 : decode cX7_pieceNow 7 = .ok (.invokevirtual 235, 3) := by decide +kernel
theorem dX7_pieceNow_10 : decode cX7_pieceNow 10 = .ok (.ifCond .eq 8, 3) := by decide +kernel
theorem dX7_pieceNow_13 : decode cX7_pieceNow 13 = .ok (.iload 4, 2) := by decide +kernel
theorem dX7_pieceNow_15 : decode cX7_pieceNow 15 = .ok (.ifCond .le 27, 3) := by decide +kernel
theorem dX7_pieceNow_18 : decode cX7_pieceNow 18 = .ok (.iload 4, 2) := by decide +kernel
theorem dX7_pieceNow_20 : decode cX7_pieceNow 20 = .ok (.aload_n 0, 1) := by decide +kernel
theorem dX7_pieceNow_21 : decode cX7_pieceNow 21 = .ok (.iload_n 3, 1) := by decide +kernel
theorem dX7_pieceNow_22 : decode cX7_pieceNow 22 = .ok (.invokevirtual 235, 3) := by decide +kernel
theorem dX7_pieceNow_25 : decode cX7_pieceNow 25 = .ok (.ifCond .eq 7, 3) := by decide +kernel
theorem dX7_pieceNow_28 : decode cX7_pieceNow 28 = .ok (.iconst 1, 1) := by decide +kernel
theorem dX7_pieceNow_29 : decode cX7_pieceNow 29 = .ok (.goto 4, 3) := by decide +kernel
theorem dX7_pieceNow_32 : decode cX7_pieceNow 32 = .ok (.iconst 0, 1) := by decide +kernel
theorem dX7_pieceNow_33 : decode cX7_pieceNow 33 = .ok (.isub, 1) := by decide +kernel
theorem dX7_pieceNow_34 : decode cX7_pieceNow 34 = .ok (.istore 4, 2) := by decide +kernel
theorem dX7_pieceNow_36 : decode cX7_pieceNow 36 = .ok (.iinc 3 1, 3) := by decide +kernel
theorem dX7_pieceNow_39 : decode cX7_pieceNow 39 = .ok (.goto (-34), 3) := by decide +kernel
theorem dX7_pieceNow_42 : decode cX7_pieceNow 42 = .ok (.aload_n 0, 1) := by decide +kernel
theorem dX7_pieceNow_43 : decode cX7_pieceNow 43 = .ok (.iload_n 3, 1) := by decide +kernel
theorem dX7_pieceNow_44 : decode cX7_pieceNow 44 = .ok (.invokevirtual 176, 3) := by decide +kernel
theorem dX7_pieceNow_47 : decode cX7_pieceNow 47 = .ok (.istore 5, 2) := by decide +kernel
theorem dX7_pieceNow_49 : decode cX7_pieceNow 49 = .ok (.iload_n 3, 1) := by decide +kernel
theorem dX7_pieceNow_50 : decode cX7_pieceNow 50 = .ok (.istore 6, 2) := by decide +kernel
theorem dX7_pieceNow_52 : decode cX7_pieceNow 52 = .ok (.iload 6, 2) := by decide +kernel
theorem dX7_pieceNow_54 : decode cX7_pieceNow 54 = .ok (.bipush 63, 2) := by decide +kernel
theorem dX7_pieceNow_56 : decode cX7_pieceNow 56 = .ok (.if_icmp .ge 22, 3) := by decide +kernel
theorem dX7_pieceNow_59 : decode cX7_pieceNow 59 = .ok (.aload_n 0, 1) := by decide +kernel
theorem dX7_pieceNow_60 : decode cX7_pieceNow 60 = .ok (.iload 6, 2) := by decide +kernel
theorem dX7_pieceNow_62 : decode cX7_pieceNow 62 = .ok (.iconst 1, 1) := by decide +kernel
theorem dX7_pieceNow_63 : decode cX7_pieceNow 63 = .ok (.iadd, 1) := by decide +kernel
theorem dX7_pieceNow_64 : decode cX7_pieceNow 64 = .ok (.invokevirtual 176, 3) := by decide +kernel
theorem dX7_pieceNow_67 : decode cX7_pieceNow 67 = .ok (.iload 5, 2) := by decide +kernel
theorem dX7_pieceNow_69 : decode cX7_pieceNow 69 = .ok (.if_icmp .ne 9, 3) := by decide +kernel
theorem dX7_pieceNow_72 : decode cX7_pieceNow 72 = .ok (.iinc 6 1, 3) := by decide +kernel
theorem dX7_pieceNow_75 : decode cX7_pieceNow 75 = .ok (.goto (-23), 3) := by decide +kernel
theorem dX7_pieceNow_78 : decode cX7_pieceNow 78 = .ok (.iload_n 2, 1) := by decide +kernel
theorem dX7_pieceNow_79 : decode cX7_pieceNow 79 = .ok (.ifCond .ne 8, 3) := by decide +kernel
theorem dX7_pieceNow_82 : decode cX7_pieceNow 82 = .ok (.iload 5, 2) := by decide +kernel
theorem dX7_pieceNow_84 : decode cX7_pieceNow 84 = .ok (.goto 14, 3) := by decide +kernel
theorem dX7_pieceNow_87 : decode cX7_pieceNow 87 = .ok (.iload_n 2, 1) := by decide +kernel
theorem dX7_pieceNow_88 : decode cX7_pieceNow 88 = .ok (.iconst 1, 1) := by decide +kernel
theorem dX7_pieceNow_89 : decode cX7_pieceNow 89 = .ok (.if_icmp .ne 7, 3) := by decide +kernel
theorem dX7_pieceNow_92 : decode cX7_pieceNow 92 = .ok (.iload_n 3, 1) := by decide +kernel
theorem dX7_pieceNow_93 : decode cX7_pieceNow 93 = .ok (.goto 5, 3) := by decide +kernel
theorem dX7_pieceNow_96 : decode cX7_pieceNow 96 = .ok (.iload 6, 2) := by decide +kernel
theorem dX7_pieceNow_98 : decode cX7_pieceNow 98 = .ok (.ireturn, 1) := by decide +kernel
theorem dX7_piece_0 : decode cX7_piece 0 = .ok (.iload_n 1, 1) := by decide +kernel
theorem dX7_piece_1 : decode cX7_piece 1 = .ok (.iconst 0, 1) := by decide +kernel
theorem dX7_piece_2 : decode cX7_piece 2 = .ok (.aload_n 0, 1) := by decide +kernel
theorem dX7_piece_3 : decode cX7_piece 3 = .ok (.invokevirtual 238, 3) := by decide +kernel
theorem dX7_piece_6 : decode cX7_piece 6 = .ok (.iconst 1, 1) := by decide +kernel
theorem dX7_piece_7 : decode cX7_piece 7 = .ok (.isub, 1) := by decide +kernel
theorem dX7_piece_8 : decode cX7_piece 8 = .ok (.invokestatic 68, 3) := by decide +kernel
theorem dX7_piece_11 : decode cX7_piece 11 = .ok (.ifCond .ne 6, 3) := by decide +kernel
theorem dX7_piece_14 : decode cX7_piece 14 = .ok (.bipush (-101), 2) := by decide +kernel
theorem dX7_piece_16 : decode cX7_piece 16 = .ok (.ireturn, 1) := by decide +kernel
theorem dX7_piece_17 : decode cX7_piece 17 = .ok (.iload_n 2, 1) := by decide +kernel
theorem dX7_piece_18 : decode cX7_piece 18 = .ok (.iconst 0, 1) := by decide +kernel
theorem dX7_piece_19 : decode cX7_piece 19 = .ok (.iconst 2, 1) := by decide +kernel
theorem dX7_piece_20 : decode cX7_piece 20 = .ok (.invokestatic 68, 3) := by decide +kernel
theorem dX7_piece_23 : decode cX7_piece 23 = .ok (.ifCond .eq 12, 3) := by decide +kernel
theorem dX7_piece_26 : decode cX7_piece 26 = .ok (.aload_n 0, 1) := by decide +kernel
theorem dX7_piece_27 : decode cX7_piece 27 = .ok (.iload_n 1, 1) := by decide +kernel
theorem dX7_piece_28 : decode cX7_piece 28 = .ok (.iload_n 2, 1) := by decide +kernel
theorem dX7_piece_29 : decode cX7_piece 29 = .ok (.invokevirtual 241, 3) := by decide +kernel
theorem dX7_piece_32 : decode cX7_piece 32 = .ok (.goto 5, 3) := by decide +kernel
theorem dX7_piece_35 : decode cX7_piece 35 = .ok (.bipush (-102), 2) := by decide +kernel
theorem dX7_piece_37 : decode cX7_piece 37 = .ok (.ireturn, 1) := by decide +kernel
theorem dX7_bargainIn_0 : decode cX7_bargainIn 0 = .ok (.iconst (-1), 1) := by decide +kernel
theorem dX7_bargainIn_1 : decode cX7_bargainIn 1 = .ok (.istore_n 3, 1) := by decide +kernel
theorem dX7_bargainIn_2 : decode cX7_bargainIn 2 = .ok (.iload_n 2, 1) := by decide +kernel
theorem dX7_bargainIn_3 : decode cX7_bargainIn 3 = .ok (.istore 4, 2) := by decide +kernel
theorem dX7_bargainIn_5 : decode cX7_bargainIn 5 = .ok (.iload 4, 2) := by decide +kernel
theorem dX7_bargainIn_7 : decode cX7_bargainIn 7 = .ok (.iload_n 1, 1) := by decide +kernel
theorem dX7_bargainIn_8 : decode cX7_bargainIn 8 = .ok (.if_icmp .lt 50, 3) := by decide +kernel
theorem dX7_bargainIn_11 : decode cX7_bargainIn 11 = .ok (.aload_n 0, 1) := by decide +kernel
theorem dX7_bargainIn_12 : decode cX7_bargainIn 12 = .ok (.iload 4, 2) := by decide +kernel
theorem dX7_bargainIn_14 : decode cX7_bargainIn 14 = .ok (.invokevirtual 176, 3) := by decide +kernel
theorem dX7_bargainIn_17 : decode cX7_bargainIn 17 = .ok (.istore 5, 2) := by decide +kernel
theorem dX7_bargainIn_19 : decode cX7_bargainIn 19 = .ok (.iload 5, 2) := by decide +kernel
theorem dX7_bargainIn_21 : decode cX7_bargainIn 21 = .ok (.iconst (-1), 1) := by decide +kernel
theorem dX7_bargainIn_22 : decode cX7_bargainIn 22 = .ok (.if_icmp .eq 28, 3) := by decide +kernel
theorem dX7_bargainIn_25 : decode cX7_bargainIn 25 = .ok (.iload_n 3, 1) := by decide +kernel
theorem dX7_bargainIn_26 : decode cX7_bargainIn 26 = .ok (.iconst (-1), 1) := by decide +kernel
theorem dX7_bargainIn_27 : decode cX7_bargainIn 27 = .ok (.if_icmp .eq 18, 3) := by decide +kernel
theorem dX7_bargainIn_30 : decode cX7_bargainIn 30 = .ok (.aload_n 0, 1) := by decide +kernel
theorem dX7_bargainIn_31 : decode cX7_bargainIn 31 = .ok (.iload 4, 2) := by decide +kernel
theorem dX7_bargainIn_33 : decode cX7_bargainIn 33 = .ok (.invokevirtual 231, 3) := by decide +kernel
theorem dX7_bargainIn_36 : decode cX7_bargainIn 36 = .ok (.aload_n 0, 1) := by decide +kernel
theorem dX7_bargainIn_37 : decode cX7_bargainIn 37 = .ok (.iload_n 3, 1) := by decide +kernel
theorem dX7_bargainIn_38 : decode cX7_bargainIn 38 = .ok (.invokevirtual 231, 3) := by decide +kernel
theorem dX7_bargainIn_41 : decode cX7_bargainIn 41 = .ok (.lcmp, 1) := by decide +kernel
theorem dX7_bargainIn_42 : decode cX7_bargainIn 42 = .ok (.ifCond .gt 8, 3) := by decide +kernel
theorem dX7_bargainIn_45 : decode cX7_bargainIn 45 = .ok (.iload 4, 2) := by decide +kernel
theorem dX7_bargainIn_47 : decode cX7_bargainIn 47 = .ok (.goto 4, 3) := by decide +kernel
theorem dX7_bargainIn_50 : decode cX7_bargainIn 50 = .ok (.iload_n 3, 1) := by decide +kernel
theorem dX7_bargainIn_51 : decode cX7_bargainIn 51 = .ok (.istore_n 3, 1) := by decide +kernel
theorem dX7_bargainIn_52 : decode cX7_bargainIn 52 = .ok (.iinc 4 (-1), 3) := by decide +kernel
theorem dX7_bargainIn_55 : decode cX7_bargainIn 55 = .ok (.goto (-50), 3) := by decide +kernel
theorem dX7_bargainIn_58 : decode cX7_bargainIn 58 = .ok (.iload_n 3, 1) := by decide +kernel
theorem dX7_bargainIn_59 : decode cX7_bargainIn 59 = .ok (.ireturn, 1) := by decide +kernel
theorem dX7_bargain_0 : decode cX7_bargain 0 = .ok (.iload_n 1, 1) := by decide +kernel
theorem dX7_bargain_1 : decode cX7_bargain 1 = .ok (.invokestatic 197, 3) := by decide +kernel
theorem dX7_bargain_4 : decode cX7_bargain 4 = .ok (.ifCond .eq 13, 3) := by decide +kernel
theorem dX7_bargain_7 : decode cX7_bargain 7 = .ok (.iload_n 2, 1) := by decide +kernel
theorem dX7_bargain_8 : decode cX7_bargain 8 = .ok (.iload_n 1, 1) := by decide +kernel
theorem dX7_bargain_9 : decode cX7_bargain 9 = .ok (.bipush 63, 2) := by decide +kernel
theorem dX7_bargain_11 : decode cX7_bargain 11 = .ok (.invokestatic 68, 3) := by decide +kernel
theorem dX7_bargain_14 : decode cX7_bargain 14 = .ok (.ifCond .ne 6, 3) := by decide +kernel
theorem dX7_bargain_17 : decode cX7_bargain 17 = .ok (.bipush (-102), 2) := by decide +kernel
theorem dX7_bargain_19 : decode cX7_bargain 19 = .ok (.ireturn, 1) := by decide +kernel
theorem dX7_bargain_20 : decode cX7_bargain 20 = .ok (.aload_n 0, 1) := by decide +kernel
theorem dX7_bargain_21 : decode cX7_bargain 21 = .ok (.getfield 119, 3) := by decide +kernel
theorem dX7_bargain_24 : decode cX7_bargain 24 = .ok (.ifCond .ne 8, 3) := by decide +kernel
theorem dX7_bargain_27 : decode cX7_bargain 27 = .ok (.bipush (-103), 2) := by decide +kernel
theorem dX7_bargain_29 : decode cX7_bargain 29 = .ok (.goto 9, 3) := by decide +kernel
theorem dX7_bargain_32 : decode cX7_bargain 32 = .ok (.aload_n 0, 1) := by decide +kernel
theorem dX7_bargain_33 : decode cX7_bargain 33 = .ok (.iload_n 1, 1) := by decide +kernel
theorem dX7_bargain_34 : decode cX7_bargain 34 = .ok (.iload_n 2, 1) := by decide +kernel
theorem dX7_bargain_35 : decode cX7_bargain 35 = .ok (.invokevirtual 244, 3) := by decide +kernel
theorem dX7_bargain_38 : decode cX7_bargain 38 = .ok (.ireturn, 1) := by decide +kernel
theorem dX7_crossingOf_0 : decode cX7_crossingOf 0 = .ok (.iconst 0, 1) := by decide +kernel
theorem dX7_crossingOf_1 : decode cX7_crossingOf 1 = .ok (.istore_n 3, 1) := by decide +kernel
theorem dX7_crossingOf_2 : decode cX7_crossingOf 2 = .ok (.iload_n 3, 1) := by decide +kernel
theorem dX7_crossingOf_3 : decode cX7_crossingOf 3 = .ok (.bipush 64, 2) := by decide +kernel
theorem dX7_crossingOf_5 : decode cX7_crossingOf 5 = .ok (.if_icmp .ge 39, 3) := by decide +kernel
theorem dX7_crossingOf_8 : decode cX7_crossingOf 8 = .ok (.aload_n 0, 1) := by decide +kernel
theorem dX7_crossingOf_9 : decode cX7_crossingOf 9 = .ok (.iload_n 1, 1) := by decide +kernel
theorem dX7_crossingOf_10 : decode cX7_crossingOf 10 = .ok (.iload_n 3, 1) := by decide +kernel
theorem dX7_crossingOf_11 : decode cX7_crossingOf 11 = .ok (.invokevirtual 202, 3) := by decide +kernel
theorem dX7_crossingOf_14 : decode cX7_crossingOf 14 = .ok (.ifCond .eq 24, 3) := by decide +kernel
theorem dX7_crossingOf_17 : decode cX7_crossingOf 17 = .ok (.aload_n 0, 1) := by decide +kernel
theorem dX7_crossingOf_18 : decode cX7_crossingOf 18 = .ok (.iload_n 2, 1) := by decide +kernel
theorem dX7_crossingOf_19 : decode cX7_crossingOf 19 = .ok (.iload_n 3, 1) := by decide +kernel
theorem dX7_crossingOf_20 : decode cX7_crossingOf 20 = .ok (.invokevirtual 202, 3) := by decide +kernel
theorem dX7_crossingOf_23 : decode cX7_crossingOf 23 = .ok (.ifCond .eq 15, 3) := by decide +kernel
theorem dX7_crossingOf_26 : decode cX7_crossingOf 26 = .ok (.aload_n 0, 1) := by decide +kernel
theorem dX7_crossingOf_27 : decode cX7_crossingOf 27 = .ok (.iload_n 2, 1) := by decide +kernel
theorem dX7_crossingOf_28 : decode cX7_crossingOf 28 = .ok (.iload_n 1, 1) := by decide +kernel
theorem dX7_crossingOf_29 : decode cX7_crossingOf 29 = .ok (.iload_n 3, 1) := by decide +kernel
theorem dX7_crossingOf_30 : decode cX7_crossingOf 30 = .ok (.invokevirtual 159, 3) := by decide +kernel
theorem dX7_crossingOf_33 : decode cX7_crossingOf 33 = .ok (.ifCond .eq 5, 3) := by decide +kernel
theorem dX7_crossingOf_36 : decode cX7_crossingOf 36 = .ok (.iload_n 3, 1) := by decide +kernel
theorem dX7_crossingOf_37 : decode cX7_crossingOf 37 = .ok (.ireturn, 1) := by decide +kernel
theorem dX7_crossingOf_38 : decode cX7_crossingOf 38 = .ok (.iinc 3 1, 3) := by decide +kernel
theorem dX7_crossingOf_41 : decode cX7_crossingOf 41 = .ok (.goto (-39), 3) := by decide +kernel
theorem dX7_crossingOf_44 : decode cX7_crossingOf 44 = .ok (.iconst (-1), 1) := by decide +kernel
theorem dX7_crossingOf_45 : decode cX7_crossingOf 45 = .ok (.ireturn, 1) := by decide +kernel
theorem dX7_crossing_0 : decode cX7_crossing 0 = .ok (.aload_n 0, 1) := by decide +kernel
theorem dX7_crossing_1 : decode cX7_crossing 1 = .ok (.iload_n 1, 1) := by decide +kernel
theorem dX7_crossing_2 : decode cX7_crossing 2 = .ok (.invokevirtual 191, 3) := by decide +kernel
theorem dX7_crossing_5 : decode cX7_crossing 5 = .ok (.ifCond .eq 25, 3) := by decide +kernel
theorem dX7_crossing_8 : decode cX7_crossing 8 = .ok (.aload_n 0, 1) := by decide +kernel
theorem dX7_crossing_9 : decode cX7_crossing 9 = .ok (.iload_n 2, 1) := by decide +kernel
theorem dX7_crossing_10 : decode cX7_crossing 10 = .ok (.invokevirtual 191, 3) := by decide +kernel
theorem dX7_crossing_13 : decode cX7_crossing 13 = .ok (.ifCond .eq 17, 3) := by decide +kernel
theorem dX7_crossing_16 : decode cX7_crossing 16 = .ok (.iload_n 1, 1) := by decide +kernel
theorem dX7_crossing_17 : decode cX7_crossing 17 = .ok (.iload_n 2, 1) := by decide +kernel
theorem dX7_crossing_18 : decode cX7_crossing 18 = .ok (.if_icmp .eq 12, 3) := by decide +kernel
theorem dX7_crossing_21 : decode cX7_crossing 21 = .ok (.aload_n 0, 1) := by decide +kernel
theorem dX7_crossing_22 : decode cX7_crossing 22 = .ok (.iload_n 1, 1) := by decide +kernel
theorem dX7_crossing_23 : decode cX7_crossing 23 = .ok (.iload_n 2, 1) := by decide +kernel
theorem dX7_crossing_24 : decode cX7_crossing 24 = .ok (.invokevirtual 247, 3) := by decide +kernel
theorem dX7_crossing_27 : decode cX7_crossing 27 = .ok (.goto 5, 3) := by decide +kernel
theorem dX7_crossing_30 : decode cX7_crossing 30 = .ok (.bipush (-101), 2) := by decide +kernel
theorem dX7_crossing_32 : decode cX7_crossing 32 = .ok (.ireturn, 1) := by decide +kernel
theorem dX7_would_0 : decode cX7_would 0 = .ok (.aload_n 0, 1) := by decide +kernel
theorem dX7_would_1 : decode cX7_would 1 = .ok (.iload_n 1, 1) := by decide +kernel
theorem dX7_would_2 : decode cX7_would 2 = .ok (.iload_n 2, 1) := by decide +kernel
theorem dX7_would_3 : decode cX7_would 3 = .ok (.iload_n 3, 1) := by decide +kernel
theorem dX7_would_4 : decode cX7_would 4 = .ok (.iload 4, 2) := by decide +kernel
theorem dX7_would_6 : decode cX7_would 6 = .ok (.invokevirtual 219, 3) := by decide +kernel
theorem dX7_would_9 : decode cX7_would 9 = .ok (.istore 5, 2) := by decide +kernel
theorem dX7_would_11 : decode cX7_would 11 = .ok (.iload 5, 2) := by decide +kernel
theorem dX7_would_13 : decode cX7_would 13 = .ok (.ifCond .ge 6, 3) := by decide +kernel
theorem dX7_would_16 : decode cX7_would 16 = .ok (.iload 5, 2) := by decide +kernel
theorem dX7_would_18 : decode cX7_would 18 = .ok (.ireturn, 1) := by decide +kernel
theorem dX7_would_19 : decode cX7_would 19 = .ok (.aload_n 0, 1) := by decide +kernel
theorem dX7_would_20 : decode cX7_would 20 = .ok (.iload_n 1, 1) := by decide +kernel
theorem dX7_would_21 : decode cX7_would 21 = .ok (.iload_n 2, 1) := by decide +kernel
theorem dX7_would_22 : decode cX7_would 22 = .ok (.iload_n 3, 1) := by decide +kernel
theorem dX7_would_23 : decode cX7_would 23 = .ok (.iload 4, 2) := by decide +kernel
theorem dX7_would_25 : decode cX7_would 25 = .ok (.bipush 100, 2) := by decide +kernel
theorem dX7_would_27 : decode cX7_would 27 = .ok (.idiv, 1) := by decide +kernel
theorem dX7_would_28 : decode cX7_would 28 = .ok (.iload 4, 2) := by decide +kernel
theorem dX7_would_30 : decode cX7_would 30 = .ok (.bipush 100, 2) := by decide +kernel
theorem dX7_would_32 : decode cX7_would 32 = .ok (.irem, 1) := by decide +kernel
theorem dX7_would_33 : decode cX7_would 33 = .ok (.invokevirtual 115, 3) := by decide +kernel
theorem dX7_would_36 : decode cX7_would 36 = .ok (.aload_n 0, 1) := by decide +kernel
theorem dX7_would_37 : decode cX7_would 37 = .ok (.aload_n 0, 1) := by decide +kernel
theorem dX7_would_38 : decode cX7_would 38 = .ok (.getfield 108, 3) := by decide +kernel
theorem dX7_would_41 : decode cX7_would 41 = .ok (.iconst 1, 1) := by decide +kernel
theorem dX7_would_42 : decode cX7_would 42 = .ok (.isub, 1) := by decide +kernel
theorem dX7_would_43 : decode cX7_would 43 = .ok (.invokevirtual 182, 3) := by decide +kernel
theorem dX7_would_46 : decode cX7_would 46 = .ok (.istore 6, 2) := by decide +kernel
theorem dX7_would_48 : decode cX7_would 48 = .ok (.aload_n 0, 1) := by decide +kernel
theorem dX7_would_49 : decode cX7_would 49 = .ok (.aload_n 0, 1) := by decide +kernel
theorem dX7_would_50 : decode cX7_would 50 = .ok (.getfield 108, 3) := by decide +kernel
theorem dX7_would_53 : decode cX7_would 53 = .ok (.iconst 1, 1) := by decide +kernel
theorem dX7_would_54 : decode cX7_would 54 = .ok (.isub, 1) := by decide +kernel
theorem dX7_would_55 : decode cX7_would 55 = .ok (.invokevirtual 226, 3) := by decide +kernel
theorem dX7_would_58 : decode cX7_would 58 = .ok (.iload 6, 2) := by decide +kernel
theorem dX7_would_60 : decode cX7_would 60 = .ok (.ireturn, 1) := by decide +kernel
theorem dX7_see_0 : decode cX7_see 0 = .ok (.aload_n 0, 1) := by decide +kernel
theorem dX7_see_1 : decode cX7_see 1 = .ok (.iload_n 1, 1) := by decide +kernel
theorem dX7_see_2 : decode cX7_see 2 = .ok (.invokevirtual 191, 3) := by decide +kernel
theorem dX7_see_5 : decode cX7_see 5 = .ok (.ifCond .eq 10, 3) := by decide +kernel
theorem dX7_see_8 : decode cX7_see 8 = .ok (.iload_n 2, 1) := by decide +kernel
theorem dX7_see_9 : decode cX7_see 9 = .ok (.invokestatic 197, 3) := by decide +kernel
theorem dX7_see_12 : decode cX7_see 12 = .ok (.ifCond .ne 6, 3) := by decide +kernel
theorem dX7_see_15 : decode cX7_see 15 = .ok (.bipush (-101), 2) := by decide +kernel
theorem dX7_see_17 : decode cX7_see 17 = .ok (.ireturn, 1) := by decide +kernel
theorem dX7_see_18 : decode cX7_see 18 = .ok (.aload_n 0, 1) := by decide +kernel
theorem dX7_see_19 : decode cX7_see 19 = .ok (.getfield 122, 3) := by decide +kernel
theorem dX7_see_22 : decode cX7_see 22 = .ok (.bipush 6, 2) := by decide +kernel
theorem dX7_see_24 : decode cX7_see 24 = .ok (.if_icmp .ne 6, 3) := by decide +kernel
theorem dX7_see_27 : decode cX7_see 27 = .ok (.bipush (-104), 2) := by decide +kernel
theorem dX7_see_29 : decode cX7_see 29 = .ok (.ireturn, 1) := by decide +kernel
theorem dX7_see_30 : decode cX7_see 30 = .ok (.aload_n 0, 1) := by decide +kernel
theorem dX7_see_31 : decode cX7_see 31 = .ok (.getfield 28, 3) := by decide +kernel
theorem dX7_see_34 : decode cX7_see 34 = .ok (.aload_n 0, 1) := by decide +kernel
theorem dX7_see_35 : decode cX7_see 35 = .ok (.getfield 122, 3) := by decide +kernel
theorem dX7_see_38 : decode cX7_see 38 = .ok (.iload_n 1, 1) := by decide +kernel
theorem dX7_see_39 : decode cX7_see 39 = .ok (.iastore, 1) := by decide +kernel
theorem dX7_see_40 : decode cX7_see 40 = .ok (.aload_n 0, 1) := by decide +kernel
theorem dX7_see_41 : decode cX7_see 41 = .ok (.getfield 31, 3) := by decide +kernel
theorem dX7_see_44 : decode cX7_see 44 = .ok (.aload_n 0, 1) := by decide +kernel
theorem dX7_see_45 : decode cX7_see 45 = .ok (.getfield 122, 3) := by decide +kernel
theorem dX7_see_48 : decode cX7_see 48 = .ok (.iload_n 2, 1) := by decide +kernel
theorem dX7_see_49 : decode cX7_see 49 = .ok (.iastore, 1) := by decide +kernel
theorem dX7_see_50 : decode cX7_see 50 = .ok (.aload_n 0, 1) := by decide +kernel
theorem dX7_see_51 : decode cX7_see 51 = .ok (.getfield 34, 3) := by decide +kernel
theorem dX7_see_54 : decode cX7_see 54 = .ok (.aload_n 0, 1) := by decide +kernel
theorem dX7_see_55 : decode cX7_see 55 = .ok (.getfield 122, 3) := by decide +kernel
theorem dX7_see_58 : decode cX7_see 58 = .ok (.iload_n 3, 1) := by decide +kernel
theorem dX7_see_59 : decode cX7_see 59 = .ok (.iastore, 1) := by decide +kernel
theorem dX7_see_60 : decode cX7_see 60 = .ok (.aload_n 0, 1) := by decide +kernel
theorem dX7_see_61 : decode cX7_see 61 = .ok (.dup, 1) := by decide +kernel
theorem dX7_see_62 : decode cX7_see 62 = .ok (.getfield 122, 3) := by decide +kernel
theorem dX7_see_65 : decode cX7_see 65 = .ok (.iconst 1, 1) := by decide +kernel
theorem dX7_see_66 : decode cX7_see 66 = .ok (.iadd, 1) := by decide +kernel
theorem dX7_see_67 : decode cX7_see 67 = .ok (.putfield 122, 3) := by decide +kernel
theorem dX7_see_70 : decode cX7_see 70 = .ok (.aload_n 0, 1) := by decide +kernel
theorem dX7_see_71 : decode cX7_see 71 = .ok (.getfield 122, 3) := by decide +kernel
theorem dX7_see_74 : decode cX7_see 74 = .ok (.ireturn, 1) := by decide +kernel
theorem dX7_forget_0 : decode cX7_forget 0 = .ok (.aload_n 0, 1) := by decide +kernel
theorem dX7_forget_1 : decode cX7_forget 1 = .ok (.getfield 122, 3) := by decide +kernel
theorem dX7_forget_4 : decode cX7_forget 4 = .ok (.istore_n 1, 1) := by decide +kernel
theorem dX7_forget_5 : decode cX7_forget 5 = .ok (.aload_n 0, 1) := by decide +kernel
theorem dX7_forget_6 : decode cX7_forget 6 = .ok (.iconst 0, 1) := by decide +kernel
theorem dX7_forget_7 : decode cX7_forget 7 = .ok (.putfield 122, 3) := by decide +kernel
theorem dX7_forget_10 : decode cX7_forget 10 = .ok (.iload_n 1, 1) := by decide +kernel
theorem dX7_forget_11 : decode cX7_forget 11 = .ok (.ireturn, 1) := by decide +kernel
theorem dX7_asKind_0 : decode cX7_asKind 0 = .ok (.iload_n 2, 1) := by decide +kernel
theorem dX7_asKind_1 : decode cX7_asKind 1 = .ok (.aload_n 0, 1) := by decide +kernel
theorem dX7_asKind_2 : decode cX7_asKind 2 = .ok (.getfield 13, 3) := by decide +kernel
theorem dX7_asKind_5 : decode cX7_asKind 5 = .ok (.iload_n 1, 1) := by decide +kernel
theorem dX7_asKind_6 : decode cX7_asKind 6 = .ok (.iaload, 1) := by decide +kernel
theorem dX7_asKind_7 : decode cX7_asKind 7 = .ok (.aload_n 0, 1) := by decide +kernel
theorem dX7_asKind_8 : decode cX7_asKind 8 = .ok (.getfield 16, 3) := by decide +kernel
theorem dX7_asKind_11 : decode cX7_asKind 11 = .ok (.iload_n 1, 1) := by decide +kernel
theorem dX7_asKind_12 : decode cX7_asKind 12 = .ok (.iaload, 1) := by decide +kernel
theorem dX7_asKind_13 : decode cX7_asKind 13 = .ok (.aload_n 0, 1) := by decide +kernel
theorem dX7_asKind_14 : decode cX7_asKind 14 = .ok (.getfield 19, 3) := by decide +kernel
theorem dX7_asKind_17 : decode cX7_asKind 17 = .ok (.iload_n 1, 1) := by decide +kernel
theorem dX7_asKind_18 : decode cX7_asKind 18 = .ok (.iaload, 1) := by decide +kernel
theorem dX7_asKind_19 : decode cX7_asKind 19 = .ok (.iload_n 3, 1) := by decide +kernel
theorem dX7_asKind_20 : decode cX7_asKind 20 = .ok (.invokestatic 135, 3) := by decide +kernel
theorem dX7_asKind_23 : decode cX7_asKind 23 = .ok (.lreturn, 1) := by decide +kernel
theorem dX7_sortsOf_0 : decode cX7_sortsOf 0 = .ok (.iconst 0, 1) := by decide +kernel
theorem dX7_sortsOf_1 : decode cX7_sortsOf 1 = .ok (.istore_n 2, 1) := by decide +kernel
theorem dX7_sortsOf_2 : decode cX7_sortsOf 2 = .ok (.iconst 0, 1) := by decide +kernel
theorem dX7_sortsOf_3 : decode cX7_sortsOf 3 = .ok (.istore_n 3, 1) := by decide +kernel
theorem dX7_sortsOf_4 : decode cX7_sortsOf 4 = .ok (.iload_n 3, 1) := by decide +kernel
theorem dX7_sortsOf_5 : decode cX7_sortsOf 5 = .ok (.iconst 4, 1) := by decide +kernel
theorem dX7_sortsOf_6 : decode cX7_sortsOf 6 = .ok (.if_icmp .gt 93, 3) := by decide +kernel
theorem dX7_sortsOf_9 : decode cX7_sortsOf 9 = .ok (.iconst 1, 1) := by decide +kernel
theorem dX7_sortsOf_10 : decode cX7_sortsOf 10 = .ok (.istore 4, 2) := by decide +kernel
theorem dX7_sortsOf_12 : decode cX7_sortsOf 12 = .ok (.iconst 0, 1) := by decide +kernel
theorem dX7_sortsOf_13 : decode cX7_sortsOf 13 = .ok (.istore 5, 2) := by decide +kernel
theorem dX7_sortsOf_15 : decode cX7_sortsOf 15 = .ok (.iload 5, 2) := by decide +kernel
theorem dX7_sortsOf_17 : decode cX7_sortsOf 17 = .ok (.aload_n 0, 1) := by decide +kernel
theorem dX7_sortsOf_18 : decode cX7_sortsOf 18 = .ok (.getfield 122, 3) := by decide +kernel
theorem dX7_sortsOf_21 : decode cX7_sortsOf 21 = .ok (.if_icmp .ge 57, 3) := by decide +kernel
theorem dX7_sortsOf_24 : decode cX7_sortsOf 24 = .ok (.iload 4, 2) := by decide +kernel
theorem dX7_sortsOf_26 : decode cX7_sortsOf 26 = .ok (.ifCond .eq 43, 3) := by decide +kernel
theorem dX7_sortsOf_29 : decode cX7_sortsOf 29 = .ok (.aload_n 0, 1) := by decide +kernel
theorem dX7_sortsOf_30 : decode cX7_sortsOf 30 = .ok (.getfield 28, 3) := by decide +kernel
theorem dX7_sortsOf_33 : decode cX7_sortsOf 33 = .ok (.iload 5, 2) := by decide +kernel
theorem dX7_sortsOf_35 : decode cX7_sortsOf 35 = .ok (.iaload, 1) := by decide +kernel
theorem dX7_sortsOf_36 : decode cX7_sortsOf 36 = .ok (.iload_n 1, 1) := by decide +kernel
theorem dX7_sortsOf_37 : decode cX7_sortsOf 37 = .ok (.if_icmp .ne 28, 3) := by decide +kernel
theorem dX7_sortsOf_40 : decode cX7_sortsOf 40 = .ok (.aload_n 0, 1) := by decide +kernel
theorem dX7_sortsOf_41 : decode cX7_sortsOf 41 = .ok (.iload_n 1, 1) := by decide +kernel
theorem dX7_sortsOf_42 : decode cX7_sortsOf 42 = .ok (.iload_n 3, 1) := by decide +kernel
theorem dX7_sortsOf_43 : decode cX7_sortsOf 43 = .ok (.aload_n 0, 1) := by decide +kernel
theorem dX7_sortsOf_44 : decode cX7_sortsOf 44 = .ok (.getfield 31, 3) := by decide +kernel
theorem dX7_sortsOf_47 : decode cX7_sortsOf 47 = .ok (.iload 5, 2) := by decide +kernel
theorem dX7_sortsOf_49 : decode cX7_sortsOf 49 = .ok (.iaload, 1) := by decide +kernel
theorem dX7_sortsOf_50 : decode cX7_sortsOf 50 = .ok (.invokevirtual 250, 3) := by decide +kernel
theorem dX7_sortsOf_53 : decode cX7_sortsOf 53 = .ok (.aload_n 0, 1) := by decide +kernel
theorem dX7_sortsOf_54 : decode cX7_sortsOf 54 = .ok (.getfield 34, 3) := by decide +kernel
theorem dX7_sortsOf_57 : decode cX7_sortsOf 57 = .ok (.iload 5, 2) := by decide +kernel
theorem dX7_sortsOf_59 : decode cX7_sortsOf 59 = .ok (.iaload, 1) := by decide +kernel
theorem dX7_sortsOf_60 : decode cX7_sortsOf 60 = .ok (.i2l, 1) := by decide +kernel
theorem dX7_sortsOf_61 : decode cX7_sortsOf 61 = .ok (.lcmp, 1) := by decide +kernel
theorem dX7_sortsOf_62 : decode cX7_sortsOf 62 = .ok (.ifCond .ne 7, 3) := by decide +kernel
theorem dX7_sortsOf_65 : decode cX7_sortsOf 65 = .ok (.iconst 1, 1) := by decide +kernel
theorem dX7_sortsOf_66 : decode cX7_sortsOf 66 = .ok (.goto 4, 3) := by decide +kernel
theorem dX7_sortsOf_69 : decode cX7_sortsOf 69 = .ok (.iconst 0, 1) := by decide +kernel
theorem dX7_sortsOf_70 : decode cX7_sortsOf 70 = .ok (.istore 4, 2) := by decide +kernel
theorem dX7_sortsOf_72 : decode cX7_sortsOf 72 = .ok (.iinc 5 1, 3) := by decide +kernel
theorem dX7_sortsOf_75 : decode cX7_sortsOf 75 = .ok (.goto (-60), 3) := by decide +kernel
theorem dX7_sortsOf_78 : decode cX7_sortsOf 78 = .ok (.iload_n 2, 1) := by decide +kernel
theorem dX7_sortsOf_79 : decode cX7_sortsOf 79 = .ok (.iload 4, 2) := by decide +kernel
theorem dX7_sortsOf_81 : decode cX7_sortsOf 81 = .ok (.ifCond .eq 9, 3) := by decide +kernel
theorem dX7_sortsOf_84 : decode cX7_sortsOf 84 = .ok (.iconst 1, 1) := by decide +kernel
theorem dX7_sortsOf_85 : decode cX7_sortsOf 85 = .ok (.iload_n 3, 1) := by decide +kernel
theorem dX7_sortsOf_86 : decode cX7_sortsOf 86 = .ok (.ishl, 1) := by decide +kernel
theorem dX7_sortsOf_87 : decode cX7_sortsOf 87 = .ok (.goto 4, 3) := by decide +kernel
theorem dX7_sortsOf_90 : decode cX7_sortsOf 90 = .ok (.iconst 0, 1) := by decide +kernel
theorem dX7_sortsOf_91 : decode cX7_sortsOf 91 = .ok (.ior, 1) := by decide +kernel
theorem dX7_sortsOf_92 : decode cX7_sortsOf 92 = .ok (.istore_n 2, 1) := by decide +kernel
theorem dX7_sortsOf_93 : decode cX7_sortsOf 93 = .ok (.iinc 3 1, 3) := by decide +kernel
theorem dX7_sortsOf_96 : decode cX7_sortsOf 96 = .ok (.goto (-92), 3) := by decide +kernel
theorem dX7_sortsOf_99 : decode cX7_sortsOf 99 = .ok (.iload_n 2, 1) := by decide +kernel
theorem dX7_sortsOf_100 : decode cX7_sortsOf 100 = .ok (.ireturn, 1) := by decide +kernel
theorem dX7_worstBy_0 : decode cX7_worstBy 0 = .ok (.iconst 0, 1) := by decide +kernel
theorem dX7_worstBy_1 : decode cX7_worstBy 1 = .ok (.istore 4, 2) := by decide +kernel
theorem dX7_worstBy_3 : decode cX7_worstBy 3 = .ok (.iconst 0, 1) := by decide +kernel
theorem dX7_worstBy_4 : decode cX7_worstBy 4 = .ok (.istore 5, 2) := by decide +kernel
theorem dX7_worstBy_6 : decode cX7_worstBy 6 = .ok (.iload 5, 2) := by decide +kernel
theorem dX7_worstBy_8 : decode cX7_worstBy 8 = .ok (.iconst 4, 1) := by decide +kernel
theorem dX7_worstBy_9 : decode cX7_worstBy 9 = .ok (.if_icmp .gt 91, 3) := by decide +kernel
theorem dX7_worstBy_12 : decode cX7_worstBy 12 = .ok (.iconst 0, 1) := by decide +kernel
theorem dX7_worstBy_13 : decode cX7_worstBy 13 = .ok (.istore 6, 2) := by decide +kernel
theorem dX7_worstBy_15 : decode cX7_worstBy 15 = .ok (.iconst 0, 1) := by decide +kernel
theorem dX7_worstBy_16 : decode cX7_worstBy 16 = .ok (.istore 7, 2) := by decide +kernel
theorem dX7_worstBy_18 : decode cX7_worstBy 18 = .ok (.iload 7, 2) := by decide +kernel
theorem dX7_worstBy_20 : decode cX7_worstBy 20 = .ok (.iconst 4, 1) := by decide +kernel
theorem dX7_worstBy_21 : decode cX7_worstBy 21 = .ok (.if_icmp .gt 57, 3) := by decide +kernel
theorem dX7_worstBy_24 : decode cX7_worstBy 24 = .ok (.iload 6, 2) := by decide +kernel
theorem dX7_worstBy_26 : decode cX7_worstBy 26 = .ok (.iload_n 2, 1) := by decide +kernel
theorem dX7_worstBy_27 : decode cX7_worstBy 27 = .ok (.iload 5, 2) := by decide +kernel
theorem dX7_worstBy_29 : decode cX7_worstBy 29 = .ok (.invokestatic 253, 3) := by decide +kernel
theorem dX7_worstBy_32 : decode cX7_worstBy 32 = .ok (.ifCond .eq 36, 3) := by decide +kernel
theorem dX7_worstBy_35 : decode cX7_worstBy 35 = .ok (.iload_n 2, 1) := by decide +kernel
theorem dX7_worstBy_36 : decode cX7_worstBy 36 = .ok (.iload 7, 2) := by decide +kernel
theorem dX7_worstBy_38 : decode cX7_worstBy 38 = .ok (.invokestatic 253, 3) := by decide +kernel
theorem dX7_worstBy_41 : decode cX7_worstBy 41 = .ok (.ifCond .eq 27, 3) := by decide +kernel
theorem dX7_worstBy_44 : decode cX7_worstBy 44 = .ok (.aload_n 0, 1) := by decide +kernel
theorem dX7_worstBy_45 : decode cX7_worstBy 45 = .ok (.iload_n 1, 1) := by decide +kernel
theorem dX7_worstBy_46 : decode cX7_worstBy 46 = .ok (.iload 5, 2) := by decide +kernel
theorem dX7_worstBy_48 : decode cX7_worstBy 48 = .ok (.iload_n 3, 1) := by decide +kernel
theorem dX7_worstBy_49 : decode cX7_worstBy 49 = .ok (.invokevirtual 250, 3) := by decide +kernel
theorem dX7_worstBy_52 : decode cX7_worstBy 52 = .ok (.aload_n 0, 1) := by decide +kernel
theorem dX7_worstBy_53 : decode cX7_worstBy 53 = .ok (.iload_n 1, 1) := by decide +kernel
theorem dX7_worstBy_54 : decode cX7_worstBy 54 = .ok (.iload 7, 2) := by decide +kernel
theorem dX7_worstBy_56 : decode cX7_worstBy 56 = .ok (.iload_n 3, 1) := by decide +kernel
theorem dX7_worstBy_57 : decode cX7_worstBy 57 = .ok (.invokevirtual 250, 3) := by decide +kernel
theorem dX7_worstBy_60 : decode cX7_worstBy 60 = .ok (.lcmp, 1) := by decide +kernel
theorem dX7_worstBy_61 : decode cX7_worstBy 61 = .ok (.ifCond .ne 7, 3) := by decide +kernel
theorem dX7_worstBy_64 : decode cX7_worstBy 64 = .ok (.iconst 1, 1) := by decide +kernel
theorem dX7_worstBy_65 : decode cX7_worstBy 65 = .ok (.goto 4, 3) := by decide +kernel
theorem dX7_worstBy_68 : decode cX7_worstBy 68 = .ok (.iconst 0, 1) := by decide +kernel
theorem dX7_worstBy_69 : decode cX7_worstBy 69 = .ok (.iadd, 1) := by decide +kernel
theorem dX7_worstBy_70 : decode cX7_worstBy 70 = .ok (.istore 6, 2) := by decide +kernel
theorem dX7_worstBy_72 : decode cX7_worstBy 72 = .ok (.iinc 7 1, 3) := by decide +kernel
theorem dX7_worstBy_75 : decode cX7_worstBy 75 = .ok (.goto (-57), 3) := by decide +kernel
theorem dX7_worstBy_78 : decode cX7_worstBy 78 = .ok (.iload 6, 2) := by decide +kernel
theorem dX7_worstBy_80 : decode cX7_worstBy 80 = .ok (.iload 4, 2) := by decide +kernel
theorem dX7_worstBy_82 : decode cX7_worstBy 82 = .ok (.if_icmp .le 8, 3) := by decide +kernel
theorem dX7_worstBy_85 : decode cX7_worstBy 85 = .ok (.iload 6, 2) := by decide +kernel
theorem dX7_worstBy_87 : decode cX7_worstBy 87 = .ok (.goto 5, 3) := by decide +kernel
theorem dX7_worstBy_90 : decode cX7_worstBy 90 = .ok (.iload 4, 2) := by decide +kernel
theorem dX7_worstBy_92 : decode cX7_worstBy 92 = .ok (.istore 4, 2) := by decide +kernel
theorem dX7_worstBy_94 : decode cX7_worstBy 94 = .ok (.iinc 5 1, 3) := by decide +kernel
theorem dX7_worstBy_97 : decode cX7_worstBy 97 = .ok (.goto (-91), 3) := by decide +kernel
theorem dX7_worstBy_100 : decode cX7_worstBy 100 = .ok (.iload 4, 2) := by decide +kernel
theorem dX7_worstBy_102 : decode cX7_worstBy 102 = .ok (.ireturn, 1) := by decide +kernel
theorem dX7_askOf_0 : decode cX7_askOf 0 = .ok (.aload_n 0, 1) := by decide +kernel
theorem dX7_askOf_1 : decode cX7_askOf 1 = .ok (.iload_n 1, 1) := by decide +kernel
theorem dX7_askOf_2 : decode cX7_askOf 2 = .ok (.invokevirtual 185, 3) := by decide +kernel
theorem dX7_askOf_5 : decode cX7_askOf 5 = .ok (.istore_n 2, 1) := by decide +kernel
theorem dX7_askOf_6 : decode cX7_askOf 6 = .ok (.iconst (-1), 1) := by decide +kernel
theorem dX7_askOf_7 : decode cX7_askOf 7 = .ok (.istore_n 3, 1) := by decide +kernel
theorem dX7_askOf_8 : decode cX7_askOf 8 = .ok (.ldc_w 256, 3) := by decide +kernel
theorem dX7_askOf_11 : decode cX7_askOf 11 = .ok (.istore 4, 2) := by decide +kernel
theorem dX7_askOf_13 : decode cX7_askOf 13 = .ok (.aload_n 0, 1) := by decide +kernel
theorem dX7_askOf_14 : decode cX7_askOf 14 = .ok (.getfield 19, 3) := by decide +kernel
theorem dX7_askOf_17 : decode cX7_askOf 17 = .ok (.iload_n 1, 1) := by decide +kernel
theorem dX7_askOf_18 : decode cX7_askOf 18 = .ok (.iaload, 1) := by decide +kernel
theorem dX7_askOf_19 : decode cX7_askOf 19 = .ok (.istore 5, 2) := by decide +kernel
theorem dX7_askOf_21 : decode cX7_askOf 21 = .ok (.iload 5, 2) := by decide +kernel
theorem dX7_askOf_23 : decode cX7_askOf 23 = .ok (.aload_n 0, 1) := by decide +kernel
theorem dX7_askOf_24 : decode cX7_askOf 24 = .ok (.getfield 22, 3) := by decide +kernel
theorem dX7_askOf_27 : decode cX7_askOf 27 = .ok (.iload_n 1, 1) := by decide +kernel
theorem dX7_askOf_28 : decode cX7_askOf 28 = .ok (.iaload, 1) := by decide +kernel
theorem dX7_askOf_29 : decode cX7_askOf 29 = .ok (.if_icmp .gt 53, 3) := by decide +kernel
theorem dX7_askOf_32 : decode cX7_askOf 32 = .ok (.iload_n 2, 1) := by decide +kernel
theorem dX7_askOf_33 : decode cX7_askOf 33 = .ok (.ifCond .eq 49, 3) := by decide +kernel
theorem dX7_askOf_36 : decode cX7_askOf 36 = .ok (.aload_n 0, 1) := by decide +kernel
theorem dX7_askOf_37 : decode cX7_askOf 37 = .ok (.iload_n 1, 1) := by decide +kernel
theorem dX7_askOf_38 : decode cX7_askOf 38 = .ok (.iload_n 2, 1) := by decide +kernel
theorem dX7_askOf_39 : decode cX7_askOf 39 = .ok (.iload 5, 2) := by decide +kernel
theorem dX7_askOf_41 : decode cX7_askOf 41 = .ok (.invokevirtual 257, 3) := by decide +kernel
theorem dX7_askOf_44 : decode cX7_askOf 44 = .ok (.istore 6, 2) := by decide +kernel
theorem dX7_askOf_46 : decode cX7_askOf 46 = .ok (.iload 6, 2) := by decide +kernel
theorem dX7_askOf_48 : decode cX7_askOf 48 = .ok (.iload 4, 2) := by decide +kernel
theorem dX7_askOf_50 : decode cX7_askOf 50 = .ok (.if_icmp .ge 8, 3) := by decide +kernel
theorem dX7_askOf_53 : decode cX7_askOf 53 = .ok (.iload 5, 2) := by decide +kernel
theorem dX7_askOf_55 : decode cX7_askOf 55 = .ok (.goto 4, 3) := by decide +kernel
theorem dX7_askOf_58 : decode cX7_askOf 58 = .ok (.iload_n 3, 1) := by decide +kernel
end
section
theorem dX7_askOf_59 : decode cX7_askOf 59 = .ok (.istore_n 3, 1) := by decide +kernel
theorem dX7_askOf_60 : decode cX7_askOf 60 = .ok (.iload 6, 2) := by decide +kernel
theorem dX7_askOf_62 : decode cX7_askOf 62 = .ok (.iload 4, 2) := by decide +kernel
theorem dX7_askOf_64 : decode cX7_askOf 64 = .ok (.if_icmp .ge 8, 3) := by decide +kernel
theorem dX7_askOf_67 : decode cX7_askOf 67 = .ok (.iload 6, 2) := by decide +kernel
theorem dX7_askOf_69 : decode cX7_askOf 69 = .ok (.goto 5, 3) := by decide +kernel
theorem dX7_askOf_72 : decode cX7_askOf 72 = .ok (.iload 4, 2) := by decide +kernel
theorem dX7_askOf_74 : decode cX7_askOf 74 = .ok (.istore 4, 2) := by decide +kernel
theorem dX7_askOf_76 : decode cX7_askOf 76 = .ok (.iinc 5 1, 3) := by decide +kernel
theorem dX7_askOf_79 : decode cX7_askOf 79 = .ok (.goto (-58), 3) := by decide +kernel
theorem dX7_askOf_82 : decode cX7_askOf 82 = .ok (.iload_n 3, 1) := by decide +kernel
theorem dX7_askOf_83 : decode cX7_askOf 83 = .ok (.ireturn, 1) := by decide +kernel
theorem dX7_draw_0 : decode cX7_draw 0 = .ok (.aload_n 0, 1) := by decide +kernel
theorem dX7_draw_1 : decode cX7_draw 1 = .ok (.ldc2_w 261, 3) := by decide +kernel
theorem dX7_draw_4 : decode cX7_draw 4 = .ok (.aload_n 0, 1) := by decide +kernel
theorem dX7_draw_5 : decode cX7_draw 5 = .ok (.getfield 263, 3) := by decide +kernel
theorem dX7_draw_8 : decode cX7_draw 8 = .ok (.lmul, 1) := by decide +kernel
theorem dX7_draw_9 : decode cX7_draw 9 = .ok (.ldc2_w 267, 3) := by decide +kernel
theorem dX7_draw_12 : decode cX7_draw 12 = .ok (.ladd, 1) := by decide +kernel
theorem dX7_draw_13 : decode cX7_draw 13 = .ok (.ldc2_w 141, 3) := by decide +kernel
theorem dX7_draw_16 : decode cX7_draw 16 = .ok (.land, 1) := by decide +kernel
theorem dX7_draw_17 : decode cX7_draw 17 = .ok (.putfield 263, 3) := by decide +kernel
theorem dX7_draw_20 : decode cX7_draw 20 = .ok (.aload_n 0, 1) := by decide +kernel
theorem dX7_draw_21 : decode cX7_draw 21 = .ok (.getfield 263, 3) := by decide +kernel
theorem dX7_draw_24 : decode cX7_draw 24 = .ok (.ldc2_w 269, 3) := by decide +kernel
theorem dX7_draw_27 : decode cX7_draw 27 = .ok (.ldiv, 1) := by decide +kernel
theorem dX7_draw_28 : decode cX7_draw 28 = .ok (.iload_n 1, 1) := by decide +kernel
theorem dX7_draw_29 : decode cX7_draw 29 = .ok (.i2l, 1) := by decide +kernel
theorem dX7_draw_30 : decode cX7_draw 30 = .ok (.lrem, 1) := by decide +kernel
theorem dX7_draw_31 : decode cX7_draw 31 = .ok (.l2i, 1) := by decide +kernel
theorem dX7_draw_32 : decode cX7_draw 32 = .ok (.ireturn, 1) := by decide +kernel
theorem dX7_drawOne_0 : decode cX7_drawOne 0 = .ok (.aload_n 0, 1) := by decide +kernel
theorem dX7_drawOne_1 : decode cX7_drawOne 1 = .ok (.iconst 5, 1) := by decide +kernel
theorem dX7_drawOne_2 : decode cX7_drawOne 2 = .ok (.invokevirtual 271, 3) := by decide +kernel
theorem dX7_drawOne_5 : decode cX7_drawOne 5 = .ok (.istore_n 1, 1) := by decide +kernel
theorem dX7_drawOne_6 : decode cX7_drawOne 6 = .ok (.aload_n 0, 1) := by decide +kernel
theorem dX7_drawOne_7 : decode cX7_drawOne 7 = .ok (.bipush 19, 2) := by decide +kernel
theorem dX7_drawOne_9 : decode cX7_drawOne 9 = .ok (.invokevirtual 271, 3) := by decide +kernel
theorem dX7_drawOne_12 : decode cX7_drawOne 12 = .ok (.bipush 9, 2) := by decide +kernel
theorem dX7_drawOne_14 : decode cX7_drawOne 14 = .ok (.isub, 1) := by decide +kernel
theorem dX7_drawOne_15 : decode cX7_drawOne 15 = .ok (.istore_n 2, 1) := by decide +kernel
theorem dX7_drawOne_16 : decode cX7_drawOne 16 = .ok (.aload_n 0, 1) := by decide +kernel
theorem dX7_drawOne_17 : decode cX7_drawOne 17 = .ok (.sipush 199, 3) := by decide +kernel
theorem dX7_drawOne_20 : decode cX7_drawOne 20 = .ok (.invokevirtual 271, 3) := by decide +kernel
theorem dX7_drawOne_23 : decode cX7_drawOne 23 = .ok (.bipush 99, 2) := by decide +kernel
theorem dX7_drawOne_25 : decode cX7_drawOne 25 = .ok (.isub, 1) := by decide +kernel
theorem dX7_drawOne_26 : decode cX7_drawOne 26 = .ok (.istore_n 3, 1) := by decide +kernel
theorem dX7_drawOne_27 : decode cX7_drawOne 27 = .ok (.aload_n 0, 1) := by decide +kernel
theorem dX7_drawOne_28 : decode cX7_drawOne 28 = .ok (.bipush 64, 2) := by decide +kernel
theorem dX7_drawOne_30 : decode cX7_drawOne 30 = .ok (.invokevirtual 271, 3) := by decide +kernel
theorem dX7_drawOne_33 : decode cX7_drawOne 33 = .ok (.istore 4, 2) := by decide +kernel
theorem dX7_drawOne_35 : decode cX7_drawOne 35 = .ok (.aload_n 0, 1) := by decide +kernel
theorem dX7_drawOne_36 : decode cX7_drawOne 36 = .ok (.iload_n 1, 1) := by decide +kernel
theorem dX7_drawOne_37 : decode cX7_drawOne 37 = .ok (.iload_n 2, 1) := by decide +kernel
theorem dX7_drawOne_38 : decode cX7_drawOne 38 = .ok (.iload_n 3, 1) := by decide +kernel
theorem dX7_drawOne_39 : decode cX7_drawOne 39 = .ok (.iload 4, 2) := by decide +kernel
theorem dX7_drawOne_41 : decode cX7_drawOne 41 = .ok (.iload 4, 2) := by decide +kernel
theorem dX7_drawOne_43 : decode cX7_drawOne 43 = .ok (.aload_n 0, 1) := by decide +kernel
theorem dX7_drawOne_44 : decode cX7_drawOne 44 = .ok (.bipush 64, 2) := by decide +kernel
theorem dX7_drawOne_46 : decode cX7_drawOne 46 = .ok (.iload 4, 2) := by decide +kernel
theorem dX7_drawOne_48 : decode cX7_drawOne 48 = .ok (.isub, 1) := by decide +kernel
theorem dX7_drawOne_49 : decode cX7_drawOne 49 = .ok (.invokevirtual 271, 3) := by decide +kernel
theorem dX7_drawOne_52 : decode cX7_drawOne 52 = .ok (.iadd, 1) := by decide +kernel
theorem dX7_drawOne_53 : decode cX7_drawOne 53 = .ok (.invokevirtual 115, 3) := by decide +kernel
theorem dX7_drawOne_56 : decode cX7_drawOne 56 = .ok (.return_, 1) := by decide +kernel
theorem dX7_drawnNow_0 : decode cX7_drawnNow 0 = .ok (.aload_n 0, 1) := by decide +kernel
theorem dX7_drawnNow_1 : decode cX7_drawnNow 1 = .ok (.getfield 108, 3) := by decide +kernel
theorem dX7_drawnNow_4 : decode cX7_drawnNow 4 = .ok (.istore 4, 2) := by decide +kernel
theorem dX7_drawnNow_6 : decode cX7_drawnNow 6 = .ok (.aload_n 0, 1) := by decide +kernel
theorem dX7_drawnNow_7 : decode cX7_drawnNow 7 = .ok (.iload_n 2, 1) := by decide +kernel
theorem dX7_drawnNow_8 : decode cX7_drawnNow 8 = .ok (.i2l, 1) := by decide +kernel
theorem dX7_drawnNow_9 : decode cX7_drawnNow 9 = .ok (.putfield 263, 3) := by decide +kernel
theorem dX7_drawnNow_12 : decode cX7_drawnNow 12 = .ok (.iconst 0, 1) := by decide +kernel
theorem dX7_drawnNow_13 : decode cX7_drawnNow 13 = .ok (.istore 5, 2) := by decide +kernel
theorem dX7_drawnNow_15 : decode cX7_drawnNow 15 = .ok (.iload 5, 2) := by decide +kernel
theorem dX7_drawnNow_17 : decode cX7_drawnNow 17 = .ok (.iload_n 1, 1) := by decide +kernel
theorem dX7_drawnNow_18 : decode cX7_drawnNow 18 = .ok (.if_icmp .ge 13, 3) := by decide +kernel
theorem dX7_drawnNow_21 : decode cX7_drawnNow 21 = .ok (.aload_n 0, 1) := by decide +kernel
theorem dX7_drawnNow_22 : decode cX7_drawnNow 22 = .ok (.invokevirtual 274, 3) := by decide +kernel
theorem dX7_drawnNow_25 : decode cX7_drawnNow 25 = .ok (.iinc 5 1, 3) := by decide +kernel
theorem dX7_drawnNow_28 : decode cX7_drawnNow 28 = .ok (.goto (-13), 3) := by decide +kernel
theorem dX7_drawnNow_31 : decode cX7_drawnNow 31 = .ok (.iconst 0, 1) := by decide +kernel
theorem dX7_drawnNow_32 : decode cX7_drawnNow 32 = .ok (.istore 5, 2) := by decide +kernel
theorem dX7_drawnNow_34 : decode cX7_drawnNow 34 = .ok (.iconst 0, 1) := by decide +kernel
theorem dX7_drawnNow_35 : decode cX7_drawnNow 35 = .ok (.istore 6, 2) := by decide +kernel
theorem dX7_drawnNow_37 : decode cX7_drawnNow 37 = .ok (.iload 6, 2) := by decide +kernel
theorem dX7_drawnNow_39 : decode cX7_drawnNow 39 = .ok (.bipush 64, 2) := by decide +kernel
theorem dX7_drawnNow_41 : decode cX7_drawnNow 41 = .ok (.if_icmp .ge 30, 3) := by decide +kernel
theorem dX7_drawnNow_44 : decode cX7_drawnNow 44 = .ok (.iload 5, 2) := by decide +kernel
theorem dX7_drawnNow_46 : decode cX7_drawnNow 46 = .ok (.aload_n 0, 1) := by decide +kernel
theorem dX7_drawnNow_47 : decode cX7_drawnNow 47 = .ok (.iload 6, 2) := by decide +kernel
theorem dX7_drawnNow_49 : decode cX7_drawnNow 49 = .ok (.invokevirtual 176, 3) := by decide +kernel
theorem dX7_drawnNow_52 : decode cX7_drawnNow 52 = .ok (.iload 4, 2) := by decide +kernel
theorem dX7_drawnNow_54 : decode cX7_drawnNow 54 = .ok (.if_icmp .lt 7, 3) := by decide +kernel
theorem dX7_drawnNow_57 : decode cX7_drawnNow 57 = .ok (.iconst 1, 1) := by decide +kernel
theorem dX7_drawnNow_58 : decode cX7_drawnNow 58 = .ok (.goto 4, 3) := by decide +kernel
theorem dX7_drawnNow_61 : decode cX7_drawnNow 61 = .ok (.iconst 0, 1) := by decide +kernel
theorem dX7_drawnNow_62 : decode cX7_drawnNow 62 = .ok (.iadd, 1) := by decide +kernel
theorem dX7_drawnNow_63 : decode cX7_drawnNow 63 = .ok (.istore 5, 2) := by decide +kernel
theorem dX7_drawnNow_65 : decode cX7_drawnNow 65 = .ok (.iinc 6 1, 3) := by decide +kernel
theorem dX7_drawnNow_68 : decode cX7_drawnNow 68 = .ok (.goto (-31), 3) := by decide +kernel
theorem dX7_drawnNow_71 : decode cX7_drawnNow 71 = .ok (.iconst 0, 1) := by decide +kernel
theorem dX7_drawnNow_72 : decode cX7_drawnNow 72 = .ok (.istore 6, 2) := by decide +kernel
theorem dX7_drawnNow_74 : decode cX7_drawnNow 74 = .ok (.iconst 1, 1) := by decide +kernel
theorem dX7_drawnNow_75 : decode cX7_drawnNow 75 = .ok (.istore 7, 2) := by decide +kernel
theorem dX7_drawnNow_77 : decode cX7_drawnNow 77 = .ok (.iload 7, 2) := by decide +kernel
theorem dX7_drawnNow_79 : decode cX7_drawnNow 79 = .ok (.sipush 128, 3) := by decide +kernel
theorem dX7_drawnNow_82 : decode cX7_drawnNow 82 = .ok (.if_icmp .ge 31, 3) := by decide +kernel
theorem dX7_drawnNow_85 : decode cX7_drawnNow 85 = .ok (.iload 6, 2) := by decide +kernel
theorem dX7_drawnNow_87 : decode cX7_drawnNow 87 = .ok (.aload_n 0, 1) := by decide +kernel
theorem dX7_drawnNow_88 : decode cX7_drawnNow 88 = .ok (.getfield 25, 3) := by decide +kernel
theorem dX7_drawnNow_91 : decode cX7_drawnNow 91 = .ok (.iload 7, 2) := by decide +kernel
theorem dX7_drawnNow_93 : decode cX7_drawnNow 93 = .ok (.iaload, 1) := by decide +kernel
theorem dX7_drawnNow_94 : decode cX7_drawnNow 94 = .ok (.iload 4, 2) := by decide +kernel
theorem dX7_drawnNow_96 : decode cX7_drawnNow 96 = .ok (.if_icmp .lt 7, 3) := by decide +kernel
theorem dX7_drawnNow_99 : decode cX7_drawnNow 99 = .ok (.iconst 1, 1) := by decide +kernel
theorem dX7_drawnNow_100 : decode cX7_drawnNow 100 = .ok (.goto 4, 3) := by decide +kernel
theorem dX7_drawnNow_103 : decode cX7_drawnNow 103 = .ok (.iconst 0, 1) := by decide +kernel
theorem dX7_drawnNow_104 : decode cX7_drawnNow 104 = .ok (.iadd, 1) := by decide +kernel
theorem dX7_drawnNow_105 : decode cX7_drawnNow 105 = .ok (.istore 6, 2) := by decide +kernel
theorem dX7_drawnNow_107 : decode cX7_drawnNow 107 = .ok (.iinc 7 1, 3) := by decide +kernel
theorem dX7_drawnNow_110 : decode cX7_drawnNow 110 = .ok (.goto (-33), 3) := by decide +kernel
theorem dX7_drawnNow_113 : decode cX7_drawnNow 113 = .ok (.aload_n 0, 1) := by decide +kernel
theorem dX7_drawnNow_114 : decode cX7_drawnNow 114 = .ok (.iload 4, 2) := by decide +kernel
theorem dX7_drawnNow_116 : decode cX7_drawnNow 116 = .ok (.invokevirtual 226, 3) := by decide +kernel
theorem dX7_drawnNow_119 : decode cX7_drawnNow 119 = .ok (.iload_n 3, 1) := by decide +kernel
theorem dX7_drawnNow_120 : decode cX7_drawnNow 120 = .ok (.ifCond .ne 8, 3) := by decide +kernel
theorem dX7_drawnNow_123 : decode cX7_drawnNow 123 = .ok (.iload 5, 2) := by decide +kernel
theorem dX7_drawnNow_125 : decode cX7_drawnNow 125 = .ok (.goto 18, 3) := by decide +kernel
theorem dX7_drawnNow_128 : decode cX7_drawnNow 128 = .ok (.iload_n 3, 1) := by decide +kernel
theorem dX7_drawnNow_129 : decode cX7_drawnNow 129 = .ok (.iconst 1, 1) := by decide +kernel
theorem dX7_drawnNow_130 : decode cX7_drawnNow 130 = .ok (.if_icmp .ne 8, 3) := by decide +kernel
theorem dX7_drawnNow_133 : decode cX7_drawnNow 133 = .ok (.iload 6, 2) := by decide +kernel
theorem dX7_drawnNow_135 : decode cX7_drawnNow 135 = .ok (.goto 8, 3) := by decide +kernel
theorem dX7_drawnNow_138 : decode cX7_drawnNow 138 = .ok (.aload_n 0, 1) := by decide +kernel
theorem dX7_drawnNow_139 : decode cX7_drawnNow 139 = .ok (.getfield 263, 3) := by decide +kernel
theorem dX7_drawnNow_142 : decode cX7_drawnNow 142 = .ok (.l2i, 1) := by decide +kernel
theorem dX7_drawnNow_143 : decode cX7_drawnNow 143 = .ok (.ireturn, 1) := by decide +kernel
theorem dX7_drawn_0 : decode cX7_drawn 0 = .ok (.iload_n 1, 1) := by decide +kernel
theorem dX7_drawn_1 : decode cX7_drawn 1 = .ok (.iconst 1, 1) := by decide +kernel
theorem dX7_drawn_2 : decode cX7_drawn 2 = .ok (.bipush 30, 2) := by decide +kernel
theorem dX7_drawn_4 : decode cX7_drawn 4 = .ok (.invokestatic 68, 3) := by decide +kernel
theorem dX7_drawn_7 : decode cX7_drawn 7 = .ok (.ifCond .eq 16, 3) := by decide +kernel
theorem dX7_drawn_10 : decode cX7_drawn 10 = .ok (.iload_n 2, 1) := by decide +kernel
theorem dX7_drawn_11 : decode cX7_drawn 11 = .ok (.ifCond .lt 12, 3) := by decide +kernel
theorem dX7_drawn_14 : decode cX7_drawn 14 = .ok (.iload_n 3, 1) := by decide +kernel
theorem dX7_drawn_15 : decode cX7_drawn 15 = .ok (.iconst 0, 1) := by decide +kernel
theorem dX7_drawn_16 : decode cX7_drawn 16 = .ok (.iconst 2, 1) := by decide +kernel
theorem dX7_drawn_17 : decode cX7_drawn 17 = .ok (.invokestatic 68, 3) := by decide +kernel
theorem dX7_drawn_20 : decode cX7_drawn 20 = .ok (.ifCond .ne 6, 3) := by decide +kernel
theorem dX7_drawn_23 : decode cX7_drawn 23 = .ok (.bipush (-102), 2) := by decide +kernel
theorem dX7_drawn_25 : decode cX7_drawn 25 = .ok (.ireturn, 1) := by decide +kernel
theorem dX7_drawn_26 : decode cX7_drawn 26 = .ok (.aload_n 0, 1) := by decide +kernel
theorem dX7_drawn_27 : decode cX7_drawn 27 = .ok (.getfield 119, 3) := by decide +kernel
theorem dX7_drawn_30 : decode cX7_drawn 30 = .ok (.ifCond .ne 8, 3) := by decide +kernel
theorem dX7_drawn_33 : decode cX7_drawn 33 = .ok (.bipush (-103), 2) := by decide +kernel
theorem dX7_drawn_35 : decode cX7_drawn 35 = .ok (.goto 10, 3) := by decide +kernel
theorem dX7_drawn_38 : decode cX7_drawn 38 = .ok (.aload_n 0, 1) := by decide +kernel
theorem dX7_drawn_39 : decode cX7_drawn 39 = .ok (.iload_n 1, 1) := by decide +kernel
theorem dX7_drawn_40 : decode cX7_drawn 40 = .ok (.iload_n 2, 1) := by decide +kernel
theorem dX7_drawn_41 : decode cX7_drawn 41 = .ok (.iload_n 3, 1) := by decide +kernel
theorem dX7_drawn_42 : decode cX7_drawn 42 = .ok (.invokevirtual 277, 3) := by decide +kernel
theorem dX7_drawn_45 : decode cX7_drawn 45 = .ok (.ireturn, 1) := by decide +kernel
theorem dX7_image_0 : decode cX7_image 0 = .ok (.aload_n 0, 1) := by decide +kernel
theorem dX7_image_1 : decode cX7_image 1 = .ok (.getfield 119, 3) := by decide +kernel
theorem dX7_image_4 : decode cX7_image 4 = .ok (.ifCond .ne 6, 3) := by decide +kernel
theorem dX7_image_7 : decode cX7_image 7 = .ok (.bipush (-103), 2) := by decide +kernel
theorem dX7_image_9 : decode cX7_image 9 = .ok (.ireturn, 1) := by decide +kernel
theorem dX7_image_10 : decode cX7_image 10 = .ok (.aload_n 0, 1) := by decide +kernel
theorem dX7_image_11 : decode cX7_image 11 = .ok (.iconst 1, 1) := by decide +kernel
theorem dX7_image_12 : decode cX7_image 12 = .ok (.putfield 280, 3) := by decide +kernel
theorem dX7_image_15 : decode cX7_image 15 = .ok (.aload_n 0, 1) := by decide +kernel
theorem dX7_image_16 : decode cX7_image 16 = .ok (.aload_n 0, 1) := by decide +kernel
theorem dX7_image_17 : decode cX7_image 17 = .ok (.getfield 119, 3) := by decide +kernel
theorem dX7_image_20 : decode cX7_image 20 = .ok (.putfield 283, 3) := by decide +kernel
theorem dX7_image_23 : decode cX7_image 23 = .ok (.aload_n 0, 1) := by decide +kernel
theorem dX7_image_24 : decode cX7_image 24 = .ok (.aload_n 0, 1) := by decide +kernel
theorem dX7_image_25 : decode cX7_image 25 = .ok (.getfield 108, 3) := by decide +kernel
theorem dX7_image_28 : decode cX7_image 28 = .ok (.putfield 286, 3) := by decide +kernel
theorem dX7_image_31 : decode cX7_image 31 = .ok (.aload_n 0, 1) := by decide +kernel
theorem dX7_image_32 : decode cX7_image 32 = .ok (.aload_n 0, 1) := by decide +kernel
theorem dX7_image_33 : decode cX7_image 33 = .ok (.getfield 122, 3) := by decide +kernel
theorem dX7_image_36 : decode cX7_image 36 = .ok (.putfield 289, 3) := by decide +kernel
theorem dX7_image_39 : decode cX7_image 39 = .ok (.iconst 0, 1) := by decide +kernel
theorem dX7_image_40 : decode cX7_image 40 = .ok (.istore_n 1, 1) := by decide +kernel
theorem dX7_image_41 : decode cX7_image 41 = .ok (.iload_n 1, 1) := by decide +kernel
theorem dX7_image_42 : decode cX7_image 42 = .ok (.bipush 40, 2) := by decide +kernel
theorem dX7_image_44 : decode cX7_image 44 = .ok (.if_icmp .ge 69, 3) := by decide +kernel
theorem dX7_image_47 : decode cX7_image 47 = .ok (.aload_n 0, 1) := by decide +kernel
theorem dX7_image_48 : decode cX7_image 48 = .ok (.getfield 44, 3) := by decide +kernel
theorem dX7_image_51 : decode cX7_image 51 = .ok (.iload_n 1, 1) := by decide +kernel
theorem dX7_image_52 : decode cX7_image 52 = .ok (.aload_n 0, 1) := by decide +kernel
theorem dX7_image_53 : decode cX7_image 53 = .ok (.getfield 7, 3) := by decide +kernel
theorem dX7_image_56 : decode cX7_image 56 = .ok (.iload_n 1, 1) := by decide +kernel
theorem dX7_image_57 : decode cX7_image 57 = .ok (.iaload, 1) := by decide +kernel
theorem dX7_image_58 : decode cX7_image 58 = .ok (.iastore, 1) := by decide +kernel
theorem dX7_image_59 : decode cX7_image 59 = .ok (.aload_n 0, 1) := by decide +kernel
theorem dX7_image_60 : decode cX7_image 60 = .ok (.getfield 47, 3) := by decide +kernel
theorem dX7_image_63 : decode cX7_image 63 = .ok (.iload_n 1, 1) := by decide +kernel
theorem dX7_image_64 : decode cX7_image 64 = .ok (.aload_n 0, 1) := by decide +kernel
theorem dX7_image_65 : decode cX7_image 65 = .ok (.getfield 13, 3) := by decide +kernel
theorem dX7_image_68 : decode cX7_image 68 = .ok (.iload_n 1, 1) := by decide +kernel
theorem dX7_image_69 : decode cX7_image 69 = .ok (.iaload, 1) := by decide +kernel
theorem dX7_image_70 : decode cX7_image 70 = .ok (.iastore, 1) := by decide +kernel
theorem dX7_image_71 : decode cX7_image 71 = .ok (.aload_n 0, 1) := by decide +kernel
theorem dX7_image_72 : decode cX7_image 72 = .ok (.getfield 50, 3) := by decide +kernel
theorem dX7_image_75 : decode cX7_image 75 = .ok (.iload_n 1, 1) := by decide +kernel
theorem dX7_image_76 : decode cX7_image 76 = .ok (.aload_n 0, 1) := by decide +kernel
theorem dX7_image_77 : decode cX7_image 77 = .ok (.getfield 16, 3) := by decide +kernel
theorem dX7_image_80 : decode cX7_image 80 = .ok (.iload_n 1, 1) := by decide +kernel
theorem dX7_image_81 : decode cX7_image 81 = .ok (.iaload, 1) := by decide +kernel
theorem dX7_image_82 : decode cX7_image 82 = .ok (.iastore, 1) := by decide +kernel
theorem dX7_image_83 : decode cX7_image 83 = .ok (.aload_n 0, 1) := by decide +kernel
theorem dX7_image_84 : decode cX7_image 84 = .ok (.getfield 53, 3) := by decide +kernel
theorem dX7_image_87 : decode cX7_image 87 = .ok (.iload_n 1, 1) := by decide +kernel
theorem dX7_image_88 : decode cX7_image 88 = .ok (.aload_n 0, 1) := by decide +kernel
theorem dX7_image_89 : decode cX7_image 89 = .ok (.getfield 19, 3) := by decide +kernel
theorem dX7_image_92 : decode cX7_image 92 = .ok (.iload_n 1, 1) := by decide +kernel
theorem dX7_image_93 : decode cX7_image 93 = .ok (.iaload, 1) := by decide +kernel
theorem dX7_image_94 : decode cX7_image 94 = .ok (.iastore, 1) := by decide +kernel
theorem dX7_image_95 : decode cX7_image 95 = .ok (.aload_n 0, 1) := by decide +kernel
theorem dX7_image_96 : decode cX7_image 96 = .ok (.getfield 56, 3) := by decide +kernel
theorem dX7_image_99 : decode cX7_image 99 = .ok (.iload_n 1, 1) := by decide +kernel
theorem dX7_image_100 : decode cX7_image 100 = .ok (.aload_n 0, 1) := by decide +kernel
theorem dX7_image_101 : decode cX7_image 101 = .ok (.getfield 22, 3) := by decide +kernel
theorem dX7_image_104 : decode cX7_image 104 = .ok (.iload_n 1, 1) := by decide +kernel
theorem dX7_image_105 : decode cX7_image 105 = .ok (.iaload, 1) := by decide +kernel
theorem dX7_image_106 : decode cX7_image 106 = .ok (.iastore, 1) := by decide +kernel
theorem dX7_image_107 : decode cX7_image 107 = .ok (.iinc 1 1, 3) := by decide +kernel
theorem dX7_image_110 : decode cX7_image 110 = .ok (.goto (-69), 3) := by decide +kernel
theorem dX7_image_113 : decode cX7_image 113 = .ok (.iconst 0, 1) := by decide +kernel
theorem dX7_image_114 : decode cX7_image 114 = .ok (.istore_n 1, 1) := by decide +kernel
theorem dX7_image_115 : decode cX7_image 115 = .ok (.iload_n 1, 1) := by decide +kernel
theorem dX7_image_116 : decode cX7_image 116 = .ok (.bipush 6, 2) := by decide +kernel
theorem dX7_image_118 : decode cX7_image 118 = .ok (.if_icmp .ge 45, 3) := by decide +kernel
theorem dX7_image_121 : decode cX7_image 121 = .ok (.aload_n 0, 1) := by decide +kernel
theorem dX7_image_122 : decode cX7_image 122 = .ok (.getfield 59, 3) := by decide +kernel
theorem dX7_image_125 : decode cX7_image 125 = .ok (.iload_n 1, 1) := by decide +kernel
theorem dX7_image_126 : decode cX7_image 126 = .ok (.aload_n 0, 1) := by decide +kernel
theorem dX7_image_127 : decode cX7_image 127 = .ok (.getfield 28, 3) := by decide +kernel
theorem dX7_image_130 : decode cX7_image 130 = .ok (.iload_n 1, 1) := by decide +kernel
theorem dX7_image_131 : decode cX7_image 131 = .ok (.iaload, 1) := by decide +kernel
theorem dX7_image_132 : decode cX7_image 132 = .ok (.iastore, 1) := by decide +kernel
theorem dX7_image_133 : decode cX7_image 133 = .ok (.aload_n 0, 1) := by decide +kernel
theorem dX7_image_134 : decode cX7_image 134 = .ok (.getfield 62, 3) := by decide +kernel
theorem dX7_image_137 : decode cX7_image 137 = .ok (.iload_n 1, 1) := by decide +kernel
theorem dX7_image_138 : decode cX7_image 138 = .ok (.aload_n 0, 1) := by decide +kernel
theorem dX7_image_139 : decode cX7_image 139 = .ok (.getfield 31, 3) := by decide +kernel
theorem dX7_image_142 : decode cX7_image 142 = .ok (.iload_n 1, 1) := by decide +kernel
theorem dX7_image_143 : decode cX7_image 143 = .ok (.iaload, 1) := by decide +kernel
theorem dX7_image_144 : decode cX7_image 144 = .ok (.iastore, 1) := by decide +kernel
theorem dX7_image_145 : decode cX7_image 145 = .ok (.aload_n 0, 1) := by decide +kernel
theorem dX7_image_146 : decode cX7_image 146 = .ok (.getfield 65, 3) := by decide +kernel
theorem dX7_image_149 : decode cX7_image 149 = .ok (.iload_n 1, 1) := by decide +kernel
theorem dX7_image_150 : decode cX7_image 150 = .ok (.aload_n 0, 1) := by decide +kernel
theorem dX7_image_151 : decode cX7_image 151 = .ok (.getfield 34, 3) := by decide +kernel
theorem dX7_image_154 : decode cX7_image 154 = .ok (.iload_n 1, 1) := by decide +kernel
theorem dX7_image_155 : decode cX7_image 155 = .ok (.iaload, 1) := by decide +kernel
theorem dX7_image_156 : decode cX7_image 156 = .ok (.iastore, 1) := by decide +kernel
theorem dX7_image_157 : decode cX7_image 157 = .ok (.iinc 1 1, 3) := by decide +kernel
theorem dX7_image_160 : decode cX7_image 160 = .ok (.goto (-45), 3) := by decide +kernel
theorem dX7_image_163 : decode cX7_image 163 = .ok (.aload_n 0, 1) := by decide +kernel
theorem dX7_image_164 : decode cX7_image 164 = .ok (.getfield 108, 3) := by decide +kernel
theorem dX7_image_167 : decode cX7_image 167 = .ok (.ireturn, 1) := by decide +kernel
theorem dX7_restore_0 : decode cX7_restore 0 = .ok (.aload_n 0, 1) := by decide +kernel
theorem dX7_restore_1 : decode cX7_restore 1 = .ok (.getfield 280, 3) := by decide +kernel
theorem dX7_restore_4 : decode cX7_restore 4 = .ok (.ifCond .eq 14, 3) := by decide +kernel
theorem dX7_restore_7 : decode cX7_restore 7 = .ok (.aload_n 0, 1) := by decide +kernel
theorem dX7_restore_8 : decode cX7_restore 8 = .ok (.getfield 283, 3) := by decide +kernel
theorem dX7_restore_11 : decode cX7_restore 11 = .ok (.aload_n 0, 1) := by decide +kernel
theorem dX7_restore_12 : decode cX7_restore 12 = .ok (.getfield 119, 3) := by decide +kernel
theorem dX7_restore_15 : decode cX7_restore 15 = .ok (.if_icmp .eq 6, 3) := by decide +kernel
theorem dX7_restore_18 : decode cX7_restore 18 = .ok (.bipush (-103), 2) := by decide +kernel
theorem dX7_restore_20 : decode cX7_restore 20 = .ok (.ireturn, 1) := by decide +kernel
theorem dX7_restore_21 : decode cX7_restore 21 = .ok (.aload_n 0, 1) := by decide +kernel
theorem dX7_restore_22 : decode cX7_restore 22 = .ok (.aload_n 0, 1) := by decide +kernel
theorem dX7_restore_23 : decode cX7_restore 23 = .ok (.getfield 289, 3) := by decide +kernel
theorem dX7_restore_26 : decode cX7_restore 26 = .ok (.putfield 122, 3) := by decide +kernel
theorem dX7_restore_29 : decode cX7_restore 29 = .ok (.iconst 0, 1) := by decide +kernel
theorem dX7_restore_30 : decode cX7_restore 30 = .ok (.istore_n 1, 1) := by decide +kernel
theorem dX7_restore_31 : decode cX7_restore 31 = .ok (.iload_n 1, 1) := by decide +kernel
theorem dX7_restore_32 : decode cX7_restore 32 = .ok (.bipush 40, 2) := by decide +kernel
theorem dX7_restore_34 : decode cX7_restore 34 = .ok (.if_icmp .ge 69, 3) := by decide +kernel
theorem dX7_restore_37 : decode cX7_restore 37 = .ok (.aload_n 0, 1) := by decide +kernel
theorem dX7_restore_38 : decode cX7_restore 38 = .ok (.getfield 7, 3) := by decide +kernel
theorem dX7_restore_41 : decode cX7_restore 41 = .ok (.iload_n 1, 1) := by decide +kernel
theorem dX7_restore_42 : decode cX7_restore 42 = .ok (.aload_n 0, 1) := by decide +kernel
theorem dX7_restore_43 : decode cX7_restore 43 = .ok (.getfield 44, 3) := by decide +kernel
theorem dX7_restore_46 : decode cX7_restore 46 = .ok (.iload_n 1, 1) := by decide +kernel
theorem dX7_restore_47 : decode cX7_restore 47 = .ok (.iaload, 1) := by decide +kernel
theorem dX7_restore_48 : decode cX7_restore 48 = .ok (.iastore, 1) := by decide +kernel
theorem dX7_restore_49 : decode cX7_restore 49 = .ok (.aload_n 0, 1) := by decide +kernel
theorem dX7_restore_50 : decode cX7_restore 50 = .ok (.getfield 13, 3) := by decide +kernel
theorem dX7_restore_53 : decode cX7_restore 53 = .ok (.iload_n 1, 1) := by decide +kernel
theorem dX7_restore_54 : decode cX7_restore 54 = .ok (.aload_n 0, 1) := by decide +kernel
theorem dX7_restore_55 : decode cX7_restore 55 = .ok (.getfield 47, 3) := by decide +kernel
theorem dX7_restore_58 : decode cX7_restore 58 = .ok (.iload_n 1, 1) := by decide +kernel
theorem dX7_restore_59 : decode cX7_restore 59 = .ok (.iaload, 1) := by decide +kernel
theorem dX7_restore_60 : decode cX7_restore 60 = .ok (.iastore, 1) := by decide +kernel
theorem dX7_restore_61 : decode cX7_restore 61 = .ok (.aload_n 0, 1) := by decide +kernel
theorem dX7_restore_62 : decode cX7_restore 62 = .ok (.getfield 16, 3) := by decide +kernel
theorem dX7_restore_65 : decode cX7_restore 65 = .ok (.iload_n 1, 1) := by decide +kernel
theorem dX7_restore_66 : decode cX7_restore 66 = .ok (.aload_n 0, 1) := by decide +kernel
theorem dX7_restore_67 : decode cX7_restore 67 = .ok (.getfield 50, 3) := by decide +kernel
theorem dX7_restore_70 : decode cX7_restore 70 = .ok (.iload_n 1, 1) := by decide +kernel
theorem dX7_restore_71 : decode cX7_restore 71 = .ok (.iaload, 1) := by decide +kernel
theorem dX7_restore_72 : decode cX7_restore 72 = .ok (.iastore, 1) := by decide +kernel
theorem dX7_restore_73 : decode cX7_restore 73 = .ok (.aload_n 0, 1) := by decide +kernel
theorem dX7_restore_74 : decode cX7_restore 74 = .ok (.getfield 19, 3) := by decide +kernel
theorem dX7_restore_77 : decode cX7_restore 77 = .ok (.iload_n 1, 1) := by decide +kernel
theorem dX7_restore_78 : decode cX7_restore 78 = .ok (.aload_n 0, 1) := by decide +kernel
theorem dX7_restore_79 : decode cX7_restore 79 = .ok (.getfield 53, 3) := by decide +kernel
theorem dX7_restore_82 : decode cX7_restore 82 = .ok (.iload_n 1, 1) := by decide +kernel
theorem dX7_restore_83 : decode cX7_restore 83 = .ok (.iaload, 1) := by decide +kernel
theorem dX7_restore_84 : decode cX7_restore 84 = .ok (.iastore, 1) := by decide +kernel
theorem dX7_restore_85 : decode cX7_restore 85 = .ok (.aload_n 0, 1) := by decide +kernel
theorem dX7_restore_86 : decode cX7_restore 86 = .ok (.getfield 22, 3) := by decide +kernel
theorem dX7_restore_89 : decode cX7_restore 89 = .ok (.iload_n 1, 1) := by decide +kernel
theorem dX7_restore_90 : decode cX7_restore 90 = .ok (.aload_n 0, 1) := by decide +kernel
theorem dX7_restore_91 : decode cX7_restore 91 = .ok (.getfield 56, 3) := by decide +kernel
theorem dX7_restore_94 : decode cX7_restore 94 = .ok (.iload_n 1, 1) := by decide +kernel
theorem dX7_restore_95 : decode cX7_restore 95 = .ok (.iaload, 1) := by decide +kernel
theorem dX7_restore_96 : decode cX7_restore 96 = .ok (.iastore, 1) := by decide +kernel
theorem dX7_restore_97 : decode cX7_restore 97 = .ok (.iinc 1 1, 3) := by decide +kernel
theorem dX7_restore_100 : decode cX7_restore 100 = .ok (.goto (-69), 3) := by decide +kernel
theorem dX7_restore_103 : decode cX7_restore 103 = .ok (.iconst 0, 1) := by decide +kernel
theorem dX7_restore_104 : decode cX7_restore 104 = .ok (.istore_n 1, 1) := by decide +kernel
theorem dX7_restore_105 : decode cX7_restore 105 = .ok (.iload_n 1, 1) := by decide +kernel
theorem dX7_restore_106 : decode cX7_restore 106 = .ok (.bipush 6, 2) := by decide +kernel
theorem dX7_restore_108 : decode cX7_restore 108 = .ok (.if_icmp .ge 45, 3) := by decide +kernel
theorem dX7_restore_111 : decode cX7_restore 111 = .ok (.aload_n 0, 1) := by decide +kernel
theorem dX7_restore_112 : decode cX7_restore 112 = .ok (.getfield 28, 3) := by decide +kernel
theorem dX7_restore_115 : decode cX7_restore 115 = .ok (.iload_n 1, 1) := by decide +kernel
theorem dX7_restore_116 : decode cX7_restore 116 = .ok (.aload_n 0, 1) := by decide +kernel
theorem dX7_restore_117 : decode cX7_restore 117 = .ok (.getfield 59, 3) := by decide +kernel
theorem dX7_restore_120 : decode cX7_restore 120 = .ok (.iload_n 1, 1) := by decide +kernel
theorem dX7_restore_121 : decode cX7_restore 121 = .ok (.iaload, 1) := by decide +kernel
theorem dX7_restore_122 : decode cX7_restore 122 = .ok (.iastore, 1) := by decide +kernel
theorem dX7_restore_123 : decode cX7_restore 123 = .ok (.aload_n 0, 1) := by decide +kernel
theorem dX7_restore_124 : decode cX7_restore 124 = .ok (.getfield 31, 3) := by decide +kernel
theorem dX7_restore_127 : decode cX7_restore 127 = .ok (.iload_n 1, 1) := by decide +kernel
theorem dX7_restore_128 : decode cX7_restore 128 = .ok (.aload_n 0, 1) := by decide +kernel
theorem dX7_restore_129 : decode cX7_restore 129 = .ok (.getfield 62, 3) := by decide +kernel
theorem dX7_restore_132 : decode cX7_restore 132 = .ok (.iload_n 1, 1) := by decide +kernel
theorem dX7_restore_133 : decode cX7_restore 133 = .ok (.iaload, 1) := by decide +kernel
theorem dX7_restore_134 : decode cX7_restore 134 = .ok (.iastore, 1) := by decide +kernel
theorem dX7_restore_135 : decode cX7_restore 135 = .ok (.aload_n 0, 1) := by decide +kernel
theorem dX7_restore_136 : decode cX7_restore 136 = .ok (.getfield 34, 3) := by decide +kernel
theorem dX7_restore_139 : decode cX7_restore 139 = .ok (.iload_n 1, 1) := by decide +kernel
theorem dX7_restore_140 : decode cX7_restore 140 = .ok (.aload_n 0, 1) := by decide +kernel
theorem dX7_restore_141 : decode cX7_restore 141 = .ok (.getfield 65, 3) := by decide +kernel
theorem dX7_restore_144 : decode cX7_restore 144 = .ok (.iload_n 1, 1) := by decide +kernel
theorem dX7_restore_145 : decode cX7_restore 145 = .ok (.iaload, 1) := by decide +kernel
theorem dX7_restore_146 : decode cX7_restore 146 = .ok (.iastore, 1) := by decide +kernel
theorem dX7_restore_147 : decode cX7_restore 147 = .ok (.iinc 1 1, 3) := by decide +kernel
theorem dX7_restore_150 : decode cX7_restore 150 = .ok (.goto (-45), 3) := by decide +kernel
theorem dX7_restore_153 : decode cX7_restore 153 = .ok (.aload_n 0, 1) := by decide +kernel
theorem dX7_restore_154 : decode cX7_restore 154 = .ok (.aload_n 0, 1) := by decide +kernel
theorem dX7_restore_155 : decode cX7_restore 155 = .ok (.getfield 286, 3) := by decide +kernel
theorem dX7_restore_158 : decode cX7_restore 158 = .ok (.invokevirtual 226, 3) := by decide +kernel
theorem dX7_restore_161 : decode cX7_restore 161 = .ok (.aload_n 0, 1) := by decide +kernel
theorem dX7_restore_162 : decode cX7_restore 162 = .ok (.getfield 108, 3) := by decide +kernel
theorem dX7_restore_165 : decode cX7_restore 165 = .ok (.ireturn, 1) := by decide +kernel
theorem dX7_gaps_0 : decode cX7_gaps 0 = .ok (.iconst 0, 1) := by decide +kernel
theorem dX7_gaps_1 : decode cX7_gaps 1 = .ok (.istore_n 1, 1) := by decide +kernel
theorem dX7_gaps_2 : decode cX7_gaps 2 = .ok (.iconst 0, 1) := by decide +kernel
theorem dX7_gaps_3 : decode cX7_gaps 3 = .ok (.istore_n 2, 1) := by decide +kernel
theorem dX7_gaps_4 : decode cX7_gaps 4 = .ok (.iload_n 2, 1) := by decide +kernel
theorem dX7_gaps_5 : decode cX7_gaps 5 = .ok (.bipush 64, 2) := by decide +kernel
theorem dX7_gaps_7 : decode cX7_gaps 7 = .ok (.if_icmp .ge 33, 3) := by decide +kernel
theorem dX7_gaps_10 : decode cX7_gaps 10 = .ok (.aload_n 0, 1) := by decide +kernel
theorem dX7_gaps_11 : decode cX7_gaps 11 = .ok (.getfield 119, 3) := by decide +kernel
theorem dX7_gaps_14 : decode cX7_gaps 14 = .ok (.ifCond .le 26, 3) := by decide +kernel
theorem dX7_gaps_17 : decode cX7_gaps 17 = .ok (.iload_n 1, 1) := by decide +kernel
theorem dX7_gaps_18 : decode cX7_gaps 18 = .ok (.aload_n 0, 1) := by decide +kernel
theorem dX7_gaps_19 : decode cX7_gaps 19 = .ok (.iload_n 2, 1) := by decide +kernel
theorem dX7_gaps_20 : decode cX7_gaps 20 = .ok (.invokevirtual 176, 3) := by decide +kernel
theorem dX7_gaps_23 : decode cX7_gaps 23 = .ok (.iconst (-1), 1) := by decide +kernel
theorem dX7_gaps_24 : decode cX7_gaps 24 = .ok (.if_icmp .ne 7, 3) := by decide +kernel
theorem dX7_gaps_27 : decode cX7_gaps 27 = .ok (.iconst 1, 1) := by decide +kernel
theorem dX7_gaps_28 : decode cX7_gaps 28 = .ok (.goto 4, 3) := by decide +kernel
theorem dX7_gaps_31 : decode cX7_gaps 31 = .ok (.iconst 0, 1) := by decide +kernel
theorem dX7_gaps_32 : decode cX7_gaps 32 = .ok (.iadd, 1) := by decide +kernel
theorem dX7_gaps_33 : decode cX7_gaps 33 = .ok (.istore_n 1, 1) := by decide +kernel
theorem dX7_gaps_34 : decode cX7_gaps 34 = .ok (.iinc 2 1, 3) := by decide +kernel
theorem dX7_gaps_37 : decode cX7_gaps 37 = .ok (.goto (-33), 3) := by decide +kernel
theorem dX7_gaps_40 : decode cX7_gaps 40 = .ok (.iload_n 1, 1) := by decide +kernel
theorem dX7_gaps_41 : decode cX7_gaps 41 = .ok (.ireturn, 1) := by decide +kernel
theorem dX7_idle_0 : decode cX7_idle 0 = .ok (.iconst 0, 1) := by decide +kernel
theorem dX7_idle_1 : decode cX7_idle 1 = .ok (.istore_n 1, 1) := by decide +kernel
theorem dX7_idle_2 : decode cX7_idle 2 = .ok (.iconst 0, 1) := by decide +kernel
theorem dX7_idle_3 : decode cX7_idle 3 = .ok (.istore_n 2, 1) := by decide +kernel
theorem dX7_idle_4 : decode cX7_idle 4 = .ok (.iload_n 2, 1) := by decide +kernel
theorem dX7_idle_5 : decode cX7_idle 5 = .ok (.aload_n 0, 1) := by decide +kernel
theorem dX7_idle_6 : decode cX7_idle 6 = .ok (.getfield 108, 3) := by decide +kernel
theorem dX7_idle_9 : decode cX7_idle 9 = .ok (.if_icmp .ge 25, 3) := by decide +kernel
theorem dX7_idle_12 : decode cX7_idle 12 = .ok (.iload_n 1, 1) := by decide +kernel
theorem dX7_idle_13 : decode cX7_idle 13 = .ok (.aload_n 0, 1) := by decide +kernel
theorem dX7_idle_14 : decode cX7_idle 14 = .ok (.iload_n 2, 1) := by decide +kernel
theorem dX7_idle_15 : decode cX7_idle 15 = .ok (.invokevirtual 182, 3) := by decide +kernel
theorem dX7_idle_18 : decode cX7_idle 18 = .ok (.ifCond .ne 7, 3) := by decide +kernel
theorem dX7_idle_21 : decode cX7_idle 21 = .ok (.iconst 1, 1) := by decide +kernel
theorem dX7_idle_22 : decode cX7_idle 22 = .ok (.goto 4, 3) := by decide +kernel
theorem dX7_idle_25 : decode cX7_idle 25 = .ok (.iconst 0, 1) := by decide +kernel
theorem dX7_idle_26 : decode cX7_idle 26 = .ok (.iadd, 1) := by decide +kernel
theorem dX7_idle_27 : decode cX7_idle 27 = .ok (.istore_n 1, 1) := by decide +kernel
theorem dX7_idle_28 : decode cX7_idle 28 = .ok (.iinc 2 1, 3) := by decide +kernel
theorem dX7_idle_31 : decode cX7_idle 31 = .ok (.goto (-27), 3) := by decide +kernel
theorem dX7_idle_34 : decode cX7_idle 34 = .ok (.iload_n 1, 1) := by decide +kernel
theorem dX7_idle_35 : decode cX7_idle 35 = .ok (.ireturn, 1) := by decide +kernel
theorem dX7_howMany_0 : decode cX7_howMany 0 = .ok (.iload_n 1, 1) := by decide +kernel
theorem dX7_howMany_1 : decode cX7_howMany 1 = .ok (.tableswitch 102 0 7 #[47, 52, 72, 77, 82, 87, 92, 97], 47) := by decide +kernel
theorem dX7_howMany_48 : decode cX7_howMany 48 = .ok (.aload_n 0, 1) := by decide +kernel
theorem dX7_howMany_49 : decode cX7_howMany 49 = .ok (.getfield 108, 3) := by decide +kernel
theorem dX7_howMany_52 : decode cX7_howMany 52 = .ok (.ireturn, 1) := by decide +kernel
theorem dX7_howMany_53 : decode cX7_howMany 53 = .ok (.aload_n 0, 1) := by decide +kernel
theorem dX7_howMany_54 : decode cX7_howMany 54 = .ok (.getfield 119, 3) := by decide +kernel
theorem dX7_howMany_57 : decode cX7_howMany 57 = .ok (.ifCond .ne 7, 3) := by decide +kernel
theorem dX7_howMany_60 : decode cX7_howMany 60 = .ok (.iconst 0, 1) := by decide +kernel
theorem dX7_howMany_61 : decode cX7_howMany 61 = .ok (.goto 11, 3) := by decide +kernel
theorem dX7_howMany_64 : decode cX7_howMany 64 = .ok (.bipush 127, 2) := by decide +kernel
theorem dX7_howMany_66 : decode cX7_howMany 66 = .ok (.aload_n 0, 1) := by decide +kernel
theorem dX7_howMany_67 : decode cX7_howMany 67 = .ok (.iconst (-1), 1) := by decide +kernel
theorem dX7_howMany_68 : decode cX7_howMany 68 = .ok (.invokevirtual 179, 3) := by decide +kernel
theorem dX7_howMany_71 : decode cX7_howMany 71 = .ok (.isub, 1) := by decide +kernel
theorem dX7_howMany_72 : decode cX7_howMany 72 = .ok (.ireturn, 1) := by decide +kernel
theorem dX7_howMany_73 : decode cX7_howMany 73 = .ok (.aload_n 0, 1) := by decide +kernel
theorem dX7_howMany_74 : decode cX7_howMany 74 = .ok (.invokevirtual 238, 3) := by decide +kernel
theorem dX7_howMany_77 : decode cX7_howMany 77 = .ok (.ireturn, 1) := by decide +kernel
theorem dX7_howMany_78 : decode cX7_howMany 78 = .ok (.aload_n 0, 1) := by decide +kernel
theorem dX7_howMany_79 : decode cX7_howMany 79 = .ok (.invokevirtual 292, 3) := by decide +kernel
theorem dX7_howMany_82 : decode cX7_howMany 82 = .ok (.ireturn, 1) := by decide +kernel
theorem dX7_howMany_83 : decode cX7_howMany 83 = .ok (.aload_n 0, 1) := by decide +kernel
theorem dX7_howMany_84 : decode cX7_howMany 84 = .ok (.invokevirtual 295, 3) := by decide +kernel
theorem dX7_howMany_87 : decode cX7_howMany 87 = .ok (.ireturn, 1) := by decide +kernel
theorem dX7_howMany_88 : decode cX7_howMany 88 = .ok (.aload_n 0, 1) := by decide +kernel
theorem dX7_howMany_89 : decode cX7_howMany 89 = .ok (.getfield 122, 3) := by decide +kernel
theorem dX7_howMany_92 : decode cX7_howMany 92 = .ok (.ireturn, 1) := by decide +kernel
theorem dX7_howMany_93 : decode cX7_howMany 93 = .ok (.aload_n 0, 1) := by decide +kernel
theorem dX7_howMany_94 : decode cX7_howMany 94 = .ok (.getfield 72, 3) := by decide +kernel
theorem dX7_howMany_97 : decode cX7_howMany 97 = .ok (.ireturn, 1) := by decide +kernel
theorem dX7_howMany_98 : decode cX7_howMany 98 = .ok (.aload_n 0, 1) := by decide +kernel
theorem dX7_howMany_99 : decode cX7_howMany 99 = .ok (.getfield 119, 3) := by decide +kernel
theorem dX7_howMany_102 : decode cX7_howMany 102 = .ok (.ireturn, 1) := by decide +kernel
theorem dX7_howMany_103 : decode cX7_howMany 103 = .ok (.bipush (-102), 2) := by decide +kernel
theorem dX7_howMany_105 : decode cX7_howMany 105 = .ok (.ireturn, 1) := by decide +kernel
theorem dX7_count_0 : decode cX7_count 0 = .ok (.aload_n 0, 1) := by decide +kernel
theorem dX7_count_1 : decode cX7_count 1 = .ok (.iload_n 1, 1) := by decide +kernel
theorem dX7_count_2 : decode cX7_count 2 = .ok (.invokevirtual 298, 3) := by decide +kernel
theorem dX7_count_5 : decode cX7_count 5 = .ok (.ireturn, 1) := by decide +kernel
theorem dX7_mix_0 : decode cX7_mix 0 = .ok (.aload_n 0, 1) := by decide +kernel
theorem dX7_mix_1 : decode cX7_mix 1 = .ok (.ldc2_w 301, 3) := by decide +kernel
theorem dX7_mix_4 : decode cX7_mix 4 = .ok (.aload_n 0, 1) := by decide +kernel
theorem dX7_mix_5 : decode cX7_mix 5 = .ok (.getfield 303, 3) := by decide +kernel
theorem dX7_mix_8 : decode cX7_mix 8 = .ok (.lmul, 1) := by decide +kernel
theorem dX7_mix_9 : decode cX7_mix 9 = .ok (.lload_n 1, 1) := by decide +kernel
theorem dX7_mix_10 : decode cX7_mix 10 = .ok (.ladd, 1) := by decide +kernel
theorem dX7_mix_11 : decode cX7_mix 11 = .ok (.putfield 303, 3) := by decide +kernel
theorem dX7_mix_14 : decode cX7_mix 14 = .ok (.return_, 1) := by decide +kernel
theorem dX7_mixDesk_0 : decode cX7_mixDesk 0 = .ok (.iconst 0, 1) := by decide +kernel
theorem dX7_mixDesk_1 : decode cX7_mixDesk 1 = .ok (.istore_n 1, 1) := by decide +kernel
theorem dX7_mixDesk_2 : decode cX7_mixDesk 2 = .ok (.iload_n 1, 1) := by decide +kernel
theorem dX7_mixDesk_3 : decode cX7_mixDesk 3 = .ok (.bipush 64, 2) := by decide +kernel
theorem dX7_mixDesk_5 : decode cX7_mixDesk 5 = .ok (.if_icmp .ge 28, 3) := by decide +kernel
theorem dX7_mixDesk_8 : decode cX7_mixDesk 8 = .ok (.aload_n 0, 1) := by decide +kernel
theorem dX7_mixDesk_9 : decode cX7_mixDesk 9 = .ok (.aload_n 0, 1) := by decide +kernel
theorem dX7_mixDesk_10 : decode cX7_mixDesk 10 = .ok (.iload_n 1, 1) := by decide +kernel
theorem dX7_mixDesk_11 : decode cX7_mixDesk 11 = .ok (.invokevirtual 176, 3) := by decide +kernel
theorem dX7_mixDesk_14 : decode cX7_mixDesk 14 = .ok (.i2l, 1) := by decide +kernel
theorem dX7_mixDesk_15 : decode cX7_mixDesk 15 = .ok (.invokevirtual 306, 3) := by decide +kernel
theorem dX7_mixDesk_18 : decode cX7_mixDesk 18 = .ok (.aload_n 0, 1) := by decide +kernel
theorem dX7_mixDesk_19 : decode cX7_mixDesk 19 = .ok (.aload_n 0, 1) := by decide +kernel
theorem dX7_mixDesk_20 : decode cX7_mixDesk 20 = .ok (.iload_n 1, 1) := by decide +kernel
theorem dX7_mixDesk_21 : decode cX7_mixDesk 21 = .ok (.invokevirtual 231, 3) := by decide +kernel
theorem dX7_mixDesk_24 : decode cX7_mixDesk 24 = .ok (.invokevirtual 306, 3) := by decide +kernel
theorem dX7_mixDesk_27 : decode cX7_mixDesk 27 = .ok (.iinc 1 1, 3) := by decide +kernel
theorem dX7_mixDesk_30 : decode cX7_mixDesk 30 = .ok (.goto (-28), 3) := by decide +kernel
theorem dX7_mixDesk_33 : decode cX7_mixDesk 33 = .ok (.iconst 1, 1) := by decide +kernel
theorem dX7_mixDesk_34 : decode cX7_mixDesk 34 = .ok (.istore_n 1, 1) := by decide +kernel
theorem dX7_mixDesk_35 : decode cX7_mixDesk 35 = .ok (.iload_n 1, 1) := by decide +kernel
theorem dX7_mixDesk_36 : decode cX7_mixDesk 36 = .ok (.sipush 128, 3) := by decide +kernel
theorem dX7_mixDesk_39 : decode cX7_mixDesk 39 = .ok (.if_icmp .ge 20, 3) := by decide +kernel
theorem dX7_mixDesk_42 : decode cX7_mixDesk 42 = .ok (.aload_n 0, 1) := by decide +kernel
theorem dX7_mixDesk_43 : decode cX7_mixDesk 43 = .ok (.aload_n 0, 1) := by decide +kernel
theorem dX7_mixDesk_44 : decode cX7_mixDesk 44 = .ok (.getfield 25, 3) := by decide +kernel
theorem dX7_mixDesk_47 : decode cX7_mixDesk 47 = .ok (.iload_n 1, 1) := by decide +kernel
theorem dX7_mixDesk_48 : decode cX7_mixDesk 48 = .ok (.iaload, 1) := by decide +kernel
theorem dX7_mixDesk_49 : decode cX7_mixDesk 49 = .ok (.i2l, 1) := by decide +kernel
theorem dX7_mixDesk_50 : decode cX7_mixDesk 50 = .ok (.invokevirtual 306, 3) := by decide +kernel
theorem dX7_mixDesk_53 : decode cX7_mixDesk 53 = .ok (.iinc 1 1, 3) := by decide +kernel
theorem dX7_mixDesk_56 : decode cX7_mixDesk 56 = .ok (.goto (-21), 3) := by decide +kernel
theorem dX7_mixDesk_59 : decode cX7_mixDesk 59 = .ok (.aload_n 0, 1) := by decide +kernel
theorem dX7_mixDesk_60 : decode cX7_mixDesk 60 = .ok (.aload_n 0, 1) := by decide +kernel
theorem dX7_mixDesk_61 : decode cX7_mixDesk 61 = .ok (.iconst 0, 1) := by decide +kernel
theorem dX7_mixDesk_62 : decode cX7_mixDesk 62 = .ok (.bipush 63, 2) := by decide +kernel
theorem dX7_mixDesk_64 : decode cX7_mixDesk 64 = .ok (.invokevirtual 244, 3) := by decide +kernel
theorem dX7_mixDesk_67 : decode cX7_mixDesk 67 = .ok (.i2l, 1) := by decide +kernel
theorem dX7_mixDesk_68 : decode cX7_mixDesk 68 = .ok (.invokevirtual 306, 3) := by decide +kernel
theorem dX7_mixDesk_71 : decode cX7_mixDesk 71 = .ok (.return_, 1) := by decide +kernel
theorem dX7_digest_0 : decode cX7_digest 0 = .ok (.aload_n 0, 1) := by decide +kernel
theorem dX7_digest_1 : decode cX7_digest 1 = .ok (.ldc2_w 310, 3) := by decide +kernel
theorem dX7_digest_4 : decode cX7_digest 4 = .ok (.putfield 303, 3) := by decide +kernel
theorem dX7_digest_7 : decode cX7_digest 7 = .ok (.iconst 0, 1) := by decide +kernel
theorem dX7_digest_8 : decode cX7_digest 8 = .ok (.istore_n 1, 1) := by decide +kernel
theorem dX7_digest_9 : decode cX7_digest 9 = .ok (.iload_n 1, 1) := by decide +kernel
theorem dX7_digest_10 : decode cX7_digest 10 = .ok (.aload_n 0, 1) := by decide +kernel
theorem dX7_digest_11 : decode cX7_digest 11 = .ok (.getfield 108, 3) := by decide +kernel
theorem dX7_digest_14 : decode cX7_digest 14 = .ok (.if_icmp .ge 34, 3) := by decide +kernel
theorem dX7_digest_17 : decode cX7_digest 17 = .ok (.iconst 0, 1) := by decide +kernel
theorem dX7_digest_18 : decode cX7_digest 18 = .ok (.istore_n 2, 1) := by decide +kernel
theorem dX7_digest_19 : decode cX7_digest 19 = .ok (.iload_n 2, 1) := by decide +kernel
theorem dX7_digest_20 : decode cX7_digest 20 = .ok (.bipush 7, 2) := by decide +kernel
theorem dX7_digest_22 : decode cX7_digest 22 = .ok (.if_icmp .ge 20, 3) := by decide +kernel
theorem dX7_digest_25 : decode cX7_digest 25 = .ok (.aload_n 0, 1) := by decide +kernel
theorem dX7_digest_26 : decode cX7_digest 26 = .ok (.aload_n 0, 1) := by decide +kernel
theorem dX7_digest_27 : decode cX7_digest 27 = .ok (.iload_n 1, 1) := by decide +kernel
theorem dX7_digest_28 : decode cX7_digest 28 = .ok (.iload_n 2, 1) := by decide +kernel
theorem dX7_digest_29 : decode cX7_digest 29 = .ok (.invokevirtual 194, 3) := by decide +kernel
theorem dX7_digest_32 : decode cX7_digest 32 = .ok (.i2l, 1) := by decide +kernel
theorem dX7_digest_33 : decode cX7_digest 33 = .ok (.invokevirtual 306, 3) := by decide +kernel
theorem dX7_digest_36 : decode cX7_digest 36 = .ok (.iinc 2 1, 3) := by decide +kernel
theorem dX7_digest_39 : decode cX7_digest 39 = .ok (.goto (-20), 3) := by decide +kernel
theorem dX7_digest_42 : decode cX7_digest 42 = .ok (.iinc 1 1, 3) := by decide +kernel
theorem dX7_digest_45 : decode cX7_digest 45 = .ok (.goto (-36), 3) := by decide +kernel
theorem dX7_digest_48 : decode cX7_digest 48 = .ok (.aload_n 0, 1) := by decide +kernel
theorem dX7_digest_49 : decode cX7_digest 49 = .ok (.getfield 119, 3) := by decide +kernel
theorem dX7_digest_52 : decode cX7_digest 52 = .ok (.ifCond .le 7, 3) := by decide +kernel
theorem dX7_digest_55 : decode cX7_digest 55 = .ok (.aload_n 0, 1) := by decide +kernel
theorem dX7_digest_56 : decode cX7_digest 56 = .ok (.invokevirtual 312, 3) := by decide +kernel
theorem dX7_digest_59 : decode cX7_digest 59 = .ok (.iconst 0, 1) := by decide +kernel
theorem dX7_digest_60 : decode cX7_digest 60 = .ok (.istore_n 1, 1) := by decide +kernel
theorem dX7_digest_61 : decode cX7_digest 61 = .ok (.iload_n 1, 1) := by decide +kernel
theorem dX7_digest_62 : decode cX7_digest 62 = .ok (.aload_n 0, 1) := by decide +kernel
theorem dX7_digest_63 : decode cX7_digest 63 = .ok (.getfield 72, 3) := by decide +kernel
theorem dX7_digest_66 : decode cX7_digest 66 = .ok (.if_icmp .ge 20, 3) := by decide +kernel
theorem dX7_digest_69 : decode cX7_digest 69 = .ok (.aload_n 0, 1) := by decide +kernel
theorem dX7_digest_70 : decode cX7_digest 70 = .ok (.aload_n 0, 1) := by decide +kernel
theorem dX7_digest_71 : decode cX7_digest 71 = .ok (.getfield 37, 3) := by decide +kernel
theorem dX7_digest_74 : decode cX7_digest 74 = .ok (.iload_n 1, 1) := by decide +kernel
theorem dX7_digest_75 : decode cX7_digest 75 = .ok (.baload, 1) := by decide +kernel
theorem dX7_digest_76 : decode cX7_digest 76 = .ok (.i2l, 1) := by decide +kernel
theorem dX7_digest_77 : decode cX7_digest 77 = .ok (.invokevirtual 306, 3) := by decide +kernel
theorem dX7_digest_80 : decode cX7_digest 80 = .ok (.iinc 1 1, 3) := by decide +kernel
theorem dX7_digest_83 : decode cX7_digest 83 = .ok (.goto (-22), 3) := by decide +kernel
theorem dX7_digest_86 : decode cX7_digest 86 = .ok (.iconst 0, 1) := by decide +kernel
theorem dX7_digest_87 : decode cX7_digest 87 = .ok (.istore_n 1, 1) := by decide +kernel
theorem dX7_digest_88 : decode cX7_digest 88 = .ok (.iload_n 1, 1) := by decide +kernel
theorem dX7_digest_89 : decode cX7_digest 89 = .ok (.bipush 8, 2) := by decide +kernel
theorem dX7_digest_91 : decode cX7_digest 91 = .ok (.if_icmp .ge 19, 3) := by decide +kernel
theorem dX7_digest_94 : decode cX7_digest 94 = .ok (.aload_n 0, 1) := by decide +kernel
theorem dX7_digest_95 : decode cX7_digest 95 = .ok (.aload_n 0, 1) := by decide +kernel
theorem dX7_digest_96 : decode cX7_digest 96 = .ok (.iload_n 1, 1) := by decide +kernel
theorem dX7_digest_97 : decode cX7_digest 97 = .ok (.invokevirtual 298, 3) := by decide +kernel
theorem dX7_digest_100 : decode cX7_digest 100 = .ok (.i2l, 1) := by decide +kernel
theorem dX7_digest_101 : decode cX7_digest 101 = .ok (.invokevirtual 306, 3) := by decide +kernel
theorem dX7_digest_104 : decode cX7_digest 104 = .ok (.iinc 1 1, 3) := by decide +kernel
theorem dX7_digest_107 : decode cX7_digest 107 = .ok (.goto (-19), 3) := by decide +kernel
theorem dX7_digest_110 : decode cX7_digest 110 = .ok (.aload_n 0, 1) := by decide +kernel
theorem dX7_digest_111 : decode cX7_digest 111 = .ok (.getfield 303, 3) := by decide +kernel
theorem dX7_digest_114 : decode cX7_digest 114 = .ok (.lreturn, 1) := by decide +kernel
end
section
theorem dL_law_0 : decode cL_law 0 = .ok (.new 7, 3) := by decide +kernel
theorem dL_law_3 : decode cL_law 3 = .ok (.dup, 1) := by decide +kernel
theorem dL_law_4 : decode cL_law 4 = .ok (.invokespecial 9, 3) := by decide +kernel
theorem dL_law_7 : decode cL_law 7 = .ok (.astore_n 1, 1) := by decide +kernel
theorem dL_law_8 : decode cL_law 8 = .ok (.new 10, 3) := by decide +kernel
theorem dL_law_11 : decode cL_law 11 = .ok (.dup, 1) := by decide +kernel
theorem dL_law_12 : decode cL_law 12 = .ok (.invokespecial 12, 3) := by decide +kernel
theorem dL_law_15 : decode cL_law 15 = .ok (.astore_n 2, 1) := by decide +kernel
theorem dL_law_16 : decode cL_law 16 = .ok (.iconst 0, 1) := by decide +kernel
theorem dL_law_17 : decode cL_law 17 = .ok (.istore_n 3, 1) := by decide +kernel
theorem dL_law_18 : decode cL_law 18 = .ok (.iload_n 3, 1) := by decide +kernel
theorem dL_law_19 : decode cL_law 19 = .ok (.aload_n 0, 1) := by decide +kernel
theorem dL_law_20 : decode cL_law 20 = .ok (.arraylength, 1) := by decide +kernel
theorem dL_law_21 : decode cL_law 21 = .ok (.iconst 5, 1) := by decide +kernel
theorem dL_law_22 : decode cL_law 22 = .ok (.isub, 1) := by decide +kernel
theorem dL_law_23 : decode cL_law 23 = .ok (.if_icmp .gt 742, 3) := by decide +kernel
theorem dL_law_26 : decode cL_law 26 = .ok (.aload_n 0, 1) := by decide +kernel
theorem dL_law_27 : decode cL_law 27 = .ok (.iload_n 3, 1) := by decide +kernel
theorem dL_law_28 : decode cL_law 28 = .ok (.iaload, 1) := by decide +kernel
theorem dL_law_29 : decode cL_law 29 = .ok (.bipush 31, 2) := by decide +kernel
theorem dL_law_31 : decode cL_law 31 = .ok (.iand, 1) := by decide +kernel
theorem dL_law_32 : decode cL_law 32 = .ok (.tableswitch 727 0 22 #[108, 131, 144, 157, 170, 203, 236, 269, 302, 355, 368, 391, 414, 447, 480, 513, 566, 609, 622, 665, 678, 691, 714], 108) := by decide +kernel
theorem dL_law_140 : decode cL_law 140 = .ok (.aload_n 1, 1) := by decide +kernel
theorem dL_law_141 : decode cL_law 141 = .ok (.aload_n 0, 1) := by decide +kernel
theorem dL_law_142 : decode cL_law 142 = .ok (.iload_n 3, 1) := by decide +kernel
theorem dL_law_143 : decode cL_law 143 = .ok (.iconst 1, 1) := by decide +kernel
theorem dL_law_144 : decode cL_law 144 = .ok (.iadd, 1) := by decide +kernel
theorem dL_law_145 : decode cL_law 145 = .ok (.iaload, 1) := by decide +kernel
theorem dL_law_146 : decode cL_law 146 = .ok (.invokevirtual 13, 3) := by decide +kernel
theorem dL_law_149 : decode cL_law 149 = .ok (.aload_n 2, 1) := by decide +kernel
theorem dL_law_150 : decode cL_law 150 = .ok (.aload_n 0, 1) := by decide +kernel
theorem dL_law_151 : decode cL_law 151 = .ok (.iload_n 3, 1) := by decide +kernel
theorem dL_law_152 : decode cL_law 152 = .ok (.iconst 1, 1) := by decide +kernel
theorem dL_law_153 : decode cL_law 153 = .ok (.iadd, 1) := by decide +kernel
theorem dL_law_154 : decode cL_law 154 = .ok (.iaload, 1) := by decide +kernel
theorem dL_law_155 : decode cL_law 155 = .ok (.invokevirtual 17, 3) := by decide +kernel
theorem dL_law_158 : decode cL_law 158 = .ok (.if_icmp .eq 601, 3) := by decide +kernel
theorem dL_law_161 : decode cL_law 161 = .ok (.iconst 0, 1) := by decide +kernel
theorem dL_law_162 : decode cL_law 162 = .ok (.ireturn, 1) := by decide +kernel
theorem dL_law_163 : decode cL_law 163 = .ok (.aload_n 1, 1) := by decide +kernel
theorem dL_law_164 : decode cL_law 164 = .ok (.invokevirtual 18, 3) := by decide +kernel
theorem dL_law_167 : decode cL_law 167 = .ok (.pop, 1) := by decide +kernel
theorem dL_law_168 : decode cL_law 168 = .ok (.aload_n 2, 1) := by decide +kernel
theorem dL_law_169 : decode cL_law 169 = .ok (.invokevirtual 22, 3) := by decide +kernel
theorem dL_law_172 : decode cL_law 172 = .ok (.pop, 1) := by decide +kernel
theorem dL_law_173 : decode cL_law 173 = .ok (.goto 586, 3) := by decide +kernel
theorem dL_law_176 : decode cL_law 176 = .ok (.aload_n 1, 1) := by decide +kernel
theorem dL_law_177 : decode cL_law 177 = .ok (.invokevirtual 23, 3) := by decide +kernel
theorem dL_law_180 : decode cL_law 180 = .ok (.pop, 1) := by decide +kernel
theorem dL_law_181 : decode cL_law 181 = .ok (.aload_n 2, 1) := by decide +kernel
theorem dL_law_182 : decode cL_law 182 = .ok (.invokevirtual 26, 3) := by decide +kernel
theorem dL_law_185 : decode cL_law 185 = .ok (.pop, 1) := by decide +kernel
theorem dL_law_186 : decode cL_law 186 = .ok (.goto 573, 3) := by decide +kernel
theorem dL_law_189 : decode cL_law 189 = .ok (.aload_n 1, 1) := by decide +kernel
theorem dL_law_190 : decode cL_law 190 = .ok (.invokevirtual 27, 3) := by decide +kernel
theorem dL_law_193 : decode cL_law 193 = .ok (.pop, 1) := by decide +kernel
theorem dL_law_194 : decode cL_law 194 = .ok (.aload_n 2, 1) := by decide +kernel
theorem dL_law_195 : decode cL_law 195 = .ok (.invokevirtual 30, 3) := by decide +kernel
theorem dL_law_198 : decode cL_law 198 = .ok (.pop, 1) := by decide +kernel
theorem dL_law_199 : decode cL_law 199 = .ok (.goto 560, 3) := by decide +kernel
theorem dL_law_202 : decode cL_law 202 = .ok (.aload_n 1, 1) := by decide +kernel
theorem dL_law_203 : decode cL_law 203 = .ok (.aload_n 0, 1) := by decide +kernel
theorem dL_law_204 : decode cL_law 204 = .ok (.iload_n 3, 1) := by decide +kernel
theorem dL_law_205 : decode cL_law 205 = .ok (.iconst 1, 1) := by decide +kernel
theorem dL_law_206 : decode cL_law 206 = .ok (.iadd, 1) := by decide +kernel
theorem dL_law_207 : decode cL_law 207 = .ok (.iaload, 1) := by decide +kernel
theorem dL_law_208 : decode cL_law 208 = .ok (.aload_n 0, 1) := by decide +kernel
theorem dL_law_209 : decode cL_law 209 = .ok (.iload_n 3, 1) := by decide +kernel
theorem dL_law_210 : decode cL_law 210 = .ok (.iconst 2, 1) := by decide +kernel
theorem dL_law_211 : decode cL_law 211 = .ok (.iadd, 1) := by decide +kernel
theorem dL_law_212 : decode cL_law 212 = .ok (.iaload, 1) := by decide +kernel
theorem dL_law_213 : decode cL_law 213 = .ok (.invokevirtual 31, 3) := by decide +kernel
theorem dL_law_216 : decode cL_law 216 = .ok (.pop, 1) := by decide +kernel
theorem dL_law_217 : decode cL_law 217 = .ok (.aload_n 2, 1) := by decide +kernel
theorem dL_law_218 : decode cL_law 218 = .ok (.aload_n 0, 1) := by decide +kernel
theorem dL_law_219 : decode cL_law 219 = .ok (.iload_n 3, 1) := by decide +kernel
theorem dL_law_220 : decode cL_law 220 = .ok (.iconst 1, 1) := by decide +kernel
theorem dL_law_221 : decode cL_law 221 = .ok (.iadd, 1) := by decide +kernel
theorem dL_law_222 : decode cL_law 222 = .ok (.iaload, 1) := by decide +kernel
theorem dL_law_223 : decode cL_law 223 = .ok (.aload_n 0, 1) := by decide +kernel
theorem dL_law_224 : decode cL_law 224 = .ok (.iload_n 3, 1) := by decide +kernel
theorem dL_law_225 : decode cL_law 225 = .ok (.iconst 2, 1) := by decide +kernel
theorem dL_law_226 : decode cL_law 226 = .ok (.iadd, 1) := by decide +kernel
theorem dL_law_227 : decode cL_law 227 = .ok (.iaload, 1) := by decide +kernel
theorem dL_law_228 : decode cL_law 228 = .ok (.invokevirtual 35, 3) := by decide +kernel
theorem dL_law_231 : decode cL_law 231 = .ok (.pop, 1) := by decide +kernel
theorem dL_law_232 : decode cL_law 232 = .ok (.goto 527, 3) := by decide +kernel
theorem dL_law_235 : decode cL_law 235 = .ok (.aload_n 1, 1) := by decide +kernel
theorem dL_law_236 : decode cL_law 236 = .ok (.aload_n 0, 1) := by decide +kernel
theorem dL_law_237 : decode cL_law 237 = .ok (.iload_n 3, 1) := by decide +kernel
theorem dL_law_238 : decode cL_law 238 = .ok (.iconst 1, 1) := by decide +kernel
theorem dL_law_239 : decode cL_law 239 = .ok (.iadd, 1) := by decide +kernel
theorem dL_law_240 : decode cL_law 240 = .ok (.iaload, 1) := by decide +kernel
theorem dL_law_241 : decode cL_law 241 = .ok (.aload_n 0, 1) := by decide +kernel
theorem dL_law_242 : decode cL_law 242 = .ok (.iload_n 3, 1) := by decide +kernel
theorem dL_law_243 : decode cL_law 243 = .ok (.iconst 2, 1) := by decide +kernel
theorem dL_law_244 : decode cL_law 244 = .ok (.iadd, 1) := by decide +kernel
theorem dL_law_245 : decode cL_law 245 = .ok (.iaload, 1) := by decide +kernel
theorem dL_law_246 : decode cL_law 246 = .ok (.invokevirtual 36, 3) := by decide +kernel
theorem dL_law_249 : decode cL_law 249 = .ok (.pop, 1) := by decide +kernel
theorem dL_law_250 : decode cL_law 250 = .ok (.aload_n 2, 1) := by decide +kernel
theorem dL_law_251 : decode cL_law 251 = .ok (.aload_n 0, 1) := by decide +kernel
theorem dL_law_252 : decode cL_law 252 = .ok (.iload_n 3, 1) := by decide +kernel
theorem dL_law_253 : decode cL_law 253 = .ok (.iconst 1, 1) := by decide +kernel
theorem dL_law_254 : decode cL_law 254 = .ok (.iadd, 1) := by decide +kernel
theorem dL_law_255 : decode cL_law 255 = .ok (.iaload, 1) := by decide +kernel
theorem dL_law_256 : decode cL_law 256 = .ok (.aload_n 0, 1) := by decide +kernel
theorem dL_law_257 : decode cL_law 257 = .ok (.iload_n 3, 1) := by decide +kernel
theorem dL_law_258 : decode cL_law 258 = .ok (.iconst 2, 1) := by decide +kernel
theorem dL_law_259 : decode cL_law 259 = .ok (.iadd, 1) := by decide +kernel
theorem dL_law_260 : decode cL_law 260 = .ok (.iaload, 1) := by decide +kernel
theorem dL_law_261 : decode cL_law 261 = .ok (.invokevirtual 39, 3) := by decide +kernel
theorem dL_law_264 : decode cL_law 264 = .ok (.pop, 1) := by decide +kernel
theorem dL_law_265 : decode cL_law 265 = .ok (.goto 494, 3) := by decide +kernel
theorem dL_law_268 : decode cL_law 268 = .ok (.aload_n 1, 1) := by decide +kernel
theorem dL_law_269 : decode cL_law 269 = .ok (.aload_n 0, 1) := by decide +kernel
theorem dL_law_270 : decode cL_law 270 = .ok (.iload_n 3, 1) := by decide +kernel
theorem dL_law_271 : decode cL_law 271 = .ok (.iconst 1, 1) := by decide +kernel
theorem dL_law_272 : decode cL_law 272 = .ok (.iadd, 1) := by decide +kernel
theorem dL_law_273 : decode cL_law 273 = .ok (.iaload, 1) := by decide +kernel
theorem dL_law_274 : decode cL_law 274 = .ok (.aload_n 0, 1) := by decide +kernel
theorem dL_law_275 : decode cL_law 275 = .ok (.iload_n 3, 1) := by decide +kernel
theorem dL_law_276 : decode cL_law 276 = .ok (.iconst 2, 1) := by decide +kernel
theorem dL_law_277 : decode cL_law 277 = .ok (.iadd, 1) := by decide +kernel
theorem dL_law_278 : decode cL_law 278 = .ok (.iaload, 1) := by decide +kernel
theorem dL_law_279 : decode cL_law 279 = .ok (.invokevirtual 40, 3) := by decide +kernel
theorem dL_law_282 : decode cL_law 282 = .ok (.pop2, 1) := by decide +kernel
theorem dL_law_283 : decode cL_law 283 = .ok (.aload_n 2, 1) := by decide +kernel
theorem dL_law_284 : decode cL_law 284 = .ok (.aload_n 0, 1) := by decide +kernel
theorem dL_law_285 : decode cL_law 285 = .ok (.iload_n 3, 1) := by decide +kernel
theorem dL_law_286 : decode cL_law 286 = .ok (.iconst 1, 1) := by decide +kernel
theorem dL_law_287 : decode cL_law 287 = .ok (.iadd, 1) := by decide +kernel
theorem dL_law_288 : decode cL_law 288 = .ok (.iaload, 1) := by decide +kernel
theorem dL_law_289 : decode cL_law 289 = .ok (.aload_n 0, 1) := by decide +kernel
theorem dL_law_290 : decode cL_law 290 = .ok (.iload_n 3, 1) := by decide +kernel
theorem dL_law_291 : decode cL_law 291 = .ok (.iconst 2, 1) := by decide +kernel
theorem dL_law_292 : decode cL_law 292 = .ok (.iadd, 1) := by decide +kernel
theorem dL_law_293 : decode cL_law 293 = .ok (.iaload, 1) := by decide +kernel
theorem dL_law_294 : decode cL_law 294 = .ok (.invokevirtual 44, 3) := by decide +kernel
theorem dL_law_297 : decode cL_law 297 = .ok (.pop2, 1) := by decide +kernel
theorem dL_law_298 : decode cL_law 298 = .ok (.goto 461, 3) := by decide +kernel
theorem dL_law_301 : decode cL_law 301 = .ok (.aload_n 1, 1) := by decide +kernel
theorem dL_law_302 : decode cL_law 302 = .ok (.aload_n 0, 1) := by decide +kernel
theorem dL_law_303 : decode cL_law 303 = .ok (.iload_n 3, 1) := by decide +kernel
theorem dL_law_304 : decode cL_law 304 = .ok (.iconst 1, 1) := by decide +kernel
theorem dL_law_305 : decode cL_law 305 = .ok (.iadd, 1) := by decide +kernel
theorem dL_law_306 : decode cL_law 306 = .ok (.iaload, 1) := by decide +kernel
theorem dL_law_307 : decode cL_law 307 = .ok (.aload_n 0, 1) := by decide +kernel
theorem dL_law_308 : decode cL_law 308 = .ok (.iload_n 3, 1) := by decide +kernel
theorem dL_law_309 : decode cL_law 309 = .ok (.iconst 2, 1) := by decide +kernel
theorem dL_law_310 : decode cL_law 310 = .ok (.iadd, 1) := by decide +kernel
theorem dL_law_311 : decode cL_law 311 = .ok (.iaload, 1) := by decide +kernel
theorem dL_law_312 : decode cL_law 312 = .ok (.invokevirtual 45, 3) := by decide +kernel
theorem dL_law_315 : decode cL_law 315 = .ok (.pop, 1) := by decide +kernel
theorem dL_law_316 : decode cL_law 316 = .ok (.aload_n 2, 1) := by decide +kernel
theorem dL_law_317 : decode cL_law 317 = .ok (.aload_n 0, 1) := by decide +kernel
theorem dL_law_318 : decode cL_law 318 = .ok (.iload_n 3, 1) := by decide +kernel
theorem dL_law_319 : decode cL_law 319 = .ok (.iconst 1, 1) := by decide +kernel
theorem dL_law_320 : decode cL_law 320 = .ok (.iadd, 1) := by decide +kernel
theorem dL_law_321 : decode cL_law 321 = .ok (.iaload, 1) := by decide +kernel
theorem dL_law_322 : decode cL_law 322 = .ok (.aload_n 0, 1) := by decide +kernel
theorem dL_law_323 : decode cL_law 323 = .ok (.iload_n 3, 1) := by decide +kernel
theorem dL_law_324 : decode cL_law 324 = .ok (.iconst 2, 1) := by decide +kernel
theorem dL_law_325 : decode cL_law 325 = .ok (.iadd, 1) := by decide +kernel
theorem dL_law_326 : decode cL_law 326 = .ok (.iaload, 1) := by decide +kernel
theorem dL_law_327 : decode cL_law 327 = .ok (.invokevirtual 48, 3) := by decide +kernel
theorem dL_law_330 : decode cL_law 330 = .ok (.pop, 1) := by decide +kernel
theorem dL_law_331 : decode cL_law 331 = .ok (.goto 428, 3) := by decide +kernel
theorem dL_law_334 : decode cL_law 334 = .ok (.aload_n 1, 1) := by decide +kernel
theorem dL_law_335 : decode cL_law 335 = .ok (.aload_n 0, 1) := by decide +kernel
theorem dL_law_336 : decode cL_law 336 = .ok (.iload_n 3, 1) := by decide +kernel
theorem dL_law_337 : decode cL_law 337 = .ok (.iconst 1, 1) := by decide +kernel
theorem dL_law_338 : decode cL_law 338 = .ok (.iadd, 1) := by decide +kernel
theorem dL_law_339 : decode cL_law 339 = .ok (.iaload, 1) := by decide +kernel
theorem dL_law_340 : decode cL_law 340 = .ok (.aload_n 0, 1) := by decide +kernel
theorem dL_law_341 : decode cL_law 341 = .ok (.iload_n 3, 1) := by decide +kernel
theorem dL_law_342 : decode cL_law 342 = .ok (.iconst 2, 1) := by decide +kernel
theorem dL_law_343 : decode cL_law 343 = .ok (.iadd, 1) := by decide +kernel
theorem dL_law_344 : decode cL_law 344 = .ok (.iaload, 1) := by decide +kernel
theorem dL_law_345 : decode cL_law 345 = .ok (.aload_n 0, 1) := by decide +kernel
theorem dL_law_346 : decode cL_law 346 = .ok (.iload_n 3, 1) := by decide +kernel
theorem dL_law_347 : decode cL_law 347 = .ok (.iconst 3, 1) := by decide +kernel
theorem dL_law_348 : decode cL_law 348 = .ok (.iadd, 1) := by decide +kernel
theorem dL_law_349 : decode cL_law 349 = .ok (.iaload, 1) := by decide +kernel
theorem dL_law_350 : decode cL_law 350 = .ok (.aload_n 0, 1) := by decide +kernel
theorem dL_law_351 : decode cL_law 351 = .ok (.iload_n 3, 1) := by decide +kernel
theorem dL_law_352 : decode cL_law 352 = .ok (.iconst 4, 1) := by decide +kernel
theorem dL_law_353 : decode cL_law 353 = .ok (.iadd, 1) := by decide +kernel
theorem dL_law_354 : decode cL_law 354 = .ok (.iaload, 1) := by decide +kernel
theorem dL_law_355 : decode cL_law 355 = .ok (.invokevirtual 49, 3) := by decide +kernel
theorem dL_law_358 : decode cL_law 358 = .ok (.pop, 1) := by decide +kernel
theorem dL_law_359 : decode cL_law 359 = .ok (.aload_n 2, 1) := by decide +kernel
theorem dL_law_360 : decode cL_law 360 = .ok (.aload_n 0, 1) := by decide +kernel
theorem dL_law_361 : decode cL_law 361 = .ok (.iload_n 3, 1) := by decide +kernel
theorem dL_law_362 : decode cL_law 362 = .ok (.iconst 1, 1) := by decide +kernel
theorem dL_law_363 : decode cL_law 363 = .ok (.iadd, 1) := by decide +kernel
theorem dL_law_364 : decode cL_law 364 = .ok (.iaload, 1) := by decide +kernel
theorem dL_law_365 : decode cL_law 365 = .ok (.aload_n 0, 1) := by decide +kernel
theorem dL_law_366 : decode cL_law 366 = .ok (.iload_n 3, 1) := by decide +kernel
theorem dL_law_367 : decode cL_law 367 = .ok (.iconst 2, 1) := by decide +kernel
theorem dL_law_368 : decode cL_law 368 = .ok (.iadd, 1) := by decide +kernel
theorem dL_law_369 : decode cL_law 369 = .ok (.iaload, 1) := by decide +kernel
theorem dL_law_370 : decode cL_law 370 = .ok (.aload_n 0, 1) := by decide +kernel
theorem dL_law_371 : decode cL_law 371 = .ok (.iload_n 3, 1) := by decide +kernel
theorem dL_law_372 : decode cL_law 372 = .ok (.iconst 3, 1) := by decide +kernel
theorem dL_law_373 : decode cL_law 373 = .ok (.iadd, 1) := by decide +kernel
theorem dL_law_374 : decode cL_law 374 = .ok (.iaload, 1) := by decide +kernel
theorem dL_law_375 : decode cL_law 375 = .ok (.aload_n 0, 1) := by decide +kernel
theorem dL_law_376 : decode cL_law 376 = .ok (.iload_n 3, 1) := by decide +kernel
theorem dL_law_377 : decode cL_law 377 = .ok (.iconst 4, 1) := by decide +kernel
theorem dL_law_378 : decode cL_law 378 = .ok (.iadd, 1) := by decide +kernel
theorem dL_law_379 : decode cL_law 379 = .ok (.iaload, 1) := by decide +kernel
theorem dL_law_380 : decode cL_law 380 = .ok (.invokevirtual 53, 3) := by decide +kernel
theorem dL_law_383 : decode cL_law 383 = .ok (.pop, 1) := by decide +kernel
theorem dL_law_384 : decode cL_law 384 = .ok (.goto 375, 3) := by decide +kernel
theorem dL_law_387 : decode cL_law 387 = .ok (.aload_n 1, 1) := by decide +kernel
theorem dL_law_388 : decode cL_law 388 = .ok (.invokevirtual 54, 3) := by decide +kernel
theorem dL_law_391 : decode cL_law 391 = .ok (.pop, 1) := by decide +kernel
theorem dL_law_392 : decode cL_law 392 = .ok (.aload_n 2, 1) := by decide +kernel
theorem dL_law_393 : decode cL_law 393 = .ok (.invokevirtual 57, 3) := by decide +kernel
theorem dL_law_396 : decode cL_law 396 = .ok (.pop, 1) := by decide +kernel
theorem dL_law_397 : decode cL_law 397 = .ok (.goto 362, 3) := by decide +kernel
theorem dL_law_400 : decode cL_law 400 = .ok (.aload_n 1, 1) := by decide +kernel
theorem dL_law_401 : decode cL_law 401 = .ok (.aload_n 0, 1) := by decide +kernel
theorem dL_law_402 : decode cL_law 402 = .ok (.iload_n 3, 1) := by decide +kernel
theorem dL_law_403 : decode cL_law 403 = .ok (.iconst 1, 1) := by decide +kernel
theorem dL_law_404 : decode cL_law 404 = .ok (.iadd, 1) := by decide +kernel
theorem dL_law_405 : decode cL_law 405 = .ok (.iaload, 1) := by decide +kernel
theorem dL_law_406 : decode cL_law 406 = .ok (.invokevirtual 58, 3) := by decide +kernel
theorem dL_law_409 : decode cL_law 409 = .ok (.pop, 1) := by decide +kernel
theorem dL_law_410 : decode cL_law 410 = .ok (.aload_n 2, 1) := by decide +kernel
theorem dL_law_411 : decode cL_law 411 = .ok (.aload_n 0, 1) := by decide +kernel
theorem dL_law_412 : decode cL_law 412 = .ok (.iload_n 3, 1) := by decide +kernel
theorem dL_law_413 : decode cL_law 413 = .ok (.iconst 1, 1) := by decide +kernel
theorem dL_law_414 : decode cL_law 414 = .ok (.iadd, 1) := by decide +kernel
theorem dL_law_415 : decode cL_law 415 = .ok (.iaload, 1) := by decide +kernel
theorem dL_law_416 : decode cL_law 416 = .ok (.invokevirtual 61, 3) := by decide +kernel
theorem dL_law_419 : decode cL_law 419 = .ok (.pop, 1) := by decide +kernel
theorem dL_law_420 : decode cL_law 420 = .ok (.goto 339, 3) := by decide +kernel
theorem dL_law_423 : decode cL_law 423 = .ok (.aload_n 1, 1) := by decide +kernel
theorem dL_law_424 : decode cL_law 424 = .ok (.aload_n 0, 1) := by decide +kernel
theorem dL_law_425 : decode cL_law 425 = .ok (.iload_n 3, 1) := by decide +kernel
theorem dL_law_426 : decode cL_law 426 = .ok (.iconst 1, 1) := by decide +kernel
theorem dL_law_427 : decode cL_law 427 = .ok (.iadd, 1) := by decide +kernel
theorem dL_law_428 : decode cL_law 428 = .ok (.iaload, 1) := by decide +kernel
theorem dL_law_429 : decode cL_law 429 = .ok (.invokevirtual 62, 3) := by decide +kernel
theorem dL_law_432 : decode cL_law 432 = .ok (.pop2, 1) := by decide +kernel
theorem dL_law_433 : decode cL_law 433 = .ok (.aload_n 2, 1) := by decide +kernel
theorem dL_law_434 : decode cL_law 434 = .ok (.aload_n 0, 1) := by decide +kernel
theorem dL_law_435 : decode cL_law 435 = .ok (.iload_n 3, 1) := by decide +kernel
theorem dL_law_436 : decode cL_law 436 = .ok (.iconst 1, 1) := by decide +kernel
theorem dL_law_437 : decode cL_law 437 = .ok (.iadd, 1) := by decide +kernel
theorem dL_law_438 : decode cL_law 438 = .ok (.iaload, 1) := by decide +kernel
theorem dL_law_439 : decode cL_law 439 = .ok (.invokevirtual 66, 3) := by decide +kernel
theorem dL_law_442 : decode cL_law 442 = .ok (.pop2, 1) := by decide +kernel
theorem dL_law_443 : decode cL_law 443 = .ok (.goto 316, 3) := by decide +kernel
theorem dL_law_446 : decode cL_law 446 = .ok (.aload_n 1, 1) := by decide +kernel
theorem dL_law_447 : decode cL_law 447 = .ok (.aload_n 0, 1) := by decide +kernel
theorem dL_law_448 : decode cL_law 448 = .ok (.iload_n 3, 1) := by decide +kernel
theorem dL_law_449 : decode cL_law 449 = .ok (.iconst 1, 1) := by decide +kernel
end
section
theorem dL_law_450 : decode cL_law 450 = .ok (.iadd, 1) := by decide +kernel
theorem dL_law_451 : decode cL_law 451 = .ok (.iaload, 1) := by decide +kernel
theorem dL_law_452 : decode cL_law 452 = .ok (.aload_n 0, 1) := by decide +kernel
theorem dL_law_453 : decode cL_law 453 = .ok (.iload_n 3, 1) := by decide +kernel
theorem dL_law_454 : decode cL_law 454 = .ok (.iconst 2, 1) := by decide +kernel
theorem dL_law_455 : decode cL_law 455 = .ok (.iadd, 1) := by decide +kernel
theorem dL_law_456 : decode cL_law 456 = .ok (.iaload, 1) := by decide +kernel
theorem dL_law_457 : decode cL_law 457 = .ok (.invokevirtual 67, 3) := by decide +kernel
theorem dL_law_460 : decode cL_law 460 = .ok (.pop, 1) := by decide +kernel
theorem dL_law_461 : decode cL_law 461 = .ok (.aload_n 2, 1) := by decide +kernel
theorem dL_law_462 : decode cL_law 462 = .ok (.aload_n 0, 1) := by decide +kernel
theorem dL_law_463 : decode cL_law 463 = .ok (.iload_n 3, 1) := by decide +kernel
theorem dL_law_464 : decode cL_law 464 = .ok (.iconst 1, 1) := by decide +kernel
theorem dL_law_465 : decode cL_law 465 = .ok (.iadd, 1) := by decide +kernel
theorem dL_law_466 : decode cL_law 466 = .ok (.iaload, 1) := by decide +kernel
theorem dL_law_467 : decode cL_law 467 = .ok (.aload_n 0, 1) := by decide +kernel
theorem dL_law_468 : decode cL_law 468 = .ok (.iload_n 3, 1) := by decide +kernel
theorem dL_law_469 : decode cL_law 469 = .ok (.iconst 2, 1) := by decide +kernel
theorem dL_law_470 : decode cL_law 470 = .ok (.iadd, 1) := by decide +kernel
theorem dL_law_471 : decode cL_law 471 = .ok (.iaload, 1) := by decide +kernel
theorem dL_law_472 : decode cL_law 472 = .ok (.invokevirtual 70, 3) := by decide +kernel
theorem dL_law_475 : decode cL_law 475 = .ok (.pop, 1) := by decide +kernel
theorem dL_law_476 : decode cL_law 476 = .ok (.goto 283, 3) := by decide +kernel
theorem dL_law_479 : decode cL_law 479 = .ok (.aload_n 1, 1) := by decide +kernel
theorem dL_law_480 : decode cL_law 480 = .ok (.aload_n 0, 1) := by decide +kernel
theorem dL_law_481 : decode cL_law 481 = .ok (.iload_n 3, 1) := by decide +kernel
theorem dL_law_482 : decode cL_law 482 = .ok (.iconst 1, 1) := by decide +kernel
theorem dL_law_483 : decode cL_law 483 = .ok (.iadd, 1) := by decide +kernel
theorem dL_law_484 : decode cL_law 484 = .ok (.iaload, 1) := by decide +kernel
theorem dL_law_485 : decode cL_law 485 = .ok (.aload_n 0, 1) := by decide +kernel
theorem dL_law_486 : decode cL_law 486 = .ok (.iload_n 3, 1) := by decide +kernel
theorem dL_law_487 : decode cL_law 487 = .ok (.iconst 2, 1) := by decide +kernel
theorem dL_law_488 : decode cL_law 488 = .ok (.iadd, 1) := by decide +kernel
theorem dL_law_489 : decode cL_law 489 = .ok (.iaload, 1) := by decide +kernel
theorem dL_law_490 : decode cL_law 490 = .ok (.invokevirtual 71, 3) := by decide +kernel
theorem dL_law_493 : decode cL_law 493 = .ok (.pop, 1) := by decide +kernel
theorem dL_law_494 : decode cL_law 494 = .ok (.aload_n 2, 1) := by decide +kernel
theorem dL_law_495 : decode cL_law 495 = .ok (.aload_n 0, 1) := by decide +kernel
theorem dL_law_496 : decode cL_law 496 = .ok (.iload_n 3, 1) := by decide +kernel
theorem dL_law_497 : decode cL_law 497 = .ok (.iconst 1, 1) := by decide +kernel
theorem dL_law_498 : decode cL_law 498 = .ok (.iadd, 1) := by decide +kernel
theorem dL_law_499 : decode cL_law 499 = .ok (.iaload, 1) := by decide +kernel
theorem dL_law_500 : decode cL_law 500 = .ok (.aload_n 0, 1) := by decide +kernel
theorem dL_law_501 : decode cL_law 501 = .ok (.iload_n 3, 1) := by decide +kernel
theorem dL_law_502 : decode cL_law 502 = .ok (.iconst 2, 1) := by decide +kernel
theorem dL_law_503 : decode cL_law 503 = .ok (.iadd, 1) := by decide +kernel
theorem dL_law_504 : decode cL_law 504 = .ok (.iaload, 1) := by decide +kernel
theorem dL_law_505 : decode cL_law 505 = .ok (.invokevirtual 74, 3) := by decide +kernel
theorem dL_law_508 : decode cL_law 508 = .ok (.pop, 1) := by decide +kernel
theorem dL_law_509 : decode cL_law 509 = .ok (.goto 250, 3) := by decide +kernel
theorem dL_law_512 : decode cL_law 512 = .ok (.aload_n 1, 1) := by decide +kernel
theorem dL_law_513 : decode cL_law 513 = .ok (.aload_n 0, 1) := by decide +kernel
theorem dL_law_514 : decode cL_law 514 = .ok (.iload_n 3, 1) := by decide +kernel
theorem dL_law_515 : decode cL_law 515 = .ok (.iconst 1, 1) := by decide +kernel
theorem dL_law_516 : decode cL_law 516 = .ok (.iadd, 1) := by decide +kernel
theorem dL_law_517 : decode cL_law 517 = .ok (.iaload, 1) := by decide +kernel
theorem dL_law_518 : decode cL_law 518 = .ok (.aload_n 0, 1) := by decide +kernel
theorem dL_law_519 : decode cL_law 519 = .ok (.iload_n 3, 1) := by decide +kernel
theorem dL_law_520 : decode cL_law 520 = .ok (.iconst 2, 1) := by decide +kernel
theorem dL_law_521 : decode cL_law 521 = .ok (.iadd, 1) := by decide +kernel
theorem dL_law_522 : decode cL_law 522 = .ok (.iaload, 1) := by decide +kernel
theorem dL_law_523 : decode cL_law 523 = .ok (.invokevirtual 75, 3) := by decide +kernel
theorem dL_law_526 : decode cL_law 526 = .ok (.pop, 1) := by decide +kernel
theorem dL_law_527 : decode cL_law 527 = .ok (.aload_n 2, 1) := by decide +kernel
theorem dL_law_528 : decode cL_law 528 = .ok (.aload_n 0, 1) := by decide +kernel
theorem dL_law_529 : decode cL_law 529 = .ok (.iload_n 3, 1) := by decide +kernel
theorem dL_law_530 : decode cL_law 530 = .ok (.iconst 1, 1) := by decide +kernel
theorem dL_law_531 : decode cL_law 531 = .ok (.iadd, 1) := by decide +kernel
theorem dL_law_532 : decode cL_law 532 = .ok (.iaload, 1) := by decide +kernel
theorem dL_law_533 : decode cL_law 533 = .ok (.aload_n 0, 1) := by decide +kernel
theorem dL_law_534 : decode cL_law 534 = .ok (.iload_n 3, 1) := by decide +kernel
theorem dL_law_535 : decode cL_law 535 = .ok (.iconst 2, 1) := by decide +kernel
theorem dL_law_536 : decode cL_law 536 = .ok (.iadd, 1) := by decide +kernel
theorem dL_law_537 : decode cL_law 537 = .ok (.iaload, 1) := by decide +kernel
theorem dL_law_538 : decode cL_law 538 = .ok (.invokevirtual 78, 3) := by decide +kernel
theorem dL_law_541 : decode cL_law 541 = .ok (.pop, 1) := by decide +kernel
theorem dL_law_542 : decode cL_law 542 = .ok (.goto 217, 3) := by decide +kernel
theorem dL_law_545 : decode cL_law 545 = .ok (.aload_n 1, 1) := by decide +kernel
theorem dL_law_546 : decode cL_law 546 = .ok (.aload_n 0, 1) := by decide +kernel
theorem dL_law_547 : decode cL_law 547 = .ok (.iload_n 3, 1) := by decide +kernel
theorem dL_law_548 : decode cL_law 548 = .ok (.iconst 1, 1) := by decide +kernel
theorem dL_law_549 : decode cL_law 549 = .ok (.iadd, 1) := by decide +kernel
theorem dL_law_550 : decode cL_law 550 = .ok (.iaload, 1) := by decide +kernel
theorem dL_law_551 : decode cL_law 551 = .ok (.aload_n 0, 1) := by decide +kernel
theorem dL_law_552 : decode cL_law 552 = .ok (.iload_n 3, 1) := by decide +kernel
theorem dL_law_553 : decode cL_law 553 = .ok (.iconst 2, 1) := by decide +kernel
theorem dL_law_554 : decode cL_law 554 = .ok (.iadd, 1) := by decide +kernel
theorem dL_law_555 : decode cL_law 555 = .ok (.iaload, 1) := by decide +kernel
theorem dL_law_556 : decode cL_law 556 = .ok (.aload_n 0, 1) := by decide +kernel
theorem dL_law_557 : decode cL_law 557 = .ok (.iload_n 3, 1) := by decide +kernel
theorem dL_law_558 : decode cL_law 558 = .ok (.iconst 3, 1) := by decide +kernel
theorem dL_law_559 : decode cL_law 559 = .ok (.iadd, 1) := by decide +kernel
theorem dL_law_560 : decode cL_law 560 = .ok (.iaload, 1) := by decide +kernel
theorem dL_law_561 : decode cL_law 561 = .ok (.aload_n 0, 1) := by decide +kernel
theorem dL_law_562 : decode cL_law 562 = .ok (.iload_n 3, 1) := by decide +kernel
theorem dL_law_563 : decode cL_law 563 = .ok (.iconst 4, 1) := by decide +kernel
theorem dL_law_564 : decode cL_law 564 = .ok (.iadd, 1) := by decide +kernel
theorem dL_law_565 : decode cL_law 565 = .ok (.iaload, 1) := by decide +kernel
theorem dL_law_566 : decode cL_law 566 = .ok (.invokevirtual 79, 3) := by decide +kernel
theorem dL_law_569 : decode cL_law 569 = .ok (.pop, 1) := by decide +kernel
theorem dL_law_570 : decode cL_law 570 = .ok (.aload_n 2, 1) := by decide +kernel
theorem dL_law_571 : decode cL_law 571 = .ok (.aload_n 0, 1) := by decide +kernel
theorem dL_law_572 : decode cL_law 572 = .ok (.iload_n 3, 1) := by decide +kernel
theorem dL_law_573 : decode cL_law 573 = .ok (.iconst 1, 1) := by decide +kernel
theorem dL_law_574 : decode cL_law 574 = .ok (.iadd, 1) := by decide +kernel
theorem dL_law_575 : decode cL_law 575 = .ok (.iaload, 1) := by decide +kernel
theorem dL_law_576 : decode cL_law 576 = .ok (.aload_n 0, 1) := by decide +kernel
theorem dL_law_577 : decode cL_law 577 = .ok (.iload_n 3, 1) := by decide +kernel
theorem dL_law_578 : decode cL_law 578 = .ok (.iconst 2, 1) := by decide +kernel
theorem dL_law_579 : decode cL_law 579 = .ok (.iadd, 1) := by decide +kernel
theorem dL_law_580 : decode cL_law 580 = .ok (.iaload, 1) := by decide +kernel
theorem dL_law_581 : decode cL_law 581 = .ok (.aload_n 0, 1) := by decide +kernel
theorem dL_law_582 : decode cL_law 582 = .ok (.iload_n 3, 1) := by decide +kernel
theorem dL_law_583 : decode cL_law 583 = .ok (.iconst 3, 1) := by decide +kernel
theorem dL_law_584 : decode cL_law 584 = .ok (.iadd, 1) := by decide +kernel
theorem dL_law_585 : decode cL_law 585 = .ok (.iaload, 1) := by decide +kernel
theorem dL_law_586 : decode cL_law 586 = .ok (.aload_n 0, 1) := by decide +kernel
theorem dL_law_587 : decode cL_law 587 = .ok (.iload_n 3, 1) := by decide +kernel
theorem dL_law_588 : decode cL_law 588 = .ok (.iconst 4, 1) := by decide +kernel
theorem dL_law_589 : decode cL_law 589 = .ok (.iadd, 1) := by decide +kernel
theorem dL_law_590 : decode cL_law 590 = .ok (.iaload, 1) := by decide +kernel
theorem dL_law_591 : decode cL_law 591 = .ok (.invokevirtual 82, 3) := by decide +kernel
theorem dL_law_594 : decode cL_law 594 = .ok (.pop, 1) := by decide +kernel
theorem dL_law_595 : decode cL_law 595 = .ok (.goto 164, 3) := by decide +kernel
theorem dL_law_598 : decode cL_law 598 = .ok (.aload_n 1, 1) := by decide +kernel
theorem dL_law_599 : decode cL_law 599 = .ok (.aload_n 0, 1) := by decide +kernel
theorem dL_law_600 : decode cL_law 600 = .ok (.iload_n 3, 1) := by decide +kernel
theorem dL_law_601 : decode cL_law 601 = .ok (.iconst 1, 1) := by decide +kernel
theorem dL_law_602 : decode cL_law 602 = .ok (.iadd, 1) := by decide +kernel
theorem dL_law_603 : decode cL_law 603 = .ok (.iaload, 1) := by decide +kernel
theorem dL_law_604 : decode cL_law 604 = .ok (.aload_n 0, 1) := by decide +kernel
theorem dL_law_605 : decode cL_law 605 = .ok (.iload_n 3, 1) := by decide +kernel
theorem dL_law_606 : decode cL_law 606 = .ok (.iconst 2, 1) := by decide +kernel
theorem dL_law_607 : decode cL_law 607 = .ok (.iadd, 1) := by decide +kernel
theorem dL_law_608 : decode cL_law 608 = .ok (.iaload, 1) := by decide +kernel
theorem dL_law_609 : decode cL_law 609 = .ok (.aload_n 0, 1) := by decide +kernel
theorem dL_law_610 : decode cL_law 610 = .ok (.iload_n 3, 1) := by decide +kernel
theorem dL_law_611 : decode cL_law 611 = .ok (.iconst 3, 1) := by decide +kernel
theorem dL_law_612 : decode cL_law 612 = .ok (.iadd, 1) := by decide +kernel
theorem dL_law_613 : decode cL_law 613 = .ok (.iaload, 1) := by decide +kernel
theorem dL_law_614 : decode cL_law 614 = .ok (.invokevirtual 83, 3) := by decide +kernel
theorem dL_law_617 : decode cL_law 617 = .ok (.pop, 1) := by decide +kernel
theorem dL_law_618 : decode cL_law 618 = .ok (.aload_n 2, 1) := by decide +kernel
theorem dL_law_619 : decode cL_law 619 = .ok (.aload_n 0, 1) := by decide +kernel
theorem dL_law_620 : decode cL_law 620 = .ok (.iload_n 3, 1) := by decide +kernel
theorem dL_law_621 : decode cL_law 621 = .ok (.iconst 1, 1) := by decide +kernel
theorem dL_law_622 : decode cL_law 622 = .ok (.iadd, 1) := by decide +kernel
theorem dL_law_623 : decode cL_law 623 = .ok (.iaload, 1) := by decide +kernel
theorem dL_law_624 : decode cL_law 624 = .ok (.aload_n 0, 1) := by decide +kernel
theorem dL_law_625 : decode cL_law 625 = .ok (.iload_n 3, 1) := by decide +kernel
theorem dL_law_626 : decode cL_law 626 = .ok (.iconst 2, 1) := by decide +kernel
theorem dL_law_627 : decode cL_law 627 = .ok (.iadd, 1) := by decide +kernel
theorem dL_law_628 : decode cL_law 628 = .ok (.iaload, 1) := by decide +kernel
theorem dL_law_629 : decode cL_law 629 = .ok (.aload_n 0, 1) := by decide +kernel
theorem dL_law_630 : decode cL_law 630 = .ok (.iload_n 3, 1) := by decide +kernel
theorem dL_law_631 : decode cL_law 631 = .ok (.iconst 3, 1) := by decide +kernel
theorem dL_law_632 : decode cL_law 632 = .ok (.iadd, 1) := by decide +kernel
theorem dL_law_633 : decode cL_law 633 = .ok (.iaload, 1) := by decide +kernel
theorem dL_law_634 : decode cL_law 634 = .ok (.invokevirtual 87, 3) := by decide +kernel
theorem dL_law_637 : decode cL_law 637 = .ok (.pop, 1) := by decide +kernel
theorem dL_law_638 : decode cL_law 638 = .ok (.goto 121, 3) := by decide +kernel
theorem dL_law_641 : decode cL_law 641 = .ok (.aload_n 1, 1) := by decide +kernel
theorem dL_law_642 : decode cL_law 642 = .ok (.invokevirtual 88, 3) := by decide +kernel
theorem dL_law_645 : decode cL_law 645 = .ok (.pop, 1) := by decide +kernel
theorem dL_law_646 : decode cL_law 646 = .ok (.aload_n 2, 1) := by decide +kernel
theorem dL_law_647 : decode cL_law 647 = .ok (.invokevirtual 91, 3) := by decide +kernel
theorem dL_law_650 : decode cL_law 650 = .ok (.pop, 1) := by decide +kernel
theorem dL_law_651 : decode cL_law 651 = .ok (.goto 108, 3) := by decide +kernel
theorem dL_law_654 : decode cL_law 654 = .ok (.aload_n 1, 1) := by decide +kernel
theorem dL_law_655 : decode cL_law 655 = .ok (.aload_n 0, 1) := by decide +kernel
theorem dL_law_656 : decode cL_law 656 = .ok (.iload_n 3, 1) := by decide +kernel
theorem dL_law_657 : decode cL_law 657 = .ok (.iconst 1, 1) := by decide +kernel
theorem dL_law_658 : decode cL_law 658 = .ok (.iadd, 1) := by decide +kernel
theorem dL_law_659 : decode cL_law 659 = .ok (.iaload, 1) := by decide +kernel
theorem dL_law_660 : decode cL_law 660 = .ok (.aload_n 0, 1) := by decide +kernel
theorem dL_law_661 : decode cL_law 661 = .ok (.iload_n 3, 1) := by decide +kernel
theorem dL_law_662 : decode cL_law 662 = .ok (.iconst 2, 1) := by decide +kernel
theorem dL_law_663 : decode cL_law 663 = .ok (.iadd, 1) := by decide +kernel
theorem dL_law_664 : decode cL_law 664 = .ok (.iaload, 1) := by decide +kernel
theorem dL_law_665 : decode cL_law 665 = .ok (.aload_n 0, 1) := by decide +kernel
theorem dL_law_666 : decode cL_law 666 = .ok (.iload_n 3, 1) := by decide +kernel
theorem dL_law_667 : decode cL_law 667 = .ok (.iconst 3, 1) := by decide +kernel
theorem dL_law_668 : decode cL_law 668 = .ok (.iadd, 1) := by decide +kernel
theorem dL_law_669 : decode cL_law 669 = .ok (.iaload, 1) := by decide +kernel
theorem dL_law_670 : decode cL_law 670 = .ok (.invokevirtual 92, 3) := by decide +kernel
theorem dL_law_673 : decode cL_law 673 = .ok (.pop, 1) := by decide +kernel
theorem dL_law_674 : decode cL_law 674 = .ok (.aload_n 2, 1) := by decide +kernel
theorem dL_law_675 : decode cL_law 675 = .ok (.aload_n 0, 1) := by decide +kernel
theorem dL_law_676 : decode cL_law 676 = .ok (.iload_n 3, 1) := by decide +kernel
theorem dL_law_677 : decode cL_law 677 = .ok (.iconst 1, 1) := by decide +kernel
theorem dL_law_678 : decode cL_law 678 = .ok (.iadd, 1) := by decide +kernel
theorem dL_law_679 : decode cL_law 679 = .ok (.iaload, 1) := by decide +kernel
theorem dL_law_680 : decode cL_law 680 = .ok (.aload_n 0, 1) := by decide +kernel
theorem dL_law_681 : decode cL_law 681 = .ok (.iload_n 3, 1) := by decide +kernel
theorem dL_law_682 : decode cL_law 682 = .ok (.iconst 2, 1) := by decide +kernel
theorem dL_law_683 : decode cL_law 683 = .ok (.iadd, 1) := by decide +kernel
theorem dL_law_684 : decode cL_law 684 = .ok (.iaload, 1) := by decide +kernel
theorem dL_law_685 : decode cL_law 685 = .ok (.aload_n 0, 1) := by decide +kernel
theorem dL_law_686 : decode cL_law 686 = .ok (.iload_n 3, 1) := by decide +kernel
theorem dL_law_687 : decode cL_law 687 = .ok (.iconst 3, 1) := by decide +kernel
theorem dL_law_688 : decode cL_law 688 = .ok (.iadd, 1) := by decide +kernel
theorem dL_law_689 : decode cL_law 689 = .ok (.iaload, 1) := by decide +kernel
theorem dL_law_690 : decode cL_law 690 = .ok (.invokevirtual 95, 3) := by decide +kernel
theorem dL_law_693 : decode cL_law 693 = .ok (.pop, 1) := by decide +kernel
theorem dL_law_694 : decode cL_law 694 = .ok (.goto 65, 3) := by decide +kernel
theorem dL_law_697 : decode cL_law 697 = .ok (.aload_n 1, 1) := by decide +kernel
theorem dL_law_698 : decode cL_law 698 = .ok (.invokevirtual 96, 3) := by decide +kernel
theorem dL_law_701 : decode cL_law 701 = .ok (.pop, 1) := by decide +kernel
theorem dL_law_702 : decode cL_law 702 = .ok (.aload_n 2, 1) := by decide +kernel
theorem dL_law_703 : decode cL_law 703 = .ok (.invokevirtual 99, 3) := by decide +kernel
theorem dL_law_706 : decode cL_law 706 = .ok (.pop, 1) := by decide +kernel
theorem dL_law_707 : decode cL_law 707 = .ok (.goto 52, 3) := by decide +kernel
theorem dL_law_710 : decode cL_law 710 = .ok (.aload_n 1, 1) := by decide +kernel
theorem dL_law_711 : decode cL_law 711 = .ok (.invokevirtual 100, 3) := by decide +kernel
theorem dL_law_714 : decode cL_law 714 = .ok (.pop, 1) := by decide +kernel
theorem dL_law_715 : decode cL_law 715 = .ok (.aload_n 2, 1) := by decide +kernel
theorem dL_law_716 : decode cL_law 716 = .ok (.invokevirtual 103, 3) := by decide +kernel
theorem dL_law_719 : decode cL_law 719 = .ok (.pop, 1) := by decide +kernel
theorem dL_law_720 : decode cL_law 720 = .ok (.goto 39, 3) := by decide +kernel
theorem dL_law_723 : decode cL_law 723 = .ok (.aload_n 1, 1) := by decide +kernel
theorem dL_law_724 : decode cL_law 724 = .ok (.aload_n 0, 1) := by decide +kernel
theorem dL_law_725 : decode cL_law 725 = .ok (.iload_n 3, 1) := by decide +kernel
theorem dL_law_726 : decode cL_law 726 = .ok (.iconst 1, 1) := by decide +kernel
theorem dL_law_727 : decode cL_law 727 = .ok (.iadd, 1) := by decide +kernel
theorem dL_law_728 : decode cL_law 728 = .ok (.iaload, 1) := by decide +kernel
theorem dL_law_729 : decode cL_law 729 = .ok (.invokevirtual 104, 3) := by decide +kernel
theorem dL_law_732 : decode cL_law 732 = .ok (.pop, 1) := by decide +kernel
theorem dL_law_733 : decode cL_law 733 = .ok (.aload_n 2, 1) := by decide +kernel
theorem dL_law_734 : decode cL_law 734 = .ok (.aload_n 0, 1) := by decide +kernel
theorem dL_law_735 : decode cL_law 735 = .ok (.iload_n 3, 1) := by decide +kernel
theorem dL_law_736 : decode cL_law 736 = .ok (.iconst 1, 1) := by decide +kernel
theorem dL_law_737 : decode cL_law 737 = .ok (.iadd, 1) := by decide +kernel
theorem dL_law_738 : decode cL_law 738 = .ok (.iaload, 1) := by decide +kernel
theorem dL_law_739 : decode cL_law 739 = .ok (.invokevirtual 107, 3) := by decide +kernel
theorem dL_law_742 : decode cL_law 742 = .ok (.pop, 1) := by decide +kernel
theorem dL_law_743 : decode cL_law 743 = .ok (.goto 16, 3) := by decide +kernel
theorem dL_law_746 : decode cL_law 746 = .ok (.aload_n 1, 1) := by decide +kernel
theorem dL_law_747 : decode cL_law 747 = .ok (.invokevirtual 108, 3) := by decide +kernel
theorem dL_law_750 : decode cL_law 750 = .ok (.pop2, 1) := by decide +kernel
theorem dL_law_751 : decode cL_law 751 = .ok (.aload_n 2, 1) := by decide +kernel
theorem dL_law_752 : decode cL_law 752 = .ok (.invokevirtual 112, 3) := by decide +kernel
theorem dL_law_755 : decode cL_law 755 = .ok (.pop2, 1) := by decide +kernel
theorem dL_law_756 : decode cL_law 756 = .ok (.goto 3, 3) := by decide +kernel
theorem dL_law_759 : decode cL_law 759 = .ok (.iinc 3 5, 3) := by decide +kernel
theorem dL_law_762 : decode cL_law 762 = .ok (.goto (-744), 3) := by decide +kernel
theorem dL_law_765 : decode cL_law 765 = .ok (.iconst 1, 1) := by decide +kernel
theorem dL_law_766 : decode cL_law 766 = .ok (.ireturn, 1) := by decide +kernel
end
section
/-! the words, by their rows -/
theorem tr_1 : ∀ w ∈ wsL_law_r1, w ∈ wsL_law := fun _ h => (List.mem_append_left _ (List.mem_append_left _ (List.mem_append_left _ (List.mem_append_left _ (List.mem_append_left _ (List.mem_append_left _ (List.mem_append_left _ (List.mem_append_left _ (List.mem_append_left _ (List.mem_append_left _ h))))))))))
theorem tr_2 : ∀ w ∈ wsL_law_r2, w ∈ wsL_law := fun _ h => (List.mem_append_left _ (List.mem_append_left _ (List.mem_append_left _ (List.mem_append_left _ (List.mem_append_left _ (List.mem_append_left _ (List.mem_append_left _ (List.mem_append_left _ (List.mem_append_left _ (List.mem_append_right _ (List.mem_append_left _ h)))))))))))
theorem tr_3 : ∀ w ∈ wsL_law_r3, w ∈ wsL_law := fun _ h => (List.mem_append_left _ (List.mem_append_left _ (List.mem_append_left _ (List.mem_append_left _ (List.mem_append_left _ (List.mem_append_left _ (List.mem_append_left _ (List.mem_append_left _ (List.mem_append_left _ (List.mem_append_right _ (List.mem_append_right _ (List.mem_append_left _ h))))))))))))
theorem tr_4 : ∀ w ∈ wsL_law_r4, w ∈ wsL_law := fun _ h => (List.mem_append_left _ (List.mem_append_left _ (List.mem_append_left _ (List.mem_append_left _ (List.mem_append_left _ (List.mem_append_left _ (List.mem_append_left _ (List.mem_append_left _ (List.mem_append_left _ (List.mem_append_right _ (List.mem_append_right _ (List.mem_append_right _ (List.mem_append_left _ h)))))))))))))
theorem tr_5 : ∀ w ∈ wsL_law_r5, w ∈ wsL_law := fun _ h => (List.mem_append_left _ (List.mem_append_left _ (List.mem_append_left _ (List.mem_append_left _ (List.mem_append_left _ (List.mem_append_left _ (List.mem_append_left _ (List.mem_append_left _ (List.mem_append_left _ (List.mem_append_right _ (List.mem_append_right _ (List.mem_append_right _ (List.mem_append_right _ (List.mem_append_left _ h))))))))))))))
theorem tr_6 : ∀ w ∈ wsL_law_r6, w ∈ wsL_law := fun _ h => (List.mem_append_left _ (List.mem_append_left _ (List.mem_append_left _ (List.mem_append_left _ (List.mem_append_left _ (List.mem_append_left _ (List.mem_append_left _ (List.mem_append_left _ (List.mem_append_left _ (List.mem_append_right _ (List.mem_append_right _ (List.mem_append_right _ (List.mem_append_right _ (List.mem_append_right _ (List.mem_append_left _ h)))))))))))))))
theorem tr_7 : ∀ w ∈ wsL_law_r7, w ∈ wsL_law := fun _ h => (List.mem_append_left _ (List.mem_append_left _ (List.mem_append_left _ (List.mem_append_left _ (List.mem_append_left _ (List.mem_append_left _ (List.mem_append_left _ (List.mem_append_left _ (List.mem_append_left _ (List.mem_append_right _ (List.mem_append_right _ (List.mem_append_right _ (List.mem_append_right _ (List.mem_append_right _ (List.mem_append_right _ (List.mem_append_left _ h))))))))))))))))
theorem tr_8 : ∀ w ∈ wsL_law_r8, w ∈ wsL_law := fun _ h => (List.mem_append_left _ (List.mem_append_left _ (List.mem_append_left _ (List.mem_append_left _ (List.mem_append_left _ (List.mem_append_left _ (List.mem_append_left _ (List.mem_append_left _ (List.mem_append_left _ (List.mem_append_right _ (List.mem_append_right _ (List.mem_append_right _ (List.mem_append_right _ (List.mem_append_right _ (List.mem_append_right _ (List.mem_append_right _ (List.mem_append_left _ h)))))))))))))))))
theorem tr_9 : ∀ w ∈ wsL_law_r9, w ∈ wsL_law := fun _ h => (List.mem_append_left _ (List.mem_append_left _ (List.mem_append_left _ (List.mem_append_left _ (List.mem_append_left _ (List.mem_append_left _ (List.mem_append_left _ (List.mem_append_left _ (List.mem_append_left _ (List.mem_append_right _ (List.mem_append_right _ (List.mem_append_right _ (List.mem_append_right _ (List.mem_append_right _ (List.mem_append_right _ (List.mem_append_right _ (List.mem_append_right _ (List.mem_append_left _ h))))))))))))))))))
theorem tr_10 : ∀ w ∈ wsL_law_r10, w ∈ wsL_law := fun _ h => (List.mem_append_left _ (List.mem_append_left _ (List.mem_append_left _ (List.mem_append_left _ (List.mem_append_left _ (List.mem_append_left _ (List.mem_append_left _ (List.mem_append_left _ (List.mem_append_left _ (List.mem_append_right _ (List.mem_append_right _ (List.mem_append_right _ (List.mem_append_right _ (List.mem_append_right _ (List.mem_append_right _ (List.mem_append_right _ (List.mem_append_right _ (List.mem_append_right _ (List.mem_append_left _ h)))))))))))))))))))
theorem tr_11 : ∀ w ∈ wsL_law_r11, w ∈ wsL_law := fun _ h => (List.mem_append_left _ (List.mem_append_left _ (List.mem_append_left _ (List.mem_append_left _ (List.mem_append_left _ (List.mem_append_left _ (List.mem_append_left _ (List.mem_append_left _ (List.mem_append_left _ (List.mem_append_right _ (List.mem_append_right _ (List.mem_append_right _ (List.mem_append_right _ (List.mem_append_right _ (List.mem_append_right _ (List.mem_append_right _ (List.mem_append_right _ (List.mem_append_right _ (List.mem_append_right _ (List.mem_append_left _ h))))))))))))))))))))
theorem tr_12 : ∀ w ∈ wsL_law_r12, w ∈ wsL_law := fun _ h => (List.mem_append_left _ (List.mem_append_left _ (List.mem_append_left _ (List.mem_append_left _ (List.mem_append_left _ (List.mem_append_left _ (List.mem_append_left _ (List.mem_append_left _ (List.mem_append_left _ (List.mem_append_right _ (List.mem_append_right _ (List.mem_append_right _ (List.mem_append_right _ (List.mem_append_right _ (List.mem_append_right _ (List.mem_append_right _ (List.mem_append_right _ (List.mem_append_right _ (List.mem_append_right _ (List.mem_append_right _ (List.mem_append_left _ h)))))))))))))))))))))
theorem tr_13 : ∀ w ∈ wsL_law_r13, w ∈ wsL_law := fun _ h => (List.mem_append_left _ (List.mem_append_left _ (List.mem_append_left _ (List.mem_append_left _ (List.mem_append_left _ (List.mem_append_left _ (List.mem_append_left _ (List.mem_append_left _ (List.mem_append_left _ (List.mem_append_right _ (List.mem_append_right _ (List.mem_append_right _ (List.mem_append_right _ (List.mem_append_right _ (List.mem_append_right _ (List.mem_append_right _ (List.mem_append_right _ (List.mem_append_right _ (List.mem_append_right _ (List.mem_append_right _ (List.mem_append_right _ (List.mem_append_left _ h))))))))))))))))))))))
theorem tr_14 : ∀ w ∈ wsL_law_r14, w ∈ wsL_law := fun _ h => (List.mem_append_left _ (List.mem_append_left _ (List.mem_append_left _ (List.mem_append_left _ (List.mem_append_left _ (List.mem_append_left _ (List.mem_append_left _ (List.mem_append_left _ (List.mem_append_left _ (List.mem_append_right _ (List.mem_append_right _ (List.mem_append_right _ (List.mem_append_right _ (List.mem_append_right _ (List.mem_append_right _ (List.mem_append_right _ (List.mem_append_right _ (List.mem_append_right _ (List.mem_append_right _ (List.mem_append_right _ (List.mem_append_right _ (List.mem_append_right _ (List.mem_append_left _ h)))))))))))))))))))))))
theorem tr_15 : ∀ w ∈ wsL_law_r15, w ∈ wsL_law := fun _ h => (List.mem_append_left _ (List.mem_append_left _ (List.mem_append_left _ (List.mem_append_left _ (List.mem_append_left _ (List.mem_append_left _ (List.mem_append_left _ (List.mem_append_left _ (List.mem_append_left _ (List.mem_append_right _ (List.mem_append_right _ (List.mem_append_right _ (List.mem_append_right _ (List.mem_append_right _ (List.mem_append_right _ (List.mem_append_right _ (List.mem_append_right _ (List.mem_append_right _ (List.mem_append_right _ (List.mem_append_right _ (List.mem_append_right _ (List.mem_append_right _ (List.mem_append_right _ (List.mem_append_left _ h))))))))))))))))))))))))
theorem tr_16 : ∀ w ∈ wsL_law_r16, w ∈ wsL_law := fun _ h => (List.mem_append_left _ (List.mem_append_left _ (List.mem_append_left _ (List.mem_append_left _ (List.mem_append_left _ (List.mem_append_left _ (List.mem_append_left _ (List.mem_append_left _ (List.mem_append_left _ (List.mem_append_right _ (List.mem_append_right _ (List.mem_append_right _ (List.mem_append_right _ (List.mem_append_right _ (List.mem_append_right _ (List.mem_append_right _ (List.mem_append_right _ (List.mem_append_right _ (List.mem_append_right _ (List.mem_append_right _ (List.mem_append_right _ (List.mem_append_right _ (List.mem_append_right _ (List.mem_append_right _ (List.mem_append_left _ h)))))))))))))))))))))))))
theorem tr_17 : ∀ w ∈ wsL_law_r17, w ∈ wsL_law := fun _ h => (List.mem_append_left _ (List.mem_append_left _ (List.mem_append_left _ (List.mem_append_left _ (List.mem_append_left _ (List.mem_append_left _ (List.mem_append_left _ (List.mem_append_left _ (List.mem_append_left _ (List.mem_append_right _ (List.mem_append_right _ (List.mem_append_right _ (List.mem_append_right _ (List.mem_append_right _ (List.mem_append_right _ (List.mem_append_right _ (List.mem_append_right _ (List.mem_append_right _ (List.mem_append_right _ (List.mem_append_right _ (List.mem_append_right _ (List.mem_append_right _ (List.mem_append_right _ (List.mem_append_right _ (List.mem_append_right _ (List.mem_append_left _ h))))))))))))))))))))))))))
theorem tr_18 : ∀ w ∈ wsL_law_r18, w ∈ wsL_law := fun _ h => (List.mem_append_left _ (List.mem_append_left _ (List.mem_append_left _ (List.mem_append_left _ (List.mem_append_left _ (List.mem_append_left _ (List.mem_append_left _ (List.mem_append_left _ (List.mem_append_left _ (List.mem_append_right _ (List.mem_append_right _ (List.mem_append_right _ (List.mem_append_right _ (List.mem_append_right _ (List.mem_append_right _ (List.mem_append_right _ (List.mem_append_right _ (List.mem_append_right _ (List.mem_append_right _ (List.mem_append_right _ (List.mem_append_right _ (List.mem_append_right _ (List.mem_append_right _ (List.mem_append_right _ (List.mem_append_right _ (List.mem_append_right _ (List.mem_append_left _ h)))))))))))))))))))))))))))
theorem tr_19 : ∀ w ∈ wsL_law_r19, w ∈ wsL_law := fun _ h => (List.mem_append_left _ (List.mem_append_left _ (List.mem_append_left _ (List.mem_append_left _ (List.mem_append_left _ (List.mem_append_left _ (List.mem_append_left _ (List.mem_append_left _ (List.mem_append_left _ (List.mem_append_right _ (List.mem_append_right _ (List.mem_append_right _ (List.mem_append_right _ (List.mem_append_right _ (List.mem_append_right _ (List.mem_append_right _ (List.mem_append_right _ (List.mem_append_right _ (List.mem_append_right _ (List.mem_append_right _ (List.mem_append_right _ (List.mem_append_right _ (List.mem_append_right _ (List.mem_append_right _ (List.mem_append_right _ (List.mem_append_right _ (List.mem_append_right _ (List.mem_append_left _ h))))))))))))))))))))))))))))
theorem tr_20 : ∀ w ∈ wsL_law_r20, w ∈ wsL_law := fun _ h => (List.mem_append_left _ (List.mem_append_left _ (List.mem_append_left _ (List.mem_append_left _ (List.mem_append_left _ (List.mem_append_left _ (List.mem_append_left _ (List.mem_append_left _ (List.mem_append_left _ (List.mem_append_right _ (List.mem_append_right _ (List.mem_append_right _ (List.mem_append_right _ (List.mem_append_right _ (List.mem_append_right _ (List.mem_append_right _ (List.mem_append_right _ (List.mem_append_right _ (List.mem_append_right _ (List.mem_append_right _ (List.mem_append_right _ (List.mem_append_right _ (List.mem_append_right _ (List.mem_append_right _ (List.mem_append_right _ (List.mem_append_right _ (List.mem_append_right _ (List.mem_append_right _ (List.mem_append_left _ h)))))))))))))))))))))))))))))
theorem tr_21 : ∀ w ∈ wsL_law_r21, w ∈ wsL_law := fun _ h => (List.mem_append_left _ (List.mem_append_left _ (List.mem_append_left _ (List.mem_append_left _ (List.mem_append_left _ (List.mem_append_left _ (List.mem_append_left _ (List.mem_append_left _ (List.mem_append_left _ (List.mem_append_right _ (List.mem_append_right _ (List.mem_append_right _ (List.mem_append_right _ (List.mem_append_right _ (List.mem_append_right _ (List.mem_append_right _ (List.mem_append_right _ (List.mem_append_right _ (List.mem_append_right _ (List.mem_append_right _ (List.mem_append_right _ (List.mem_append_right _ (List.mem_append_right _ (List.mem_append_right _ (List.mem_append_right _ (List.mem_append_right _ (List.mem_append_right _ (List.mem_append_right _ (List.mem_append_right _ (List.mem_append_left _ h))))))))))))))))))))))))))))))
theorem tr_22 : ∀ w ∈ wsL_law_r22, w ∈ wsL_law := fun _ h => (List.mem_append_left _ (List.mem_append_left _ (List.mem_append_left _ (List.mem_append_left _ (List.mem_append_left _ (List.mem_append_left _ (List.mem_append_left _ (List.mem_append_left _ (List.mem_append_left _ (List.mem_append_right _ (List.mem_append_right _ (List.mem_append_right _ (List.mem_append_right _ (List.mem_append_right _ (List.mem_append_right _ (List.mem_append_right _ (List.mem_append_right _ (List.mem_append_right _ (List.mem_append_right _ (List.mem_append_right _ (List.mem_append_right _ (List.mem_append_right _ (List.mem_append_right _ (List.mem_append_right _ (List.mem_append_right _ (List.mem_append_right _ (List.mem_append_right _ (List.mem_append_right _ (List.mem_append_right _ (List.mem_append_right _ (List.mem_append_left _ h)))))))))))))))))))))))))))))))
theorem tr_23 : ∀ w ∈ wsL_law_r23, w ∈ wsL_law := fun _ h => (List.mem_append_left _ (List.mem_append_left _ (List.mem_append_left _ (List.mem_append_left _ (List.mem_append_left _ (List.mem_append_left _ (List.mem_append_left _ (List.mem_append_left _ (List.mem_append_left _ (List.mem_append_right _ (List.mem_append_right _ (List.mem_append_right _ (List.mem_append_right _ (List.mem_append_right _ (List.mem_append_right _ (List.mem_append_right _ (List.mem_append_right _ (List.mem_append_right _ (List.mem_append_right _ (List.mem_append_right _ (List.mem_append_right _ (List.mem_append_right _ (List.mem_append_right _ (List.mem_append_right _ (List.mem_append_right _ (List.mem_append_right _ (List.mem_append_right _ (List.mem_append_right _ (List.mem_append_right _ (List.mem_append_right _ (List.mem_append_right _ (List.mem_append_left _ h))))))))))))))))))))))))))))))))
theorem tr_24 : ∀ w ∈ wsL_law_r24, w ∈ wsL_law := fun _ h => (List.mem_append_left _ (List.mem_append_left _ (List.mem_append_left _ (List.mem_append_left _ (List.mem_append_left _ (List.mem_append_left _ (List.mem_append_left _ (List.mem_append_left _ (List.mem_append_left _ (List.mem_append_right _ (List.mem_append_right _ (List.mem_append_right _ (List.mem_append_right _ (List.mem_append_right _ (List.mem_append_right _ (List.mem_append_right _ (List.mem_append_right _ (List.mem_append_right _ (List.mem_append_right _ (List.mem_append_right _ (List.mem_append_right _ (List.mem_append_right _ (List.mem_append_right _ (List.mem_append_right _ (List.mem_append_right _ (List.mem_append_right _ (List.mem_append_right _ (List.mem_append_right _ (List.mem_append_right _ (List.mem_append_right _ (List.mem_append_right _ (List.mem_append_right _ (List.mem_append_left _ h)))))))))))))))))))))))))))))))))
theorem tr_25 : ∀ w ∈ wsL_law_r25, w ∈ wsL_law := fun _ h => (List.mem_append_left _ (List.mem_append_left _ (List.mem_append_left _ (List.mem_append_left _ (List.mem_append_left _ (List.mem_append_left _ (List.mem_append_left _ (List.mem_append_left _ (List.mem_append_left _ (List.mem_append_right _ (List.mem_append_right _ (List.mem_append_right _ (List.mem_append_right _ (List.mem_append_right _ (List.mem_append_right _ (List.mem_append_right _ (List.mem_append_right _ (List.mem_append_right _ (List.mem_append_right _ (List.mem_append_right _ (List.mem_append_right _ (List.mem_append_right _ (List.mem_append_right _ (List.mem_append_right _ (List.mem_append_right _ (List.mem_append_right _ (List.mem_append_right _ (List.mem_append_right _ (List.mem_append_right _ (List.mem_append_right _ (List.mem_append_right _ (List.mem_append_right _ (List.mem_append_right _ (List.mem_append_left _ h))))))))))))))))))))))))))))))))))
theorem tr_26 : ∀ w ∈ wsL_law_r26, w ∈ wsL_law := fun _ h => (List.mem_append_left _ (List.mem_append_left _ (List.mem_append_left _ (List.mem_append_left _ (List.mem_append_left _ (List.mem_append_left _ (List.mem_append_left _ (List.mem_append_left _ (List.mem_append_left _ (List.mem_append_right _ (List.mem_append_right _ (List.mem_append_right _ (List.mem_append_right _ (List.mem_append_right _ (List.mem_append_right _ (List.mem_append_right _ (List.mem_append_right _ (List.mem_append_right _ (List.mem_append_right _ (List.mem_append_right _ (List.mem_append_right _ (List.mem_append_right _ (List.mem_append_right _ (List.mem_append_right _ (List.mem_append_right _ (List.mem_append_right _ (List.mem_append_right _ (List.mem_append_right _ (List.mem_append_right _ (List.mem_append_right _ (List.mem_append_right _ (List.mem_append_right _ (List.mem_append_right _ (List.mem_append_right _ (List.mem_append_left _ h)))))))))))))))))))))))))))))))))))
theorem tr_27 : ∀ w ∈ wsL_law_r27, w ∈ wsL_law := fun _ h => (List.mem_append_left _ (List.mem_append_left _ (List.mem_append_left _ (List.mem_append_left _ (List.mem_append_left _ (List.mem_append_left _ (List.mem_append_left _ (List.mem_append_left _ (List.mem_append_left _ (List.mem_append_right _ (List.mem_append_right _ (List.mem_append_right _ (List.mem_append_right _ (List.mem_append_right _ (List.mem_append_right _ (List.mem_append_right _ (List.mem_append_right _ (List.mem_append_right _ (List.mem_append_right _ (List.mem_append_right _ (List.mem_append_right _ (List.mem_append_right _ (List.mem_append_right _ (List.mem_append_right _ (List.mem_append_right _ (List.mem_append_right _ (List.mem_append_right _ (List.mem_append_right _ (List.mem_append_right _ (List.mem_append_right _ (List.mem_append_right _ (List.mem_append_right _ (List.mem_append_right _ (List.mem_append_right _ (List.mem_append_right _ (List.mem_append_left _ h))))))))))))))))))))))))))))))))))))
theorem tr_28 : ∀ w ∈ wsL_law_r28, w ∈ wsL_law := fun _ h => (List.mem_append_left _ (List.mem_append_left _ (List.mem_append_left _ (List.mem_append_left _ (List.mem_append_left _ (List.mem_append_left _ (List.mem_append_left _ (List.mem_append_left _ (List.mem_append_left _ (List.mem_append_right _ (List.mem_append_right _ (List.mem_append_right _ (List.mem_append_right _ (List.mem_append_right _ (List.mem_append_right _ (List.mem_append_right _ (List.mem_append_right _ (List.mem_append_right _ (List.mem_append_right _ (List.mem_append_right _ (List.mem_append_right _ (List.mem_append_right _ (List.mem_append_right _ (List.mem_append_right _ (List.mem_append_right _ (List.mem_append_right _ (List.mem_append_right _ (List.mem_append_right _ (List.mem_append_right _ (List.mem_append_right _ (List.mem_append_right _ (List.mem_append_right _ (List.mem_append_right _ (List.mem_append_right _ (List.mem_append_right _ (List.mem_append_right _ (List.mem_append_left _ h)))))))))))))))))))))))))))))))))))))
theorem tr_29 : ∀ w ∈ wsL_law_r29, w ∈ wsL_law := fun _ h => (List.mem_append_left _ (List.mem_append_left _ (List.mem_append_left _ (List.mem_append_left _ (List.mem_append_left _ (List.mem_append_left _ (List.mem_append_left _ (List.mem_append_left _ (List.mem_append_left _ (List.mem_append_right _ (List.mem_append_right _ (List.mem_append_right _ (List.mem_append_right _ (List.mem_append_right _ (List.mem_append_right _ (List.mem_append_right _ (List.mem_append_right _ (List.mem_append_right _ (List.mem_append_right _ (List.mem_append_right _ (List.mem_append_right _ (List.mem_append_right _ (List.mem_append_right _ (List.mem_append_right _ (List.mem_append_right _ (List.mem_append_right _ (List.mem_append_right _ (List.mem_append_right _ (List.mem_append_right _ (List.mem_append_right _ (List.mem_append_right _ (List.mem_append_right _ (List.mem_append_right _ (List.mem_append_right _ (List.mem_append_right _ (List.mem_append_right _ (List.mem_append_right _ (List.mem_append_left _ h))))))))))))))))))))))))))))))))))))))
theorem tr_30 : ∀ w ∈ wsL_law_r30, w ∈ wsL_law := fun _ h => (List.mem_append_left _ (List.mem_append_left _ (List.mem_append_left _ (List.mem_append_left _ (List.mem_append_left _ (List.mem_append_left _ (List.mem_append_left _ (List.mem_append_left _ (List.mem_append_left _ (List.mem_append_right _ (List.mem_append_right _ (List.mem_append_right _ (List.mem_append_right _ (List.mem_append_right _ (List.mem_append_right _ (List.mem_append_right _ (List.mem_append_right _ (List.mem_append_right _ (List.mem_append_right _ (List.mem_append_right _ (List.mem_append_right _ (List.mem_append_right _ (List.mem_append_right _ (List.mem_append_right _ (List.mem_append_right _ (List.mem_append_right _ (List.mem_append_right _ (List.mem_append_right _ (List.mem_append_right _ (List.mem_append_right _ (List.mem_append_right _ (List.mem_append_right _ (List.mem_append_right _ (List.mem_append_right _ (List.mem_append_right _ (List.mem_append_right _ (List.mem_append_right _ (List.mem_append_right _ (List.mem_append_left _ h)))))))))))))))))))))))))))))))))))))))
theorem tr_31 : ∀ w ∈ wsL_law_r31, w ∈ wsL_law := fun _ h => (List.mem_append_left _ (List.mem_append_left _ (List.mem_append_left _ (List.mem_append_left _ (List.mem_append_left _ (List.mem_append_left _ (List.mem_append_left _ (List.mem_append_left _ (List.mem_append_left _ (List.mem_append_right _ (List.mem_append_right _ (List.mem_append_right _ (List.mem_append_right _ (List.mem_append_right _ (List.mem_append_right _ (List.mem_append_right _ (List.mem_append_right _ (List.mem_append_right _ (List.mem_append_right _ (List.mem_append_right _ (List.mem_append_right _ (List.mem_append_right _ (List.mem_append_right _ (List.mem_append_right _ (List.mem_append_right _ (List.mem_append_right _ (List.mem_append_right _ (List.mem_append_right _ (List.mem_append_right _ (List.mem_append_right _ (List.mem_append_right _ (List.mem_append_right _ (List.mem_append_right _ (List.mem_append_right _ (List.mem_append_right _ (List.mem_append_right _ (List.mem_append_right _ (List.mem_append_right _ (List.mem_append_right _ (List.mem_append_left _ h))))))))))))))))))))))))))))))))))))))))
theorem tr_32 : ∀ w ∈ wsL_law_r32, w ∈ wsL_law := fun _ h => (List.mem_append_left _ (List.mem_append_left _ (List.mem_append_left _ (List.mem_append_left _ (List.mem_append_left _ (List.mem_append_left _ (List.mem_append_left _ (List.mem_append_left _ (List.mem_append_left _ (List.mem_append_right _ (List.mem_append_right _ (List.mem_append_right _ (List.mem_append_right _ (List.mem_append_right _ (List.mem_append_right _ (List.mem_append_right _ (List.mem_append_right _ (List.mem_append_right _ (List.mem_append_right _ (List.mem_append_right _ (List.mem_append_right _ (List.mem_append_right _ (List.mem_append_right _ (List.mem_append_right _ (List.mem_append_right _ (List.mem_append_right _ (List.mem_append_right _ (List.mem_append_right _ (List.mem_append_right _ (List.mem_append_right _ (List.mem_append_right _ (List.mem_append_right _ (List.mem_append_right _ (List.mem_append_right _ (List.mem_append_right _ (List.mem_append_right _ (List.mem_append_right _ (List.mem_append_right _ (List.mem_append_right _ (List.mem_append_right _ (List.mem_append_left _ h)))))))))))))))))))))))))))))))))))))))))
theorem tr_33 : ∀ w ∈ wsL_law_r33, w ∈ wsL_law := fun _ h => (List.mem_append_left _ (List.mem_append_left _ (List.mem_append_left _ (List.mem_append_left _ (List.mem_append_left _ (List.mem_append_left _ (List.mem_append_left _ (List.mem_append_left _ (List.mem_append_left _ (List.mem_append_right _ (List.mem_append_right _ (List.mem_append_right _ (List.mem_append_right _ (List.mem_append_right _ (List.mem_append_right _ (List.mem_append_right _ (List.mem_append_right _ (List.mem_append_right _ (List.mem_append_right _ (List.mem_append_right _ (List.mem_append_right _ (List.mem_append_right _ (List.mem_append_right _ (List.mem_append_right _ (List.mem_append_right _ (List.mem_append_right _ (List.mem_append_right _ (List.mem_append_right _ (List.mem_append_right _ (List.mem_append_right _ (List.mem_append_right _ (List.mem_append_right _ (List.mem_append_right _ (List.mem_append_right _ (List.mem_append_right _ (List.mem_append_right _ (List.mem_append_right _ (List.mem_append_right _ (List.mem_append_right _ (List.mem_append_right _ (List.mem_append_right _ (List.mem_append_left _ h))))))))))))))))))))))))))))))))))))))))))
theorem tr_34 : ∀ w ∈ wsL_law_r34, w ∈ wsL_law := fun _ h => (List.mem_append_left _ (List.mem_append_left _ (List.mem_append_left _ (List.mem_append_left _ (List.mem_append_left _ (List.mem_append_left _ (List.mem_append_left _ (List.mem_append_left _ (List.mem_append_left _ (List.mem_append_right _ (List.mem_append_right _ (List.mem_append_right _ (List.mem_append_right _ (List.mem_append_right _ (List.mem_append_right _ (List.mem_append_right _ (List.mem_append_right _ (List.mem_append_right _ (List.mem_append_right _ (List.mem_append_right _ (List.mem_append_right _ (List.mem_append_right _ (List.mem_append_right _ (List.mem_append_right _ (List.mem_append_right _ (List.mem_append_right _ (List.mem_append_right _ (List.mem_append_right _ (List.mem_append_right _ (List.mem_append_right _ (List.mem_append_right _ (List.mem_append_right _ (List.mem_append_right _ (List.mem_append_right _ (List.mem_append_right _ (List.mem_append_right _ (List.mem_append_right _ (List.mem_append_right _ (List.mem_append_right _ (List.mem_append_right _ (List.mem_append_right _ (List.mem_append_right _ (List.mem_append_left _ h)))))))))))))))))))))))))))))))))))))))))))
theorem tr_35 : ∀ w ∈ wsL_law_r35, w ∈ wsL_law := fun _ h => (List.mem_append_left _ (List.mem_append_left _ (List.mem_append_left _ (List.mem_append_left _ (List.mem_append_left _ (List.mem_append_left _ (List.mem_append_left _ (List.mem_append_left _ (List.mem_append_left _ (List.mem_append_right _ (List.mem_append_right _ (List.mem_append_right _ (List.mem_append_right _ (List.mem_append_right _ (List.mem_append_right _ (List.mem_append_right _ (List.mem_append_right _ (List.mem_append_right _ (List.mem_append_right _ (List.mem_append_right _ (List.mem_append_right _ (List.mem_append_right _ (List.mem_append_right _ (List.mem_append_right _ (List.mem_append_right _ (List.mem_append_right _ (List.mem_append_right _ (List.mem_append_right _ (List.mem_append_right _ (List.mem_append_right _ (List.mem_append_right _ (List.mem_append_right _ (List.mem_append_right _ (List.mem_append_right _ (List.mem_append_right _ (List.mem_append_right _ (List.mem_append_right _ (List.mem_append_right _ (List.mem_append_right _ (List.mem_append_right _ (List.mem_append_right _ (List.mem_append_right _ (List.mem_append_right _ (List.mem_append_left _ h))))))))))))))))))))))))))))))))))))))))))))
theorem tr_36 : ∀ w ∈ wsL_law_r36, w ∈ wsL_law := fun _ h => (List.mem_append_left _ (List.mem_append_left _ (List.mem_append_left _ (List.mem_append_left _ (List.mem_append_left _ (List.mem_append_left _ (List.mem_append_left _ (List.mem_append_left _ (List.mem_append_left _ (List.mem_append_right _ (List.mem_append_right _ (List.mem_append_right _ (List.mem_append_right _ (List.mem_append_right _ (List.mem_append_right _ (List.mem_append_right _ (List.mem_append_right _ (List.mem_append_right _ (List.mem_append_right _ (List.mem_append_right _ (List.mem_append_right _ (List.mem_append_right _ (List.mem_append_right _ (List.mem_append_right _ (List.mem_append_right _ (List.mem_append_right _ (List.mem_append_right _ (List.mem_append_right _ (List.mem_append_right _ (List.mem_append_right _ (List.mem_append_right _ (List.mem_append_right _ (List.mem_append_right _ (List.mem_append_right _ (List.mem_append_right _ (List.mem_append_right _ (List.mem_append_right _ (List.mem_append_right _ (List.mem_append_right _ (List.mem_append_right _ (List.mem_append_right _ (List.mem_append_right _ (List.mem_append_right _ (List.mem_append_right _ (List.mem_append_left _ h)))))))))))))))))))))))))))))))))))))))))))))
theorem tr_37 : ∀ w ∈ wsL_law_r37, w ∈ wsL_law := fun _ h => (List.mem_append_left _ (List.mem_append_left _ (List.mem_append_left _ (List.mem_append_left _ (List.mem_append_left _ (List.mem_append_left _ (List.mem_append_left _ (List.mem_append_left _ (List.mem_append_left _ (List.mem_append_right _ (List.mem_append_right _ (List.mem_append_right _ (List.mem_append_right _ (List.mem_append_right _ (List.mem_append_right _ (List.mem_append_right _ (List.mem_append_right _ (List.mem_append_right _ (List.mem_append_right _ (List.mem_append_right _ (List.mem_append_right _ (List.mem_append_right _ (List.mem_append_right _ (List.mem_append_right _ (List.mem_append_right _ (List.mem_append_right _ (List.mem_append_right _ (List.mem_append_right _ (List.mem_append_right _ (List.mem_append_right _ (List.mem_append_right _ (List.mem_append_right _ (List.mem_append_right _ (List.mem_append_right _ (List.mem_append_right _ (List.mem_append_right _ (List.mem_append_right _ (List.mem_append_right _ (List.mem_append_right _ (List.mem_append_right _ (List.mem_append_right _ (List.mem_append_right _ (List.mem_append_right _ (List.mem_append_right _ (List.mem_append_right _ (List.mem_append_left _ h))))))))))))))))))))))))))))))))))))))))))))))
theorem tr_38 : ∀ w ∈ wsL_law_r38, w ∈ wsL_law := fun _ h => (List.mem_append_left _ (List.mem_append_left _ (List.mem_append_left _ (List.mem_append_left _ (List.mem_append_left _ (List.mem_append_left _ (List.mem_append_left _ (List.mem_append_left _ (List.mem_append_left _ (List.mem_append_right _ (List.mem_append_right _ (List.mem_append_right _ (List.mem_append_right _ (List.mem_append_right _ (List.mem_append_right _ (List.mem_append_right _ (List.mem_append_right _ (List.mem_append_right _ (List.mem_append_right _ (List.mem_append_right _ (List.mem_append_right _ (List.mem_append_right _ (List.mem_append_right _ (List.mem_append_right _ (List.mem_append_right _ (List.mem_append_right _ (List.mem_append_right _ (List.mem_append_right _ (List.mem_append_right _ (List.mem_append_right _ (List.mem_append_right _ (List.mem_append_right _ (List.mem_append_right _ (List.mem_append_right _ (List.mem_append_right _ (List.mem_append_right _ (List.mem_append_right _ (List.mem_append_right _ (List.mem_append_right _ (List.mem_append_right _ (List.mem_append_right _ (List.mem_append_right _ (List.mem_append_right _ (List.mem_append_right _ (List.mem_append_right _ (List.mem_append_right _ (List.mem_append_left _ h)))))))))))))))))))))))))))))))))))))))))))))))
theorem tr_39 : ∀ w ∈ wsL_law_r39, w ∈ wsL_law := fun _ h => (List.mem_append_left _ (List.mem_append_left _ (List.mem_append_left _ (List.mem_append_left _ (List.mem_append_left _ (List.mem_append_left _ (List.mem_append_left _ (List.mem_append_left _ (List.mem_append_left _ (List.mem_append_right _ (List.mem_append_right _ (List.mem_append_right _ (List.mem_append_right _ (List.mem_append_right _ (List.mem_append_right _ (List.mem_append_right _ (List.mem_append_right _ (List.mem_append_right _ (List.mem_append_right _ (List.mem_append_right _ (List.mem_append_right _ (List.mem_append_right _ (List.mem_append_right _ (List.mem_append_right _ (List.mem_append_right _ (List.mem_append_right _ (List.mem_append_right _ (List.mem_append_right _ (List.mem_append_right _ (List.mem_append_right _ (List.mem_append_right _ (List.mem_append_right _ (List.mem_append_right _ (List.mem_append_right _ (List.mem_append_right _ (List.mem_append_right _ (List.mem_append_right _ (List.mem_append_right _ (List.mem_append_right _ (List.mem_append_right _ (List.mem_append_right _ (List.mem_append_right _ (List.mem_append_right _ (List.mem_append_right _ (List.mem_append_right _ (List.mem_append_right _ (List.mem_append_right _ h)))))))))))))))))))))))))))))))))))))))))))))))
end
section
/-! what every part after this one uses: words by their places, contracts of methods that only read, Int32 by toInt -/
theorem tb_goodA : wsL_law.all goodWord = true := by decide +kernel
theorem tb_good : ∀ w ∈ wsL_law, goodWord w = true := fun w h => List.all_eq_true.mp tb_goodA w h
theorem tb_gI {big L : List Cond} (hb : ∀ w ∈ wsL_law, w ∈ big) (hL : ∀ w ∈ L, w ∈ wsL_law) : GoodIn big L := fun w h => ⟨hb w (hL w h), good_of_word (tb_good w (hL w h))⟩
theorem tb_hb (c : Cond) : ∀ w ∈ wsL_law, w ∈ c :: wsL_law := fun _ h => List.mem_cons_of_mem _ h
theorem tb_cons {d : Cond} (hd : d ∈ wsL_law) : ∀ w ∈ d :: wsL_law, w ∈ wsL_law := fun w h => (List.mem_cons.mp h).elim (fun e => e ▸ hd) id
theorem tb_I {big : List Cond} (hb : ∀ w ∈ wsL_law, w ∈ big) {d : Cond} (hd : d ∈ wsL_law) : GoodIn big (d :: wsL_law) := tb_gI hb (tb_cons hd)
theorem tb_V {big : List Cond} (hb : ∀ w ∈ wsL_law, w ∈ big) {own C : String} {idx : Nat} {y : MethodName} {d : Cond} (h1 : Cond.methodLink own idx y ∈ wsL_law) (h2 : Cond.instanceMethod y ∈ wsL_law) (h3 : Cond.selects C y y ∈ wsL_law) (h4 : Cond.initialized C ∈ wsL_law) (hd : d ∈ wsL_law) : GoodIn big (wsV own idx C y (d :: wsL_law)) := by
  refine tb_gI hb (fun w h => ?_)
  unfold wsV at h
  rcases List.mem_append.mp h with h | h
  · simp only [List.mem_cons, List.not_mem_nil, or_false] at h
    rcases h with rfl | rfl | rfl | rfl
    · exact h1
    · exact h2
    · exact h3
    · exact h4
  · exact tb_cons hd w h
theorem tb_S {big : List Cond} (hb : ∀ w ∈ wsL_law, w ∈ big) {own : String} {idx : Nat} {y : MethodName} {d : Cond} (h1 : Cond.methodLink own idx y ∈ wsL_law) (h2 : Cond.static y ∈ wsL_law) (h4 : Cond.initialized y.cls ∈ wsL_law) (hd : d ∈ wsL_law) : GoodIn big (va_wsS own idx y (d :: wsL_law)) := by
  refine tb_gI hb (fun w h => ?_)
  unfold va_wsS at h
  rcases List.mem_append.mp h with h | h
  · simp only [List.mem_cons, List.not_mem_nil, or_false] at h
    rcases h with rfl | rfl | rfl
    · exact h1
    · exact h2
    · exact h4
  · exact tb_cons hd w h
/-! contracts that leave the heap as it is -/
def rd_Qi (post : Int32 → Prop) : Array Value → State → Outcome → State → Prop := fun _ st oc t => ∃ r : Int32, oc = .returned (some (.int r)) ∧ post r ∧ t.heap = st.heap
def rd_Ql (post : Int64 → Prop) : Array Value → State → Outcome → State → Prop := fun _ st oc t => ∃ r : Int64, oc = .returned (some (.long r)) ∧ post r ∧ t.heap = st.heap
def rd_Qr (post : Nat → Prop) : Array Value → State → Outcome → State → Prop := fun _ st oc t => ∃ r : Nat, oc = .returned (some (.ref r)) ∧ post r ∧ t.heap = st.heap
def rd_Qv : Array Value → State → Outcome → State → Prop := fun _ st oc t => oc = .returned none ∧ t.heap = st.heap
section RD
variable {p : Program} {l : Launch} {e : Env} {R : Room} {s : State} {m : MethodId} {args : Array Value} {below : List Frame} {meth : Method} {c : Code} {H : Heap} {locs : List Loc} {cells slots : Nat} {Q : State → Prop}
variable {pc : Nat} {ls : Array Slot} {rest st0 : List Value} {a : Array Value}
theorem rd_ci {post : Int32 → Prop} (hr : va_Run p l e R s m args below meth c H locs cells slots 0 0 (F0 m pc ls st0) rest (rd_Qi post a) (fun _ => False))
    (kk : ∀ r : Int32, post r → W p l e R s m args below meth c H locs cells slots Q (F0 m (pc + 3) ls (.int r :: rest))) : W p l e R s m args below meth c H locs cells slots Q (F0 m pc ls st0) := by
  intro T hT X
  obtain ⟨v, st₀, t, T', L, h0, X', hL, e1, -, ⟨r, hv, hp, hh⟩, st⟩ := hr T hT X
  cases hv
  obtain ⟨t2, a1, b1⟩ := kk r hp T' (by rw [e1, hh, h0]) (Stand.forget X' (fun q h => (hL q h).elim))
  exact ⟨t2, st t2 a1, b1⟩
theorem rd_cl {post : Int64 → Prop} (hr : va_Run p l e R s m args below meth c H locs cells slots 0 0 (F0 m pc ls st0) rest (rd_Ql post a) (fun _ => False))
    (kk : ∀ r : Int64, post r → W p l e R s m args below meth c H locs cells slots Q (F0 m (pc + 3) ls (.long r :: rest))) : W p l e R s m args below meth c H locs cells slots Q (F0 m pc ls st0) := by
  intro T hT X
  obtain ⟨v, st₀, t, T', L, h0, X', hL, e1, -, ⟨r, hv, hp, hh⟩, st⟩ := hr T hT X
  cases hv
  obtain ⟨t2, a1, b1⟩ := kk r hp T' (by rw [e1, hh, h0]) (Stand.forget X' (fun q h => (hL q h).elim))
  exact ⟨t2, st t2 a1, b1⟩
theorem rd_cr {post : Nat → Prop} (hr : va_Run p l e R s m args below meth c H locs cells slots 0 0 (F0 m pc ls st0) rest (rd_Qr post a) (fun _ => False))
    (kk : ∀ r : Nat, post r → W p l e R s m args below meth c H locs cells slots Q (F0 m (pc + 3) ls (.ref r :: rest))) : W p l e R s m args below meth c H locs cells slots Q (F0 m pc ls st0) := by
  intro T hT X
  obtain ⟨v, st₀, t, T', L, h0, X', hL, e1, -, ⟨r, hv, hp, hh⟩, st⟩ := hr T hT X
  cases hv
  obtain ⟨t2, a1, b1⟩ := kk r hp T' (by rw [e1, hh, h0]) (Stand.forget X' (fun q h => (hL q h).elim))
  exact ⟨t2, st t2 a1, b1⟩
theorem rd_cv (hr : va_Run p l e R s m args below meth c H locs cells slots 0 0 (F0 m pc ls st0) rest (rd_Qv a) (fun _ => False))
    (kk : W p l e R s m args below meth c H locs cells slots Q (F0 m (pc + 3) ls rest)) : W p l e R s m args below meth c H locs cells slots Q (F0 m pc ls st0) := by
  intro T hT X
  obtain ⟨v, st₀, t, T', L, h0, X', hL, e1, -, ⟨hv, hh⟩, st⟩ := hr T hT X
  cases hv
  obtain ⟨t2, a1, b1⟩ := kk T' (by rw [e1, hh, h0]) (Stand.forget X' (fun q h => (hL q h).elim))
  exact ⟨t2, st t2 a1, b1⟩
end RD
/-! Int32 by toInt -/
theorem ti_lt {a b : Int32} (h : a < b) : a.toInt < b.toInt := Int32.lt_iff_toInt_lt.mp h
theorem ti_le {a b : Int32} (h : a ≤ b) : a.toInt ≤ b.toInt := Int32.le_iff_toInt_le.mp h
theorem ti_nlt {a b : Int32} (h : ¬ a < b) : b.toInt ≤ a.toInt := by
  rw [Int32.lt_iff_toInt_lt] at h; omega
theorem ti_nle {a b : Int32} (h : ¬ a ≤ b) : b.toInt < a.toInt := by
  rw [Int32.le_iff_toInt_le] at h; omega
theorem ti_eq {a b : Int32} (h : a = b) : a.toInt = b.toInt := by rw [h]
theorem ti_ne {a b : Int32} (h : ¬ a = b) : ¬ a.toInt = b.toInt := fun q => h (Int32.toInt_inj.mp q)
theorem ti_rng (x : Int32) : -2147483648 ≤ x.toInt ∧ x.toInt ≤ 2147483647 := by
  have h1 := Int32.minValue_le_toInt x
  have h2 := Int32.toInt_lt x
  have h3 := Int32.le_toInt x
  omega
theorem ti_bmod {z : Int} (h1 : -2147483648 ≤ z) (h2 : z ≤ 2147483647) : z.bmod (2 ^ 32) = z := by
  rw [Int.bmod_eq_of_le] <;> omega
theorem ti_add {x y : Int32} (h1 : -2147483648 ≤ x.toInt + y.toInt) (h2 : x.toInt + y.toInt ≤ 2147483647) : (x + y).toInt = x.toInt + y.toInt := by
  rw [Int32.toInt_add]; exact ti_bmod h1 h2
theorem ti_sub {x y : Int32} (h1 : -2147483648 ≤ x.toInt - y.toInt) (h2 : x.toInt - y.toInt ≤ 2147483647) : (x - y).toInt = x.toInt - y.toInt := by
  rw [Int32.toInt_sub]; exact ti_bmod h1 h2
theorem ti_mul {x y : Int32} (h1 : -2147483648 ≤ x.toInt * y.toInt) (h2 : x.toInt * y.toInt ≤ 2147483647) : (x * y).toInt = x.toInt * y.toInt := by
  rw [Int32.toInt_mul]; exact ti_bmod h1 h2
theorem ti_vp {x : Int32} {n : Nat} (h1 : 0 ≤ x.toInt) (h2 : x.toInt < n) : vp_in x n := vp_in_iff.mpr ⟨h1, h2⟩
end
section
/-! the class's world: cells by their numbers (za Z i: the address of cell i); g i: what the int fields, or the int array, of cell i hold; gl i: long arrays; tf a: the fields of the Tariff at a -/
abbrev ZT : Type := va_G × (Nat → ClassId) × (Nat → Nat) × (Nat → Nat → Option Nat) × List Nat × (Nat → Prop) × Nat × Nat
def zD (Z : ZT) : va_G := Z.1
def zc (Z : ZT) : Nat → ClassId := Z.2.1
def za (Z : ZT) : Nat → Nat := Z.2.2.1
def zr (Z : ZT) : Nat → Nat → Option Nat := Z.2.2.2.1
def zL (Z : ZT) : List Nat := Z.2.2.2.2.1
def zA (Z : ZT) : Nat → Prop := Z.2.2.2.2.2.1
def zK (Z : ZT) : Nat := Z.2.2.2.2.2.2.1
def zV (Z : ZT) : Nat := Z.2.2.2.2.2.2.2
abbrev zty (Z : ZT) : List (ClassId × FieldType) := [(zc Z 0, .byte), (zc Z 1, .int), (zc Z 2, .long), (zc Z 3, .object RX3)]
def up2 (g : Nat → Nat → Int32) (i k : Nat) (v : Int32) : Nat → Nat → Int32 := fun i' => if i' = i then (fun k' => if k' = k then v else g i k') else g i'
def upR (g : Nat → Nat → Int32) (i : Nat) (r : Nat → Int32) : Nat → Nat → Int32 := fun i' => if i' = i then r else g i'
def upL (g : Nat → Nat → Int64) (i : Nat) (r : Nat → Int64) : Nat → Nat → Int64 := fun i' => if i' = i then r else g i'
def tfF (tf : Nat → Nat → Int32) : Nat → va_E := fun a => .inr (3, [.int (tf a 0), .int (tf a 1), .int (tf a 2), .int (tf a 3), .int (tf a 4)])
def xw0 (Z : ZT) (g : Nat → Nat → Int32) (gl : Nat → Nat → Int64) : va_W := [(za Z 0, .inr (6, [.ref (za Z 1), .ref (za Z 3), .ref (za Z 5), .ref (za Z 11), .ref (za Z 16), .ref (za Z 24), .ref (za Z 17), .ref (za Z 19), .int (g 0 8), .int (g 0 9), .int (g 0 10)])), (za Z 1, .inr (1, [.ref (za Z 2), .int (g 1 1)])), (za Z 2, .inl (zc Z 1, 50, .inl (g 2))), (za Z 3, .inr (4, [.ref (za Z 4), .int (g 3 1)])), (za Z 4, .inl (zc Z 3, 70, .inr (.inr (.inr (.inr (zr Z 4)))))), (za Z 5, .inr (5, [.ref (za Z 3), .ref (za Z 6), .ref (za Z 7), .ref (za Z 8), .ref (za Z 9), .int (g 5 5), .ref (za Z 10)])), (za Z 6, .inl (zc Z 1, 128, .inl (g 6))), (za Z 7, .inl (zc Z 1, 2100, .inl (g 7))), (za Z 8, .inl (zc Z 1, 2100, .inl (g 8))), (za Z 9, .inl (zc Z 1, 70, .inl (g 9))), (za Z 10, .inl (zc Z 1, 64, .inl (g 10))), (za Z 11, .inr (2, [.ref (za Z 12), .ref (za Z 13), .ref (za Z 14), .ref (za Z 15), .int (g 11 4)])), (za Z 12, .inl (zc Z 1, 6, .inl (g 12))), (za Z 13, .inl (zc Z 1, 6, .inl (g 13))), (za Z 14, .inl (zc Z 1, 6, .inl (g 14))), (za Z 15, .inl (zc Z 2, 5, .inr (.inl (gl 15)))), (za Z 16, .inr (0, [.int (g 16 0)])), (za Z 17, .inr (4, [.ref (za Z 18), .int (g 17 1)])), (za Z 18, .inl (zc Z 3, 40, .inr (.inr (.inr (.inr (zr Z 18)))))), (za Z 19, .inr (2, [.ref (za Z 20), .ref (za Z 21), .ref (za Z 22), .ref (za Z 23), .int (g 19 4)])), (za Z 20, .inl (zc Z 1, 6, .inl (g 20))), (za Z 21, .inl (zc Z 1, 6, .inl (g 21))), (za Z 22, .inl (zc Z 1, 6, .inl (g 22))), (za Z 23, .inl (zc Z 2, 5, .inr (.inl (gl 23))))]
def xw (Z : ZT) (g : Nat → Nat → Int32) (gl : Nat → Nat → Int64) (tf : Nat → Nat → Int32) : va_W := xw0 Z g gl ++ va_pl (zL Z) (tfF tf)
section XW
variable {Z : ZT} {g : Nat → Nat → Int32} {gl : Nat → Nat → Int64} {tf : Nat → Nat → Int32} {H : Heap} {A : Nat → Prop}
theorem xw_0 : (xw Z g gl tf)[0]? = some (za Z 0, .inr (6, [.ref (za Z 1), .ref (za Z 3), .ref (za Z 5), .ref (za Z 11), .ref (za Z 16), .ref (za Z 24), .ref (za Z 17), .ref (za Z 19), .int (g 0 8), .int (g 0 9), .int (g 0 10)])) := rfl
theorem xf_0_8 {v : Int32} (h : va_P (zD Z) vwCl ((xw Z g gl tf).set 0 (za Z 0, .inr (6, ([.ref (za Z 1), .ref (za Z 3), .ref (za Z 5), .ref (za Z 11), .ref (za Z 16), .ref (za Z 24), .ref (za Z 17), .ref (za Z 19), .int (g 0 8), .int (g 0 9), .int (g 0 10)] : List Value).set 8 (.int v)))) H) : va_P (zD Z) vwCl (xw Z (up2 g 0 8 v) gl tf) H := h
theorem xf_0_9 {v : Int32} (h : va_P (zD Z) vwCl ((xw Z g gl tf).set 0 (za Z 0, .inr (6, ([.ref (za Z 1), .ref (za Z 3), .ref (za Z 5), .ref (za Z 11), .ref (za Z 16), .ref (za Z 24), .ref (za Z 17), .ref (za Z 19), .int (g 0 8), .int (g 0 9), .int (g 0 10)] : List Value).set 9 (.int v)))) H) : va_P (zD Z) vwCl (xw Z (up2 g 0 9 v) gl tf) H := h
theorem xf_0_10 {v : Int32} (h : va_P (zD Z) vwCl ((xw Z g gl tf).set 0 (za Z 0, .inr (6, ([.ref (za Z 1), .ref (za Z 3), .ref (za Z 5), .ref (za Z 11), .ref (za Z 16), .ref (za Z 24), .ref (za Z 17), .ref (za Z 19), .int (g 0 8), .int (g 0 9), .int (g 0 10)] : List Value).set 10 (.int v)))) H) : va_P (zD Z) vwCl (xw Z (up2 g 0 10 v) gl tf) H := h
theorem xw_1 : (xw Z g gl tf)[1]? = some (za Z 1, .inr (1, [.ref (za Z 2), .int (g 1 1)])) := rfl
theorem xf_1_1 {v : Int32} (h : va_P (zD Z) vwCl ((xw Z g gl tf).set 1 (za Z 1, .inr (1, ([.ref (za Z 2), .int (g 1 1)] : List Value).set 1 (.int v)))) H) : va_P (zD Z) vwCl (xw Z (up2 g 1 1 v) gl tf) H := h
theorem xw_2 : (xw Z g gl tf)[2]? = some (za Z 2, .inl (zc Z 1, 50, .inl (g 2))) := rfl
theorem xs_2 {r : Nat → Int32} (h : va_P (zD Z) vwCl ((xw Z g gl tf).set 2 (za Z 2, .inl (zc Z 1, 50, .inl (r)))) H) : va_P (zD Z) vwCl (xw Z (upR g 2 r) gl tf) H := h
theorem xw_3 : (xw Z g gl tf)[3]? = some (za Z 3, .inr (4, [.ref (za Z 4), .int (g 3 1)])) := rfl
theorem xf_3_1 {v : Int32} (h : va_P (zD Z) vwCl ((xw Z g gl tf).set 3 (za Z 3, .inr (4, ([.ref (za Z 4), .int (g 3 1)] : List Value).set 1 (.int v)))) H) : va_P (zD Z) vwCl (xw Z (up2 g 3 1 v) gl tf) H := h
theorem xw_4 : (xw Z g gl tf)[4]? = some (za Z 4, .inl (zc Z 3, 70, .inr (.inr (.inr (.inr (zr Z 4)))))) := rfl
theorem xw_5 : (xw Z g gl tf)[5]? = some (za Z 5, .inr (5, [.ref (za Z 3), .ref (za Z 6), .ref (za Z 7), .ref (za Z 8), .ref (za Z 9), .int (g 5 5), .ref (za Z 10)])) := rfl
theorem xf_5_5 {v : Int32} (h : va_P (zD Z) vwCl ((xw Z g gl tf).set 5 (za Z 5, .inr (5, ([.ref (za Z 3), .ref (za Z 6), .ref (za Z 7), .ref (za Z 8), .ref (za Z 9), .int (g 5 5), .ref (za Z 10)] : List Value).set 5 (.int v)))) H) : va_P (zD Z) vwCl (xw Z (up2 g 5 5 v) gl tf) H := h
theorem xw_6 : (xw Z g gl tf)[6]? = some (za Z 6, .inl (zc Z 1, 128, .inl (g 6))) := rfl
theorem xs_6 {r : Nat → Int32} (h : va_P (zD Z) vwCl ((xw Z g gl tf).set 6 (za Z 6, .inl (zc Z 1, 128, .inl (r)))) H) : va_P (zD Z) vwCl (xw Z (upR g 6 r) gl tf) H := h
theorem xw_7 : (xw Z g gl tf)[7]? = some (za Z 7, .inl (zc Z 1, 2100, .inl (g 7))) := rfl
theorem xs_7 {r : Nat → Int32} (h : va_P (zD Z) vwCl ((xw Z g gl tf).set 7 (za Z 7, .inl (zc Z 1, 2100, .inl (r)))) H) : va_P (zD Z) vwCl (xw Z (upR g 7 r) gl tf) H := h
theorem xw_8 : (xw Z g gl tf)[8]? = some (za Z 8, .inl (zc Z 1, 2100, .inl (g 8))) := rfl
theorem xs_8 {r : Nat → Int32} (h : va_P (zD Z) vwCl ((xw Z g gl tf).set 8 (za Z 8, .inl (zc Z 1, 2100, .inl (r)))) H) : va_P (zD Z) vwCl (xw Z (upR g 8 r) gl tf) H := h
theorem xw_9 : (xw Z g gl tf)[9]? = some (za Z 9, .inl (zc Z 1, 70, .inl (g 9))) := rfl
theorem xs_9 {r : Nat → Int32} (h : va_P (zD Z) vwCl ((xw Z g gl tf).set 9 (za Z 9, .inl (zc Z 1, 70, .inl (r)))) H) : va_P (zD Z) vwCl (xw Z (upR g 9 r) gl tf) H := h
theorem xw_10 : (xw Z g gl tf)[10]? = some (za Z 10, .inl (zc Z 1, 64, .inl (g 10))) := rfl
theorem xs_10 {r : Nat → Int32} (h : va_P (zD Z) vwCl ((xw Z g gl tf).set 10 (za Z 10, .inl (zc Z 1, 64, .inl (r)))) H) : va_P (zD Z) vwCl (xw Z (upR g 10 r) gl tf) H := h
theorem xw_11 : (xw Z g gl tf)[11]? = some (za Z 11, .inr (2, [.ref (za Z 12), .ref (za Z 13), .ref (za Z 14), .ref (za Z 15), .int (g 11 4)])) := rfl
theorem xf_11_4 {v : Int32} (h : va_P (zD Z) vwCl ((xw Z g gl tf).set 11 (za Z 11, .inr (2, ([.ref (za Z 12), .ref (za Z 13), .ref (za Z 14), .ref (za Z 15), .int (g 11 4)] : List Value).set 4 (.int v)))) H) : va_P (zD Z) vwCl (xw Z (up2 g 11 4 v) gl tf) H := h
theorem xw_12 : (xw Z g gl tf)[12]? = some (za Z 12, .inl (zc Z 1, 6, .inl (g 12))) := rfl
theorem xs_12 {r : Nat → Int32} (h : va_P (zD Z) vwCl ((xw Z g gl tf).set 12 (za Z 12, .inl (zc Z 1, 6, .inl (r)))) H) : va_P (zD Z) vwCl (xw Z (upR g 12 r) gl tf) H := h
theorem xw_13 : (xw Z g gl tf)[13]? = some (za Z 13, .inl (zc Z 1, 6, .inl (g 13))) := rfl
theorem xs_13 {r : Nat → Int32} (h : va_P (zD Z) vwCl ((xw Z g gl tf).set 13 (za Z 13, .inl (zc Z 1, 6, .inl (r)))) H) : va_P (zD Z) vwCl (xw Z (upR g 13 r) gl tf) H := h
theorem xw_14 : (xw Z g gl tf)[14]? = some (za Z 14, .inl (zc Z 1, 6, .inl (g 14))) := rfl
theorem xs_14 {r : Nat → Int32} (h : va_P (zD Z) vwCl ((xw Z g gl tf).set 14 (za Z 14, .inl (zc Z 1, 6, .inl (r)))) H) : va_P (zD Z) vwCl (xw Z (upR g 14 r) gl tf) H := h
theorem xw_15 : (xw Z g gl tf)[15]? = some (za Z 15, .inl (zc Z 2, 5, .inr (.inl (gl 15)))) := rfl
theorem xs_15 {r : Nat → Int64} (h : va_P (zD Z) vwCl ((xw Z g gl tf).set 15 (za Z 15, .inl (zc Z 2, 5, .inr (.inl (r))))) H) : va_P (zD Z) vwCl (xw Z g (upL gl 15 r) tf) H := h
theorem xw_16 : (xw Z g gl tf)[16]? = some (za Z 16, .inr (0, [.int (g 16 0)])) := rfl
theorem xf_16_0 {v : Int32} (h : va_P (zD Z) vwCl ((xw Z g gl tf).set 16 (za Z 16, .inr (0, ([.int (g 16 0)] : List Value).set 0 (.int v)))) H) : va_P (zD Z) vwCl (xw Z (up2 g 16 0 v) gl tf) H := h
theorem xw_17 : (xw Z g gl tf)[17]? = some (za Z 17, .inr (4, [.ref (za Z 18), .int (g 17 1)])) := rfl
theorem xf_17_1 {v : Int32} (h : va_P (zD Z) vwCl ((xw Z g gl tf).set 17 (za Z 17, .inr (4, ([.ref (za Z 18), .int (g 17 1)] : List Value).set 1 (.int v)))) H) : va_P (zD Z) vwCl (xw Z (up2 g 17 1 v) gl tf) H := h
theorem xw_18 : (xw Z g gl tf)[18]? = some (za Z 18, .inl (zc Z 3, 40, .inr (.inr (.inr (.inr (zr Z 18)))))) := rfl
theorem xw_19 : (xw Z g gl tf)[19]? = some (za Z 19, .inr (2, [.ref (za Z 20), .ref (za Z 21), .ref (za Z 22), .ref (za Z 23), .int (g 19 4)])) := rfl
theorem xf_19_4 {v : Int32} (h : va_P (zD Z) vwCl ((xw Z g gl tf).set 19 (za Z 19, .inr (2, ([.ref (za Z 20), .ref (za Z 21), .ref (za Z 22), .ref (za Z 23), .int (g 19 4)] : List Value).set 4 (.int v)))) H) : va_P (zD Z) vwCl (xw Z (up2 g 19 4 v) gl tf) H := h
theorem xw_20 : (xw Z g gl tf)[20]? = some (za Z 20, .inl (zc Z 1, 6, .inl (g 20))) := rfl
theorem xs_20 {r : Nat → Int32} (h : va_P (zD Z) vwCl ((xw Z g gl tf).set 20 (za Z 20, .inl (zc Z 1, 6, .inl (r)))) H) : va_P (zD Z) vwCl (xw Z (upR g 20 r) gl tf) H := h
theorem xw_21 : (xw Z g gl tf)[21]? = some (za Z 21, .inl (zc Z 1, 6, .inl (g 21))) := rfl
theorem xs_21 {r : Nat → Int32} (h : va_P (zD Z) vwCl ((xw Z g gl tf).set 21 (za Z 21, .inl (zc Z 1, 6, .inl (r)))) H) : va_P (zD Z) vwCl (xw Z (upR g 21 r) gl tf) H := h
theorem xw_22 : (xw Z g gl tf)[22]? = some (za Z 22, .inl (zc Z 1, 6, .inl (g 22))) := rfl
theorem xs_22 {r : Nat → Int32} (h : va_P (zD Z) vwCl ((xw Z g gl tf).set 22 (za Z 22, .inl (zc Z 1, 6, .inl (r)))) H) : va_P (zD Z) vwCl (xw Z (upR g 22 r) gl tf) H := h
theorem xw_23 : (xw Z g gl tf)[23]? = some (za Z 23, .inl (zc Z 2, 5, .inr (.inl (gl 23)))) := rfl
theorem xs_23 {r : Nat → Int64} (h : va_P (zD Z) vwCl ((xw Z g gl tf).set 23 (za Z 23, .inl (zc Z 2, 5, .inr (.inl (r))))) H) : va_P (zD Z) vwCl (xw Z g (upL gl 23 r) tf) H := h
theorem xt_at {a : Nat} (ha : a ∈ zL Z) : ∃ k : Nat, (xw Z g gl tf)[k]? = some (a, .inr (3, [.int (tf a 0), .int (tf a 1), .int (tf a 2), .int (tf a 3), .int (tf a 4)])) := va_pl_get (X := xw0 Z g gl) (f := tfF tf) ha
theorem xt_set {a k j : Nat} {v : Int32} {e : va_E} (hD : va_D A (xw Z g gl tf)) (ha : a ∈ zL Z) (hk : (xw Z g gl tf)[k]? = some (a, .inr (3, [.int (tf a 0), .int (tf a 1), .int (tf a 2), .int (tf a 3), .int (tf a 4)]))) (he : e = tfF (up2 tf a j v) a) (h : va_P (zD Z) vwCl ((xw Z g gl tf).set k (a, e)) H) : va_P (zD Z) vwCl (xw Z g gl (up2 tf a j v)) H := by
  have h1 : (xw Z g gl tf).set k (a, e) = xw0 Z g gl ++ va_pl (zL Z) (va_up (tfF tf) a e) := va_pl_set (X := xw0 Z g gl) hD ha hk
  rw [h1] at h
  have h2 : va_pl (zL Z) (va_up (tfF tf) a e) = va_pl (zL Z) (tfF (up2 tf a j v)) := by
    refine va_pl_congr (fun b => ?_)
    by_cases hb : b = a
    · subst hb; rw [va_up_self, he]
    · rw [va_up_ne _ _ hb]; simp [tfF, up2, hb]
  rw [h2] at h
  exact h
theorem xt_0 {a : Nat} {v : Int32} : (.inr (3, ([.int (tf a 0), .int (tf a 1), .int (tf a 2), .int (tf a 3), .int (tf a 4)] : List Value).set 0 (.int v)) : va_E) = tfF (up2 tf a 0 v) a := by simp [tfF, up2]
theorem xt_1 {a : Nat} {v : Int32} : (.inr (3, ([.int (tf a 0), .int (tf a 1), .int (tf a 2), .int (tf a 3), .int (tf a 4)] : List Value).set 1 (.int v)) : va_E) = tfF (up2 tf a 1 v) a := by simp [tfF, up2]
theorem xt_2 {a : Nat} {v : Int32} : (.inr (3, ([.int (tf a 0), .int (tf a 1), .int (tf a 2), .int (tf a 3), .int (tf a 4)] : List Value).set 2 (.int v)) : va_E) = tfF (up2 tf a 2 v) a := by simp [tfF, up2]
theorem xt_3 {a : Nat} {v : Int32} : (.inr (3, ([.int (tf a 0), .int (tf a 1), .int (tf a 2), .int (tf a 3), .int (tf a 4)] : List Value).set 3 (.int v)) : va_E) = tfF (up2 tf a 3 v) a := by simp [tfF, up2]
theorem xt_4 {a : Nat} {v : Int32} : (.inr (3, ([.int (tf a 0), .int (tf a 1), .int (tf a 2), .int (tf a 3), .int (tf a 4)] : List Value).set 4 (.int v)) : va_E) = tfF (up2 tf a 4 v) a := by simp [tfF, up2]
end XW
/-- the addresses alone decide that cells are apart -/
theorem xD_map {A : Nat → Prop} {w w' : va_W} (h : w.map Prod.fst = w'.map Prod.fst) (hD : va_D A w) : va_D A w' := by
  have key : ∀ (k : Nat) (q : Nat × va_E), w'[k]? = some q → ∃ q0, w[k]? = some q0 ∧ q0.1 = q.1 := by
    intro k q hk
    have h1 : (w'.map Prod.fst)[k]? = some q.1 := by rw [List.getElem?_map, hk]; rfl
    rw [← h, List.getElem?_map] at h1
    cases hw : w[k]? with
    | none => rw [hw] at h1; cases h1
    | some q0 => rw [hw] at h1; exact ⟨q0, rfl, Option.some.inj h1⟩
  refine ⟨fun i j x y hi hj hxy => ?_, fun k q hk => ?_⟩
  · obtain ⟨x0, h1, h2⟩ := key i x hi
    obtain ⟨y0, h3, h4⟩ := key j y hj
    exact hD.1 i j x0 y0 h1 h3 (h2.trans (hxy.trans h4.symm))
  · obtain ⟨q0, h1, h2⟩ := key k q hk
    rw [← h2]
    exact hD.2 k q0 h1
theorem xw_fst {Z : ZT} {g g' : Nat → Nat → Int32} {gl gl' : Nat → Nat → Int64} {tf tf' : Nat → Nat → Int32} : (xw Z g gl tf).map Prod.fst = (xw Z g' gl' tf').map Prod.fst := by
  simp [xw, xw0, va_pl]
/-- what never changes of the class's world: the cells are apart; every row of the two tables of tariffs is one of the pool; so is the tariff that is asked for -/
def XG (Z : ZT) : Prop := va_D (zA Z) (xw Z (fun _ _ => 0) (fun _ _ => 0) (fun _ _ => 0)) ∧ (∀ j, j < 70 → ∃ a, a ∈ zL Z ∧ zr Z 4 j = some a) ∧ (∀ j, j < 40 → ∃ a, a ∈ zL Z ∧ zr Z 18 j = some a) ∧ za Z 24 ∈ zL Z
theorem XG.D {Z : ZT} (h : XG Z) {g : Nat → Nat → Int32} {gl : Nat → Nat → Int64} {tf : Nat → Nat → Int32} : va_D (zA Z) (xw Z g gl tf) := xD_map xw_fst h.1
theorem XG.r4 {Z : ZT} (h : XG Z) {x : Int32} (hx : vp_in x 70) : ∃ a, a ∈ zL Z ∧ zr Z 4 x.toNatClampNeg = some a := h.2.1 _ (Nat.not_le.mp fun q => hx (Or.inr q))
theorem XG.r18 {Z : ZT} (h : XG Z) {x : Int32} (hx : vp_in x 40) : ∃ a, a ∈ zL Z ∧ zr Z 18 x.toNatClampNeg = some a := h.2.2.1 _ (Nat.not_le.mp fun q => hx (Or.inr q))
/-- the state of the class at a state of the machine -/
def XI (Z : ZT) (g : Nat → Nat → Int32) (gl : Nat → Nat → Int64) (tf : Nat → Nat → Int32) (U : State) : Prop :=
  va_P (zD Z) vwCl (xw Z g gl tf) U.heap ∧ va_K (zD Z) vwCl (zty Z) U ∧ va_Nw (.methodLinkNest RX5 81 yX6_isQuantity RX6) U ∧ vk_R RX1 31 "tfsbo" (zK Z) U ∧ vk_S 1 [5] [[116, 102, 115, 98, 111]] (fun _ => zK Z) (fun _ => zV Z) (zA Z) U U.heap ∧ va_Z "java/lang/String" "COMPACT_STRINGS" "Z" (.int 1) (zA Z) U U.heap
theorem XI.at {Z : ZT} {g0 g : Nat → Nat → Int32} {gl0 gl : Nat → Nat → Int64} {tf0 tf : Nat → Nat → Int32} {s U : State} {H : Heap} {locs : List Loc} (h : XI Z g0 gl0 tf0 s) (hS : va_S (zA Z) s.heap H locs) (hP : va_P (zD Z) vwCl (xw Z g gl tf) H) (hU : U.heap = H) (hW : s.WarmedH U.vm) : XI Z g gl tf U := by
  refine ⟨by rw [hU]; exact hP, va_K.moved hW.alike h.2.1, va_Nw.warmM hW h.2.2.1, vk_R.warm hW h.2.2.2.1, ?_, ?_⟩
  · rw [hU]
    exact vk_S.moved hW.alike (vk_S.kept h.2.2.2.2.1 (fun a ha hn => hS.2.1 a ha hn))
  · rw [hU]
    exact va_Z.moved hW.alike (va_Z.kept h.2.2.2.2.2 (fun a ha hn => hS.2.1 a ha hn))
theorem XI.blind {Z : ZT} {g : Nat → Nat → Int32} {gl : Nat → Nat → Int64} {tf : Nat → Nat → Int32} {U : State} (f : JFrame) (mk : MethodId) (a : Array Value) (h : XI Z g gl tf U) : XI Z g gl tf (U.calling f mk a) :=
  ⟨h.1, va_K.moved (u := U) (U := U.calling f mk a) (Vm.Alike.refl U.vm) h.2.1, va_Nw.same rfl (u := U) rfl h.2.2.1, vk_R.same (u := U) rfl h.2.2.2.1, vk_S.moved (u := U) (U := U.calling f mk a) (Vm.Alike.refl U.vm) h.2.2.2.2.1, va_Z.moved (u := U) (U := U.calling f mk a) (Vm.Alike.refl U.vm) h.2.2.2.2.2⟩
/-- which rows may have changed -/
def Fr (S : List Nat) (g g' : Nat → Nat → Int32) : Prop := ∀ i, i ∉ S → g' i = g i
theorem Fr.rf {S : List Nat} {g : Nat → Nat → Int32} : Fr S g g := fun _ _ => rfl
theorem Fr.u2 {S : List Nat} {g0 g : Nat → Nat → Int32} {i k : Nat} {v : Int32} (h : Fr S g0 g) (hi : i ∈ S) : Fr S g0 (up2 g i k v) := fun j hj => by
  have : j ≠ i := fun e => hj (e ▸ hi)
  simp only [up2, if_neg this]; exact h j hj
theorem Fr.uR {S : List Nat} {g0 g : Nat → Nat → Int32} {i : Nat} {r : Nat → Int32} (h : Fr S g0 g) (hi : i ∈ S) : Fr S g0 (upR g i r) := fun j hj => by
  have : j ≠ i := fun e => hj (e ▸ hi)
  simp only [upR, if_neg this]; exact h j hj
theorem Fr.tr {S S' : List Nat} {g0 g g' : Nat → Nat → Int32} (h : Fr S g0 g) (h' : Fr S' g g') (hs : ∀ i ∈ S', i ∈ S) : Fr S g0 g' := fun j hj => (h' j (fun q => hj (hs j q))).trans (h j hj)
/-- of every tariff LAST is small (so that a loop up to it ends) -/
def Gd (Z : ZT) (tf : Nat → Nat → Int32) : Prop := ∀ a, a ∈ zL Z → (tf a 4).toInt ≤ 1000
theorem Gd.u {Z : ZT} {tf : Nat → Nat → Int32} {a k : Nat} {v : Int32} (h : Gd Z tf) (hk : k ≠ 4) : Gd Z (up2 tf a k v) := fun b hb => by
  by_cases e : b = a
  · subst e; simp only [up2, if_true, if_neg (Ne.symm hk)]; exact h b hb
  · simp only [up2, if_neg e]; exact h b hb
theorem Gd.u4 {Z : ZT} {tf : Nat → Nat → Int32} {a : Nat} {v : Int32} (h : Gd Z tf) (hv : v.toInt ≤ 1000) : Gd Z (up2 tf a 4 v) := fun b hb => by
  by_cases e : b = a
  · subst e; simp only [up2, if_true]; exact hv
  · simp only [up2, if_neg e]; exact h b hb
end
section
theorem ti_remk {x y v : Int32} {a b : Int} (hx : x.toInt = a) (hy : y.toInt = b) (h1 : 0 ≤ a) (h2 : 0 < b) (e : v = x - x / y * y) : v.toInt = a % b := by
  subst hx; subst hy
  obtain ⟨j, hj, rfl⟩ := nI_of (x := x) (by rw [Int32.lt_iff_toInt_lt]; show ¬ x.toInt < 0; omega)
  obtain ⟨i, hi, rfl⟩ := nI_of (x := y) (by rw [Int32.lt_iff_toInt_lt]; show ¬ y.toInt < 0; omega)
  rw [nI_toInt hi] at h2
  have hm := Nat.mod_lt j (show 0 < i by omega)
  rw [e, pk_rem hj (by omega) hi, nI_toInt (by omega), nI_toInt hj, nI_toInt hi]; omega
theorem ti_divk {x y v : Int32} {a b : Int} (hx : x.toInt = a) (hy : y.toInt = b) (h1 : 0 ≤ a) (h2 : 0 < b) (e : v = x / y) : v.toInt = a / b := by
  subst hx; subst hy
  obtain ⟨j, hj, rfl⟩ := nI_of (x := x) (by rw [Int32.lt_iff_toInt_lt]; show ¬ x.toInt < 0; omega)
  obtain ⟨i, hi, rfl⟩ := nI_of (x := y) (by rw [Int32.lt_iff_toInt_lt]; show ¬ y.toInt < 0; omega)
  rw [nI_toInt hi] at h2
  have hm := Nat.div_le_self j i
  rw [e, pk_div hj (by omega) hi, nI_toInt (by omega), nI_toInt hj, nI_toInt hi]; omega
theorem ti_clamp {x : Int32} {k : Nat} (h : x.toInt = k) : x.toNatClampNeg = k := by
  show x.toInt.toNat = k; omega
theorem ti_byte {x : Int32} (h1 : -128 ≤ x.toInt) (h2 : x.toInt < 128) : x.toInt8.toInt32 = x := by
  apply Int32.toInt_inj.1
  rw [Int8.toInt_toInt32, Int32.toInt_toInt8, Int.bmod_eq_of_le (by omega) (by omega)]
theorem ti_char {x : Int32} (h1 : 0 ≤ x.toInt) (h2 : x.toInt < 128) : (x.toUInt32 % 65536).toInt32 = x := by
  obtain ⟨j, hj, rfl⟩ := nI_of (x := x) (by rw [Int32.lt_iff_toInt_lt]; show ¬ x.toInt < 0; omega)
  rw [nI_toInt hj] at h2
  rw [pk_char, pk_tn (by omega), Nat.mod_eq_of_lt (by omega)]
theorem ti_half {x v : Int32} (h : 0 ≤ x.toInt) (e : v = x / 2) : v.toInt = x.toInt / 2 := by
  obtain ⟨j, hj, rfl⟩ := nI_of (x := x) (by rw [Int32.lt_iff_toInt_lt]; show ¬ x.toInt < 0; omega)
  rw [e, show (2 : Int32) = nI 2 from rfl, pk_div hj (by decide) (by decide), nI_toInt (by omega), nI_toInt hj]; omega
theorem ti_ltk {x y : Int32} {a b : Int} (hx : x.toInt = a) (hy : y.toInt = b) (h : x < y) : a < b := by rw [← hx, ← hy]; exact ti_lt h
theorem ti_nltk {x y : Int32} {a b : Int} (hx : x.toInt = a) (hy : y.toInt = b) (h : ¬ x < y) : b ≤ a := by rw [← hx, ← hy]; exact ti_nlt h
theorem ti_lek {x y : Int32} {a b : Int} (hx : x.toInt = a) (hy : y.toInt = b) (h : x ≤ y) : a ≤ b := by rw [← hx, ← hy]; exact ti_le h
theorem ti_nlek {x y : Int32} {a b : Int} (hx : x.toInt = a) (hy : y.toInt = b) (h : ¬ x ≤ y) : b < a := by rw [← hx, ← hy]; exact ti_nle h
theorem ti_eqk {x y : Int32} {a b : Int} (hx : x.toInt = a) (hy : y.toInt = b) (h : x = y) : a = b := by rw [← hx, ← hy]; exact ti_eq h
theorem ti_nek {x y : Int32} {a b : Int} (hx : x.toInt = a) (hy : y.toInt = b) (h : ¬ x = y) : ¬ a = b := by rw [← hx, ← hy]; exact ti_ne h
theorem ti_addk {x y v : Int32} {a b : Int} (hx : x.toInt = a) (hy : y.toInt = b) (h1 : -2147483648 ≤ a + b) (h2 : a + b ≤ 2147483647) (e : v = x + y) : v.toInt = a + b := by subst hx; subst hy; rw [e]; exact ti_add h1 h2
theorem ti_subk {x y v : Int32} {a b : Int} (hx : x.toInt = a) (hy : y.toInt = b) (h1 : -2147483648 ≤ a - b) (h2 : a - b ≤ 2147483647) (e : v = x - y) : v.toInt = a - b := by subst hx; subst hy; rw [e]; exact ti_sub h1 h2
theorem ti_mulk {x y v : Int32} {a b : Int} (hx : x.toInt = a) (hy : y.toInt = b) (h1 : -2147483648 ≤ a * b) (h2 : a * b ≤ 2147483647) (e : v = x * y) : v.toInt = a * b := by subst hx; subst hy; rw [e]; exact ti_mul h1 h2
theorem tk_m104 : ((-104) : Int32).toInt = (-104) := by decide +kernel
theorem tk_m103 : ((-103) : Int32).toInt = (-103) := by decide +kernel
theorem tk_m102 : ((-102) : Int32).toInt = (-102) := by decide +kernel
theorem tk_m101 : ((-101) : Int32).toInt = (-101) := by decide +kernel
theorem tk_m1 : ((-1) : Int32).toInt = (-1) := by decide +kernel
theorem tk_0 : (0 : Int32).toInt = 0 := by decide +kernel
theorem tk_1 : (1 : Int32).toInt = 1 := by decide +kernel
theorem tk_2 : (2 : Int32).toInt = 2 := by decide +kernel
theorem tk_3 : (3 : Int32).toInt = 3 := by decide +kernel
theorem tk_4 : (4 : Int32).toInt = 4 := by decide +kernel
theorem tk_5 : (5 : Int32).toInt = 5 := by decide +kernel
theorem tk_6 : (6 : Int32).toInt = 6 := by decide +kernel
theorem tk_7 : (7 : Int32).toInt = 7 := by decide +kernel
theorem tk_8 : (8 : Int32).toInt = 8 := by decide +kernel
theorem tk_9 : (9 : Int32).toInt = 9 := by decide +kernel
theorem tk_10 : (10 : Int32).toInt = 10 := by decide +kernel
theorem tk_11 : (11 : Int32).toInt = 11 := by decide +kernel
theorem tk_12 : (12 : Int32).toInt = 12 := by decide +kernel
theorem tk_19 : (19 : Int32).toInt = 19 := by decide +kernel
theorem tk_30 : (30 : Int32).toInt = 30 := by decide +kernel
theorem tk_32 : (32 : Int32).toInt = 32 := by decide +kernel
theorem tk_40 : (40 : Int32).toInt = 40 := by decide +kernel
theorem tk_43 : (43 : Int32).toInt = 43 := by decide +kernel
theorem tk_44 : (44 : Int32).toInt = 44 := by decide +kernel
theorem tk_45 : (45 : Int32).toInt = 45 := by decide +kernel
theorem tk_47 : (47 : Int32).toInt = 47 := by decide +kernel
theorem tk_48 : (48 : Int32).toInt = 48 := by decide +kernel
theorem tk_50 : (50 : Int32).toInt = 50 := by decide +kernel
theorem tk_57 : (57 : Int32).toInt = 57 := by decide +kernel
theorem tk_63 : (63 : Int32).toInt = 63 := by decide +kernel
theorem tk_64 : (64 : Int32).toInt = 64 := by decide +kernel
theorem tk_70 : (70 : Int32).toInt = 70 := by decide +kernel
theorem tk_98 : (98 : Int32).toInt = 98 := by decide +kernel
theorem tk_99 : (99 : Int32).toInt = 99 := by decide +kernel
theorem tk_100 : (100 : Int32).toInt = 100 := by decide +kernel
theorem tk_102 : (102 : Int32).toInt = 102 := by decide +kernel
theorem tk_111 : (111 : Int32).toInt = 111 := by decide +kernel
theorem tk_115 : (115 : Int32).toInt = 115 := by decide +kernel
theorem tk_116 : (116 : Int32).toInt = 116 := by decide +kernel
theorem tk_126 : (126 : Int32).toInt = 126 := by decide +kernel
theorem tk_127 : (127 : Int32).toInt = 127 := by decide +kernel
theorem tk_128 : (128 : Int32).toInt = 128 := by decide +kernel
theorem tk_199 : (199 : Int32).toInt = 199 := by decide +kernel
theorem tk_255 : (255 : Int32).toInt = 255 := by decide +kernel
theorem tk_2100 : (2100 : Int32).toInt = 2100 := by decide +kernel
theorem tk_12345 : (12345 : Int32).toInt = 12345 := by decide +kernel
theorem tk_65536 : (65536 : Int32).toInt = 65536 := by decide +kernel
theorem tk_268435456 : (268435456 : Int32).toInt = 268435456 := by decide +kernel
theorem tk_1103515245 : (1103515245 : Int32).toInt = 1103515245 := by decide +kernel
theorem tk_2147483647 : (2147483647 : Int32).toInt = 2147483647 := by decide +kernel
end
section
/-! the reference's world: cell 0 is the object, its field k holds g (30 + k) 0; cells 1 to 19 are its arrays -/
abbrev YT : Type := va_G × (Nat → ClassId) × (Nat → Nat) × (Nat → Prop)
def yD (Z : YT) : va_G := Z.1
def yc (Z : YT) : Nat → ClassId := Z.2.1
def ya (Z : YT) : Nat → Nat := Z.2.2.1
def yA (Z : YT) : Nat → Prop := Z.2.2.2
abbrev yty (Z : YT) : List (ClassId × FieldType) := [(yc Z 0, .byte), (yc Z 1, .int), (yc Z 2, .long), (yc Z 3, .object RX3)]
def mw (Z : YT) (g : Nat → Nat → Int32) (gl : Nat → Nat → Int64) : va_W := [(ya Z 0, .inr (7, [.int (g 30 0), .int (g 31 0), .ref (ya Z 1), .ref (ya Z 2), .ref (ya Z 3), .ref (ya Z 4), .ref (ya Z 5), .ref (ya Z 6), .int (g 38 0), .ref (ya Z 7), .ref (ya Z 8), .ref (ya Z 9), .int (g 42 0), .ref (ya Z 10), .int (g 44 0), .int (g 45 0), .ref (ya Z 11), .long (gl 47 0), .int (g 48 0), .int (g 49 0), .int (g 50 0), .int (g 51 0), .ref (ya Z 12), .ref (ya Z 13), .ref (ya Z 14), .ref (ya Z 15), .ref (ya Z 16), .ref (ya Z 17), .ref (ya Z 18), .ref (ya Z 19), .long (gl 60 0)])), (ya Z 1, .inl (yc Z 1, 70, .inl (g 1))), (ya Z 2, .inl (yc Z 1, 70, .inl (g 2))), (ya Z 3, .inl (yc Z 1, 70, .inl (g 3))), (ya Z 4, .inl (yc Z 1, 70, .inl (g 4))), (ya Z 5, .inl (yc Z 1, 70, .inl (g 5))), (ya Z 6, .inl (yc Z 1, 128, .inl (g 6))), (ya Z 7, .inl (yc Z 1, 6, .inl (g 7))), (ya Z 8, .inl (yc Z 1, 6, .inl (g 8))), (ya Z 9, .inl (yc Z 1, 6, .inl (g 9))), (ya Z 10, .inl (yc Z 0, 50, .inl (g 10))), (ya Z 11, .inl (yc Z 1, 128, .inl (g 11))), (ya Z 12, .inl (yc Z 1, 40, .inl (g 12))), (ya Z 13, .inl (yc Z 1, 40, .inl (g 13))), (ya Z 14, .inl (yc Z 1, 40, .inl (g 14))), (ya Z 15, .inl (yc Z 1, 40, .inl (g 15))), (ya Z 16, .inl (yc Z 1, 40, .inl (g 16))), (ya Z 17, .inl (yc Z 1, 6, .inl (g 17))), (ya Z 18, .inl (yc Z 1, 6, .inl (g 18))), (ya Z 19, .inl (yc Z 1, 6, .inl (g 19)))]
section MW
variable {Z : YT} {g : Nat → Nat → Int32} {gl : Nat → Nat → Int64} {H : Heap} {A : Nat → Prop}
theorem mw_0 : (mw Z g gl)[0]? = some (ya Z 0, .inr (7, [.int (g 30 0), .int (g 31 0), .ref (ya Z 1), .ref (ya Z 2), .ref (ya Z 3), .ref (ya Z 4), .ref (ya Z 5), .ref (ya Z 6), .int (g 38 0), .ref (ya Z 7), .ref (ya Z 8), .ref (ya Z 9), .int (g 42 0), .ref (ya Z 10), .int (g 44 0), .int (g 45 0), .ref (ya Z 11), .long (gl 47 0), .int (g 48 0), .int (g 49 0), .int (g 50 0), .int (g 51 0), .ref (ya Z 12), .ref (ya Z 13), .ref (ya Z 14), .ref (ya Z 15), .ref (ya Z 16), .ref (ya Z 17), .ref (ya Z 18), .ref (ya Z 19), .long (gl 60 0)])) := rfl
theorem mw_1 : (mw Z g gl)[1]? = some (ya Z 1, .inl (yc Z 1, 70, .inl (g 1))) := rfl
theorem ms_1 {r : Nat → Int32} (h : va_P (yD Z) vwCl ((mw Z g gl).set 1 (ya Z 1, .inl (yc Z 1, 70, .inl (r)))) H) : va_P (yD Z) vwCl (mw Z (upR g 1 r) gl) H := h
theorem mw_2 : (mw Z g gl)[2]? = some (ya Z 2, .inl (yc Z 1, 70, .inl (g 2))) := rfl
theorem ms_2 {r : Nat → Int32} (h : va_P (yD Z) vwCl ((mw Z g gl).set 2 (ya Z 2, .inl (yc Z 1, 70, .inl (r)))) H) : va_P (yD Z) vwCl (mw Z (upR g 2 r) gl) H := h
theorem mw_3 : (mw Z g gl)[3]? = some (ya Z 3, .inl (yc Z 1, 70, .inl (g 3))) := rfl
theorem ms_3 {r : Nat → Int32} (h : va_P (yD Z) vwCl ((mw Z g gl).set 3 (ya Z 3, .inl (yc Z 1, 70, .inl (r)))) H) : va_P (yD Z) vwCl (mw Z (upR g 3 r) gl) H := h
theorem mw_4 : (mw Z g gl)[4]? = some (ya Z 4, .inl (yc Z 1, 70, .inl (g 4))) := rfl
theorem ms_4 {r : Nat → Int32} (h : va_P (yD Z) vwCl ((mw Z g gl).set 4 (ya Z 4, .inl (yc Z 1, 70, .inl (r)))) H) : va_P (yD Z) vwCl (mw Z (upR g 4 r) gl) H := h
theorem mw_5 : (mw Z g gl)[5]? = some (ya Z 5, .inl (yc Z 1, 70, .inl (g 5))) := rfl
theorem ms_5 {r : Nat → Int32} (h : va_P (yD Z) vwCl ((mw Z g gl).set 5 (ya Z 5, .inl (yc Z 1, 70, .inl (r)))) H) : va_P (yD Z) vwCl (mw Z (upR g 5 r) gl) H := h
theorem mw_6 : (mw Z g gl)[6]? = some (ya Z 6, .inl (yc Z 1, 128, .inl (g 6))) := rfl
theorem ms_6 {r : Nat → Int32} (h : va_P (yD Z) vwCl ((mw Z g gl).set 6 (ya Z 6, .inl (yc Z 1, 128, .inl (r)))) H) : va_P (yD Z) vwCl (mw Z (upR g 6 r) gl) H := h
theorem mw_7 : (mw Z g gl)[7]? = some (ya Z 7, .inl (yc Z 1, 6, .inl (g 7))) := rfl
theorem ms_7 {r : Nat → Int32} (h : va_P (yD Z) vwCl ((mw Z g gl).set 7 (ya Z 7, .inl (yc Z 1, 6, .inl (r)))) H) : va_P (yD Z) vwCl (mw Z (upR g 7 r) gl) H := h
theorem mw_8 : (mw Z g gl)[8]? = some (ya Z 8, .inl (yc Z 1, 6, .inl (g 8))) := rfl
theorem ms_8 {r : Nat → Int32} (h : va_P (yD Z) vwCl ((mw Z g gl).set 8 (ya Z 8, .inl (yc Z 1, 6, .inl (r)))) H) : va_P (yD Z) vwCl (mw Z (upR g 8 r) gl) H := h
theorem mw_9 : (mw Z g gl)[9]? = some (ya Z 9, .inl (yc Z 1, 6, .inl (g 9))) := rfl
theorem ms_9 {r : Nat → Int32} (h : va_P (yD Z) vwCl ((mw Z g gl).set 9 (ya Z 9, .inl (yc Z 1, 6, .inl (r)))) H) : va_P (yD Z) vwCl (mw Z (upR g 9 r) gl) H := h
theorem mw_10 : (mw Z g gl)[10]? = some (ya Z 10, .inl (yc Z 0, 50, .inl (g 10))) := rfl
theorem ms_10 {r : Nat → Int32} (h : va_P (yD Z) vwCl ((mw Z g gl).set 10 (ya Z 10, .inl (yc Z 0, 50, .inl (r)))) H) : va_P (yD Z) vwCl (mw Z (upR g 10 r) gl) H := h
theorem mw_11 : (mw Z g gl)[11]? = some (ya Z 11, .inl (yc Z 1, 128, .inl (g 11))) := rfl
theorem ms_11 {r : Nat → Int32} (h : va_P (yD Z) vwCl ((mw Z g gl).set 11 (ya Z 11, .inl (yc Z 1, 128, .inl (r)))) H) : va_P (yD Z) vwCl (mw Z (upR g 11 r) gl) H := h
theorem mw_12 : (mw Z g gl)[12]? = some (ya Z 12, .inl (yc Z 1, 40, .inl (g 12))) := rfl
theorem ms_12 {r : Nat → Int32} (h : va_P (yD Z) vwCl ((mw Z g gl).set 12 (ya Z 12, .inl (yc Z 1, 40, .inl (r)))) H) : va_P (yD Z) vwCl (mw Z (upR g 12 r) gl) H := h
theorem mw_13 : (mw Z g gl)[13]? = some (ya Z 13, .inl (yc Z 1, 40, .inl (g 13))) := rfl
theorem ms_13 {r : Nat → Int32} (h : va_P (yD Z) vwCl ((mw Z g gl).set 13 (ya Z 13, .inl (yc Z 1, 40, .inl (r)))) H) : va_P (yD Z) vwCl (mw Z (upR g 13 r) gl) H := h
theorem mw_14 : (mw Z g gl)[14]? = some (ya Z 14, .inl (yc Z 1, 40, .inl (g 14))) := rfl
theorem ms_14 {r : Nat → Int32} (h : va_P (yD Z) vwCl ((mw Z g gl).set 14 (ya Z 14, .inl (yc Z 1, 40, .inl (r)))) H) : va_P (yD Z) vwCl (mw Z (upR g 14 r) gl) H := h
theorem mw_15 : (mw Z g gl)[15]? = some (ya Z 15, .inl (yc Z 1, 40, .inl (g 15))) := rfl
theorem ms_15 {r : Nat → Int32} (h : va_P (yD Z) vwCl ((mw Z g gl).set 15 (ya Z 15, .inl (yc Z 1, 40, .inl (r)))) H) : va_P (yD Z) vwCl (mw Z (upR g 15 r) gl) H := h
theorem mw_16 : (mw Z g gl)[16]? = some (ya Z 16, .inl (yc Z 1, 40, .inl (g 16))) := rfl
theorem ms_16 {r : Nat → Int32} (h : va_P (yD Z) vwCl ((mw Z g gl).set 16 (ya Z 16, .inl (yc Z 1, 40, .inl (r)))) H) : va_P (yD Z) vwCl (mw Z (upR g 16 r) gl) H := h
theorem mw_17 : (mw Z g gl)[17]? = some (ya Z 17, .inl (yc Z 1, 6, .inl (g 17))) := rfl
theorem ms_17 {r : Nat → Int32} (h : va_P (yD Z) vwCl ((mw Z g gl).set 17 (ya Z 17, .inl (yc Z 1, 6, .inl (r)))) H) : va_P (yD Z) vwCl (mw Z (upR g 17 r) gl) H := h
theorem mw_18 : (mw Z g gl)[18]? = some (ya Z 18, .inl (yc Z 1, 6, .inl (g 18))) := rfl
theorem ms_18 {r : Nat → Int32} (h : va_P (yD Z) vwCl ((mw Z g gl).set 18 (ya Z 18, .inl (yc Z 1, 6, .inl (r)))) H) : va_P (yD Z) vwCl (mw Z (upR g 18 r) gl) H := h
theorem mw_19 : (mw Z g gl)[19]? = some (ya Z 19, .inl (yc Z 1, 6, .inl (g 19))) := rfl
theorem ms_19 {r : Nat → Int32} (h : va_P (yD Z) vwCl ((mw Z g gl).set 19 (ya Z 19, .inl (yc Z 1, 6, .inl (r)))) H) : va_P (yD Z) vwCl (mw Z (upR g 19 r) gl) H := h
theorem mf_0 {v : Int32} (h : va_P (yD Z) vwCl ((mw Z g gl).set 0 (ya Z 0, .inr (7, ([.int (g 30 0), .int (g 31 0), .ref (ya Z 1), .ref (ya Z 2), .ref (ya Z 3), .ref (ya Z 4), .ref (ya Z 5), .ref (ya Z 6), .int (g 38 0), .ref (ya Z 7), .ref (ya Z 8), .ref (ya Z 9), .int (g 42 0), .ref (ya Z 10), .int (g 44 0), .int (g 45 0), .ref (ya Z 11), .long (gl 47 0), .int (g 48 0), .int (g 49 0), .int (g 50 0), .int (g 51 0), .ref (ya Z 12), .ref (ya Z 13), .ref (ya Z 14), .ref (ya Z 15), .ref (ya Z 16), .ref (ya Z 17), .ref (ya Z 18), .ref (ya Z 19), .long (gl 60 0)] : List Value).set 0 (.int v)))) H) : va_P (yD Z) vwCl (mw Z (up2 g 30 0 v) gl) H := h
theorem mf_1 {v : Int32} (h : va_P (yD Z) vwCl ((mw Z g gl).set 0 (ya Z 0, .inr (7, ([.int (g 30 0), .int (g 31 0), .ref (ya Z 1), .ref (ya Z 2), .ref (ya Z 3), .ref (ya Z 4), .ref (ya Z 5), .ref (ya Z 6), .int (g 38 0), .ref (ya Z 7), .ref (ya Z 8), .ref (ya Z 9), .int (g 42 0), .ref (ya Z 10), .int (g 44 0), .int (g 45 0), .ref (ya Z 11), .long (gl 47 0), .int (g 48 0), .int (g 49 0), .int (g 50 0), .int (g 51 0), .ref (ya Z 12), .ref (ya Z 13), .ref (ya Z 14), .ref (ya Z 15), .ref (ya Z 16), .ref (ya Z 17), .ref (ya Z 18), .ref (ya Z 19), .long (gl 60 0)] : List Value).set 1 (.int v)))) H) : va_P (yD Z) vwCl (mw Z (up2 g 31 0 v) gl) H := h
theorem mf_8 {v : Int32} (h : va_P (yD Z) vwCl ((mw Z g gl).set 0 (ya Z 0, .inr (7, ([.int (g 30 0), .int (g 31 0), .ref (ya Z 1), .ref (ya Z 2), .ref (ya Z 3), .ref (ya Z 4), .ref (ya Z 5), .ref (ya Z 6), .int (g 38 0), .ref (ya Z 7), .ref (ya Z 8), .ref (ya Z 9), .int (g 42 0), .ref (ya Z 10), .int (g 44 0), .int (g 45 0), .ref (ya Z 11), .long (gl 47 0), .int (g 48 0), .int (g 49 0), .int (g 50 0), .int (g 51 0), .ref (ya Z 12), .ref (ya Z 13), .ref (ya Z 14), .ref (ya Z 15), .ref (ya Z 16), .ref (ya Z 17), .ref (ya Z 18), .ref (ya Z 19), .long (gl 60 0)] : List Value).set 8 (.int v)))) H) : va_P (yD Z) vwCl (mw Z (up2 g 38 0 v) gl) H := h
theorem mf_12 {v : Int32} (h : va_P (yD Z) vwCl ((mw Z g gl).set 0 (ya Z 0, .inr (7, ([.int (g 30 0), .int (g 31 0), .ref (ya Z 1), .ref (ya Z 2), .ref (ya Z 3), .ref (ya Z 4), .ref (ya Z 5), .ref (ya Z 6), .int (g 38 0), .ref (ya Z 7), .ref (ya Z 8), .ref (ya Z 9), .int (g 42 0), .ref (ya Z 10), .int (g 44 0), .int (g 45 0), .ref (ya Z 11), .long (gl 47 0), .int (g 48 0), .int (g 49 0), .int (g 50 0), .int (g 51 0), .ref (ya Z 12), .ref (ya Z 13), .ref (ya Z 14), .ref (ya Z 15), .ref (ya Z 16), .ref (ya Z 17), .ref (ya Z 18), .ref (ya Z 19), .long (gl 60 0)] : List Value).set 12 (.int v)))) H) : va_P (yD Z) vwCl (mw Z (up2 g 42 0 v) gl) H := h
theorem mf_14 {v : Int32} (h : va_P (yD Z) vwCl ((mw Z g gl).set 0 (ya Z 0, .inr (7, ([.int (g 30 0), .int (g 31 0), .ref (ya Z 1), .ref (ya Z 2), .ref (ya Z 3), .ref (ya Z 4), .ref (ya Z 5), .ref (ya Z 6), .int (g 38 0), .ref (ya Z 7), .ref (ya Z 8), .ref (ya Z 9), .int (g 42 0), .ref (ya Z 10), .int (g 44 0), .int (g 45 0), .ref (ya Z 11), .long (gl 47 0), .int (g 48 0), .int (g 49 0), .int (g 50 0), .int (g 51 0), .ref (ya Z 12), .ref (ya Z 13), .ref (ya Z 14), .ref (ya Z 15), .ref (ya Z 16), .ref (ya Z 17), .ref (ya Z 18), .ref (ya Z 19), .long (gl 60 0)] : List Value).set 14 (.int v)))) H) : va_P (yD Z) vwCl (mw Z (up2 g 44 0 v) gl) H := h
theorem mf_15 {v : Int32} (h : va_P (yD Z) vwCl ((mw Z g gl).set 0 (ya Z 0, .inr (7, ([.int (g 30 0), .int (g 31 0), .ref (ya Z 1), .ref (ya Z 2), .ref (ya Z 3), .ref (ya Z 4), .ref (ya Z 5), .ref (ya Z 6), .int (g 38 0), .ref (ya Z 7), .ref (ya Z 8), .ref (ya Z 9), .int (g 42 0), .ref (ya Z 10), .int (g 44 0), .int (g 45 0), .ref (ya Z 11), .long (gl 47 0), .int (g 48 0), .int (g 49 0), .int (g 50 0), .int (g 51 0), .ref (ya Z 12), .ref (ya Z 13), .ref (ya Z 14), .ref (ya Z 15), .ref (ya Z 16), .ref (ya Z 17), .ref (ya Z 18), .ref (ya Z 19), .long (gl 60 0)] : List Value).set 15 (.int v)))) H) : va_P (yD Z) vwCl (mw Z (up2 g 45 0 v) gl) H := h
theorem mf_17 {v : Int64} (h : va_P (yD Z) vwCl ((mw Z g gl).set 0 (ya Z 0, .inr (7, ([.int (g 30 0), .int (g 31 0), .ref (ya Z 1), .ref (ya Z 2), .ref (ya Z 3), .ref (ya Z 4), .ref (ya Z 5), .ref (ya Z 6), .int (g 38 0), .ref (ya Z 7), .ref (ya Z 8), .ref (ya Z 9), .int (g 42 0), .ref (ya Z 10), .int (g 44 0), .int (g 45 0), .ref (ya Z 11), .long (gl 47 0), .int (g 48 0), .int (g 49 0), .int (g 50 0), .int (g 51 0), .ref (ya Z 12), .ref (ya Z 13), .ref (ya Z 14), .ref (ya Z 15), .ref (ya Z 16), .ref (ya Z 17), .ref (ya Z 18), .ref (ya Z 19), .long (gl 60 0)] : List Value).set 17 (.long v)))) H) : va_P (yD Z) vwCl (mw Z g (upL gl 47 (fun _ => v))) H := h
theorem mf_18 {v : Int32} (h : va_P (yD Z) vwCl ((mw Z g gl).set 0 (ya Z 0, .inr (7, ([.int (g 30 0), .int (g 31 0), .ref (ya Z 1), .ref (ya Z 2), .ref (ya Z 3), .ref (ya Z 4), .ref (ya Z 5), .ref (ya Z 6), .int (g 38 0), .ref (ya Z 7), .ref (ya Z 8), .ref (ya Z 9), .int (g 42 0), .ref (ya Z 10), .int (g 44 0), .int (g 45 0), .ref (ya Z 11), .long (gl 47 0), .int (g 48 0), .int (g 49 0), .int (g 50 0), .int (g 51 0), .ref (ya Z 12), .ref (ya Z 13), .ref (ya Z 14), .ref (ya Z 15), .ref (ya Z 16), .ref (ya Z 17), .ref (ya Z 18), .ref (ya Z 19), .long (gl 60 0)] : List Value).set 18 (.int v)))) H) : va_P (yD Z) vwCl (mw Z (up2 g 48 0 v) gl) H := h
theorem mf_19 {v : Int32} (h : va_P (yD Z) vwCl ((mw Z g gl).set 0 (ya Z 0, .inr (7, ([.int (g 30 0), .int (g 31 0), .ref (ya Z 1), .ref (ya Z 2), .ref (ya Z 3), .ref (ya Z 4), .ref (ya Z 5), .ref (ya Z 6), .int (g 38 0), .ref (ya Z 7), .ref (ya Z 8), .ref (ya Z 9), .int (g 42 0), .ref (ya Z 10), .int (g 44 0), .int (g 45 0), .ref (ya Z 11), .long (gl 47 0), .int (g 48 0), .int (g 49 0), .int (g 50 0), .int (g 51 0), .ref (ya Z 12), .ref (ya Z 13), .ref (ya Z 14), .ref (ya Z 15), .ref (ya Z 16), .ref (ya Z 17), .ref (ya Z 18), .ref (ya Z 19), .long (gl 60 0)] : List Value).set 19 (.int v)))) H) : va_P (yD Z) vwCl (mw Z (up2 g 49 0 v) gl) H := h
theorem mf_20 {v : Int32} (h : va_P (yD Z) vwCl ((mw Z g gl).set 0 (ya Z 0, .inr (7, ([.int (g 30 0), .int (g 31 0), .ref (ya Z 1), .ref (ya Z 2), .ref (ya Z 3), .ref (ya Z 4), .ref (ya Z 5), .ref (ya Z 6), .int (g 38 0), .ref (ya Z 7), .ref (ya Z 8), .ref (ya Z 9), .int (g 42 0), .ref (ya Z 10), .int (g 44 0), .int (g 45 0), .ref (ya Z 11), .long (gl 47 0), .int (g 48 0), .int (g 49 0), .int (g 50 0), .int (g 51 0), .ref (ya Z 12), .ref (ya Z 13), .ref (ya Z 14), .ref (ya Z 15), .ref (ya Z 16), .ref (ya Z 17), .ref (ya Z 18), .ref (ya Z 19), .long (gl 60 0)] : List Value).set 20 (.int v)))) H) : va_P (yD Z) vwCl (mw Z (up2 g 50 0 v) gl) H := h
theorem mf_21 {v : Int32} (h : va_P (yD Z) vwCl ((mw Z g gl).set 0 (ya Z 0, .inr (7, ([.int (g 30 0), .int (g 31 0), .ref (ya Z 1), .ref (ya Z 2), .ref (ya Z 3), .ref (ya Z 4), .ref (ya Z 5), .ref (ya Z 6), .int (g 38 0), .ref (ya Z 7), .ref (ya Z 8), .ref (ya Z 9), .int (g 42 0), .ref (ya Z 10), .int (g 44 0), .int (g 45 0), .ref (ya Z 11), .long (gl 47 0), .int (g 48 0), .int (g 49 0), .int (g 50 0), .int (g 51 0), .ref (ya Z 12), .ref (ya Z 13), .ref (ya Z 14), .ref (ya Z 15), .ref (ya Z 16), .ref (ya Z 17), .ref (ya Z 18), .ref (ya Z 19), .long (gl 60 0)] : List Value).set 21 (.int v)))) H) : va_P (yD Z) vwCl (mw Z (up2 g 51 0 v) gl) H := h
theorem mf_30 {v : Int64} (h : va_P (yD Z) vwCl ((mw Z g gl).set 0 (ya Z 0, .inr (7, ([.int (g 30 0), .int (g 31 0), .ref (ya Z 1), .ref (ya Z 2), .ref (ya Z 3), .ref (ya Z 4), .ref (ya Z 5), .ref (ya Z 6), .int (g 38 0), .ref (ya Z 7), .ref (ya Z 8), .ref (ya Z 9), .int (g 42 0), .ref (ya Z 10), .int (g 44 0), .int (g 45 0), .ref (ya Z 11), .long (gl 47 0), .int (g 48 0), .int (g 49 0), .int (g 50 0), .int (g 51 0), .ref (ya Z 12), .ref (ya Z 13), .ref (ya Z 14), .ref (ya Z 15), .ref (ya Z 16), .ref (ya Z 17), .ref (ya Z 18), .ref (ya Z 19), .long (gl 60 0)] : List Value).set 30 (.long v)))) H) : va_P (yD Z) vwCl (mw Z g (upL gl 60 (fun _ => v))) H := h
end MW
theorem mw_fst {Z : YT} {g g' : Nat → Nat → Int32} {gl gl' : Nat → Nat → Int64} : (mw Z g gl).map Prod.fst = (mw Z g' gl').map Prod.fst := by simp [mw]
def MG (Z : YT) : Prop := va_D (yA Z) (mw Z (fun _ _ => 0) (fun _ _ => 0))
theorem MG.D {Z : YT} (h : MG Z) {g : Nat → Nat → Int32} {gl : Nat → Nat → Int64} : va_D (yA Z) (mw Z g gl) := xD_map mw_fst h
def MI (Z : YT) (g : Nat → Nat → Int32) (gl : Nat → Nat → Int64) (U : State) : Prop := va_P (yD Z) vwCl (mw Z g gl) U.heap ∧ va_K (yD Z) vwCl (yty Z) U
theorem MI.at {Z : YT} {g0 g : Nat → Nat → Int32} {gl0 gl : Nat → Nat → Int64} {s U : State} {H : Heap} {locs : List Loc} (h : MI Z g0 gl0 s) (_hS : va_S (yA Z) s.heap H locs) (hP : va_P (yD Z) vwCl (mw Z g gl) H) (hU : U.heap = H) (hW : s.WarmedH U.vm) : MI Z g gl U := ⟨by rw [hU]; exact hP, va_K.moved hW.alike h.2⟩
theorem MI.blind {Z : YT} {g : Nat → Nat → Int32} {gl : Nat → Nat → Int64} {U : State} (f : JFrame) (mk : MethodId) (a : Array Value) (h : MI Z g gl U) : MI Z g gl (U.calling f mk a) := ⟨h.1, va_K.moved (u := U) (U := U.calling f mk a) (Vm.Alike.refl U.vm) h.2⟩
theorem upd_all {P : Int32 → Prop} {f : Nat → Int32} {k : Nat} {v : Int32} (h : ∀ n, P (f n)) (hv : P v) : ∀ n, P (upd f k v n) := fun n => by
  by_cases e : n = k
  · subst e; rw [pk_us]; exact hv
  · rw [pk_un e]; exact h n
/-- what holds of the reference's state between calls -/
def MJ (g : Nat → Nat → Int32) : Prop := (∀ n : Nat, -1 ≤ (g 6 n).toInt ∧ (g 6 n).toInt < 70) ∧ (∀ n : Nat, 0 ≤ (g 4 n).toInt ∧ (g 4 n).toInt ≤ 63) ∧ (∀ n : Nat, (g 5 n).toInt ≤ 63) ∧ (∀ n : Nat, 0 ≤ (g 15 n).toInt ∧ (g 15 n).toInt ≤ 63) ∧ (∀ n : Nat, (g 16 n).toInt ≤ 63) ∧ (∀ n : Nat, 0 ≤ (g 10 n).toInt ∧ (g 10 n).toInt ≤ 126) ∧ (0 ≤ (g 31 0).toInt ∧ (g 31 0).toInt ≤ 70) ∧ (0 ≤ (g 38 0).toInt ∧ (g 38 0).toInt ≤ 6) ∧ (0 ≤ (g 42 0).toInt ∧ (g 42 0).toInt ≤ 50) ∧ (0 ≤ (g 50 0).toInt ∧ (g 50 0).toInt ≤ 40) ∧ (0 ≤ (g 51 0).toInt ∧ (g 51 0).toInt ≤ 6)
theorem MJ.j6 {g : Nat → Nat → Int32} (h : MJ g) : ∀ n : Nat, -1 ≤ (g 6 n).toInt ∧ (g 6 n).toInt < 70 := h.1
theorem MJ.j4 {g : Nat → Nat → Int32} (h : MJ g) : ∀ n : Nat, 0 ≤ (g 4 n).toInt ∧ (g 4 n).toInt ≤ 63 := h.2.1
theorem MJ.j5 {g : Nat → Nat → Int32} (h : MJ g) : ∀ n : Nat, (g 5 n).toInt ≤ 63 := h.2.2.1
theorem MJ.j15 {g : Nat → Nat → Int32} (h : MJ g) : ∀ n : Nat, 0 ≤ (g 15 n).toInt ∧ (g 15 n).toInt ≤ 63 := h.2.2.2.1
theorem MJ.j16 {g : Nat → Nat → Int32} (h : MJ g) : ∀ n : Nat, (g 16 n).toInt ≤ 63 := h.2.2.2.2.1
theorem MJ.j10 {g : Nat → Nat → Int32} (h : MJ g) : ∀ n : Nat, 0 ≤ (g 10 n).toInt ∧ (g 10 n).toInt ≤ 126 := h.2.2.2.2.2.1
theorem MJ.j31 {g : Nat → Nat → Int32} (h : MJ g) : 0 ≤ (g 31 0).toInt ∧ (g 31 0).toInt ≤ 70 := h.2.2.2.2.2.2.1
theorem MJ.j38 {g : Nat → Nat → Int32} (h : MJ g) : 0 ≤ (g 38 0).toInt ∧ (g 38 0).toInt ≤ 6 := h.2.2.2.2.2.2.2.1
theorem MJ.j42 {g : Nat → Nat → Int32} (h : MJ g) : 0 ≤ (g 42 0).toInt ∧ (g 42 0).toInt ≤ 50 := h.2.2.2.2.2.2.2.2.1
theorem MJ.j50 {g : Nat → Nat → Int32} (h : MJ g) : 0 ≤ (g 50 0).toInt ∧ (g 50 0).toInt ≤ 40 := h.2.2.2.2.2.2.2.2.2.1
theorem MJ.j51 {g : Nat → Nat → Int32} (h : MJ g) : 0 ≤ (g 51 0).toInt ∧ (g 51 0).toInt ≤ 6 := h.2.2.2.2.2.2.2.2.2.2
theorem MJ.of {g g' : Nat → Nat → Int32} (h : MJ g) (h6 : (∀ n : Nat, -1 ≤ (g 6 n).toInt ∧ (g 6 n).toInt < 70) → (∀ n : Nat, -1 ≤ (g' 6 n).toInt ∧ (g' 6 n).toInt < 70)) (h4 : (∀ n : Nat, 0 ≤ (g 4 n).toInt ∧ (g 4 n).toInt ≤ 63) → (∀ n : Nat, 0 ≤ (g' 4 n).toInt ∧ (g' 4 n).toInt ≤ 63)) (h5 : (∀ n : Nat, (g 5 n).toInt ≤ 63) → (∀ n : Nat, (g' 5 n).toInt ≤ 63)) (h15 : (∀ n : Nat, 0 ≤ (g 15 n).toInt ∧ (g 15 n).toInt ≤ 63) → (∀ n : Nat, 0 ≤ (g' 15 n).toInt ∧ (g' 15 n).toInt ≤ 63)) (h16 : (∀ n : Nat, (g 16 n).toInt ≤ 63) → (∀ n : Nat, (g' 16 n).toInt ≤ 63)) (h10 : (∀ n : Nat, 0 ≤ (g 10 n).toInt ∧ (g 10 n).toInt ≤ 126) → (∀ n : Nat, 0 ≤ (g' 10 n).toInt ∧ (g' 10 n).toInt ≤ 126)) (h31 : (0 ≤ (g 31 0).toInt ∧ (g 31 0).toInt ≤ 70) → (0 ≤ (g' 31 0).toInt ∧ (g' 31 0).toInt ≤ 70)) (h38 : (0 ≤ (g 38 0).toInt ∧ (g 38 0).toInt ≤ 6) → (0 ≤ (g' 38 0).toInt ∧ (g' 38 0).toInt ≤ 6)) (h42 : (0 ≤ (g 42 0).toInt ∧ (g 42 0).toInt ≤ 50) → (0 ≤ (g' 42 0).toInt ∧ (g' 42 0).toInt ≤ 50)) (h50 : (0 ≤ (g 50 0).toInt ∧ (g 50 0).toInt ≤ 40) → (0 ≤ (g' 50 0).toInt ∧ (g' 50 0).toInt ≤ 40)) (h51 : (0 ≤ (g 51 0).toInt ∧ (g 51 0).toInt ≤ 6) → (0 ≤ (g' 51 0).toInt ∧ (g' 51 0).toInt ≤ 6)) : MJ g' := ⟨h6 h.1, h4 h.2.1, h5 h.2.2.1, h15 h.2.2.2.1, h16 h.2.2.2.2.1, h10 h.2.2.2.2.2.1, h31 h.2.2.2.2.2.2.1, h38 h.2.2.2.2.2.2.2.1, h42 h.2.2.2.2.2.2.2.2.1, h50 h.2.2.2.2.2.2.2.2.2.1, h51 h.2.2.2.2.2.2.2.2.2.2⟩
theorem MJ.au {g : Nat → Nat → Int32} {i : Nat} {r : Nat → Int32} (h : MJ g) (hi : i ∉ ([6, 4, 5, 15, 16, 10, 31, 38, 42, 50, 51] : List Nat)) : MJ (upR g i r) := by
  have e : ∀ j, j ∈ ([6, 4, 5, 15, 16, 10, 31, 38, 42, 50, 51] : List Nat) → (upR g i r) j = g j := fun j hj => by have q : j ≠ i := fun e9 => hi (e9 ▸ hj); simp only [upR, if_neg q]
  refine h.of ?_ ?_ ?_ ?_ ?_ ?_ ?_ ?_ ?_ ?_ ?_
  · intro q; rw [e 6 (by decide)]; exact q
  · intro q; rw [e 4 (by decide)]; exact q
  · intro q; rw [e 5 (by decide)]; exact q
  · intro q; rw [e 15 (by decide)]; exact q
  · intro q; rw [e 16 (by decide)]; exact q
  · intro q; rw [e 10 (by decide)]; exact q
  · intro q; rw [e 31 (by decide)]; exact q
  · intro q; rw [e 38 (by decide)]; exact q
  · intro q; rw [e 42 (by decide)]; exact q
  · intro q; rw [e 50 (by decide)]; exact q
  · intro q; rw [e 51 (by decide)]; exact q
theorem MJ.pu {g : Nat → Nat → Int32} {i : Nat} {v : Int32} (h : MJ g) (hi : i ∉ ([6, 4, 5, 15, 16, 10, 31, 38, 42, 50, 51] : List Nat)) : MJ (up2 g i 0 v) := by
  have e : ∀ j, j ∈ ([6, 4, 5, 15, 16, 10, 31, 38, 42, 50, 51] : List Nat) → (up2 g i 0 v) j = g j := fun j hj => by have q : j ≠ i := fun e9 => hi (e9 ▸ hj); simp only [up2, if_neg q]
  refine h.of ?_ ?_ ?_ ?_ ?_ ?_ ?_ ?_ ?_ ?_ ?_
  · intro q; rw [e 6 (by decide)]; exact q
  · intro q; rw [e 4 (by decide)]; exact q
  · intro q; rw [e 5 (by decide)]; exact q
  · intro q; rw [e 15 (by decide)]; exact q
  · intro q; rw [e 16 (by decide)]; exact q
  · intro q; rw [e 10 (by decide)]; exact q
  · intro q; rw [e 31 (by decide)]; exact q
  · intro q; rw [e 38 (by decide)]; exact q
  · intro q; rw [e 42 (by decide)]; exact q
  · intro q; rw [e 50 (by decide)]; exact q
  · intro q; rw [e 51 (by decide)]; exact q
theorem MJ.a6 {g : Nat → Nat → Int32} {k : Nat} {v : Int32} (h : MJ g) (hv : -1 ≤ v.toInt ∧ v.toInt < 70) : MJ (upR g 6 (upd (g 6) k v)) := by
  refine h.of ?_ ?_ ?_ ?_ ?_ ?_ ?_ ?_ ?_ ?_ ?_
  · intro q; exact upd_all (P := fun x => -1 ≤ x.toInt ∧ x.toInt < 70) q hv
  · intro q; exact q
  · intro q; exact q
  · intro q; exact q
  · intro q; exact q
  · intro q; exact q
  · intro q; exact q
  · intro q; exact q
  · intro q; exact q
  · intro q; exact q
  · intro q; exact q
theorem MJ.a4 {g : Nat → Nat → Int32} {k : Nat} {v : Int32} (h : MJ g) (hv : 0 ≤ v.toInt ∧ v.toInt ≤ 63) : MJ (upR g 4 (upd (g 4) k v)) := by
  refine h.of ?_ ?_ ?_ ?_ ?_ ?_ ?_ ?_ ?_ ?_ ?_
  · intro q; exact q
  · intro q; exact upd_all (P := fun x => 0 ≤ x.toInt ∧ x.toInt ≤ 63) q hv
  · intro q; exact q
  · intro q; exact q
  · intro q; exact q
  · intro q; exact q
  · intro q; exact q
  · intro q; exact q
  · intro q; exact q
  · intro q; exact q
  · intro q; exact q
theorem MJ.a5 {g : Nat → Nat → Int32} {k : Nat} {v : Int32} (h : MJ g) (hv : v.toInt ≤ 63) : MJ (upR g 5 (upd (g 5) k v)) := by
  refine h.of ?_ ?_ ?_ ?_ ?_ ?_ ?_ ?_ ?_ ?_ ?_
  · intro q; exact q
  · intro q; exact q
  · intro q; exact upd_all (P := fun x => x.toInt ≤ 63) q hv
  · intro q; exact q
  · intro q; exact q
  · intro q; exact q
  · intro q; exact q
  · intro q; exact q
  · intro q; exact q
  · intro q; exact q
  · intro q; exact q
theorem MJ.a15 {g : Nat → Nat → Int32} {k : Nat} {v : Int32} (h : MJ g) (hv : 0 ≤ v.toInt ∧ v.toInt ≤ 63) : MJ (upR g 15 (upd (g 15) k v)) := by
  refine h.of ?_ ?_ ?_ ?_ ?_ ?_ ?_ ?_ ?_ ?_ ?_
  · intro q; exact q
  · intro q; exact q
  · intro q; exact q
  · intro q; exact upd_all (P := fun x => 0 ≤ x.toInt ∧ x.toInt ≤ 63) q hv
  · intro q; exact q
  · intro q; exact q
  · intro q; exact q
  · intro q; exact q
  · intro q; exact q
  · intro q; exact q
  · intro q; exact q
theorem MJ.a16 {g : Nat → Nat → Int32} {k : Nat} {v : Int32} (h : MJ g) (hv : v.toInt ≤ 63) : MJ (upR g 16 (upd (g 16) k v)) := by
  refine h.of ?_ ?_ ?_ ?_ ?_ ?_ ?_ ?_ ?_ ?_ ?_
  · intro q; exact q
  · intro q; exact q
  · intro q; exact q
  · intro q; exact q
  · intro q; exact upd_all (P := fun x => x.toInt ≤ 63) q hv
  · intro q; exact q
  · intro q; exact q
  · intro q; exact q
  · intro q; exact q
  · intro q; exact q
  · intro q; exact q
theorem MJ.a10 {g : Nat → Nat → Int32} {k : Nat} {v : Int32} (h : MJ g) (hv : 0 ≤ v.toInt ∧ v.toInt ≤ 126) : MJ (upR g 10 (upd (g 10) k v)) := by
  refine h.of ?_ ?_ ?_ ?_ ?_ ?_ ?_ ?_ ?_ ?_ ?_
  · intro q; exact q
  · intro q; exact q
  · intro q; exact q
  · intro q; exact q
  · intro q; exact q
  · intro q; exact upd_all (P := fun x => 0 ≤ x.toInt ∧ x.toInt ≤ 126) q hv
  · intro q; exact q
  · intro q; exact q
  · intro q; exact q
  · intro q; exact q
  · intro q; exact q
theorem MJ.p31 {g : Nat → Nat → Int32} {v : Int32} (h : MJ g) (hv : 0 ≤ v.toInt ∧ v.toInt ≤ 70) : MJ (up2 g 31 0 v) := by
  refine h.of ?_ ?_ ?_ ?_ ?_ ?_ ?_ ?_ ?_ ?_ ?_
  · intro q; exact q
  · intro q; exact q
  · intro q; exact q
  · intro q; exact q
  · intro q; exact q
  · intro q; exact q
  · intro _; exact hv
  · intro q; exact q
  · intro q; exact q
  · intro q; exact q
  · intro q; exact q
theorem MJ.p38 {g : Nat → Nat → Int32} {v : Int32} (h : MJ g) (hv : 0 ≤ v.toInt ∧ v.toInt ≤ 6) : MJ (up2 g 38 0 v) := by
  refine h.of ?_ ?_ ?_ ?_ ?_ ?_ ?_ ?_ ?_ ?_ ?_
  · intro q; exact q
  · intro q; exact q
  · intro q; exact q
  · intro q; exact q
  · intro q; exact q
  · intro q; exact q
  · intro q; exact q
  · intro _; exact hv
  · intro q; exact q
  · intro q; exact q
  · intro q; exact q
theorem MJ.p42 {g : Nat → Nat → Int32} {v : Int32} (h : MJ g) (hv : 0 ≤ v.toInt ∧ v.toInt ≤ 50) : MJ (up2 g 42 0 v) := by
  refine h.of ?_ ?_ ?_ ?_ ?_ ?_ ?_ ?_ ?_ ?_ ?_
  · intro q; exact q
  · intro q; exact q
  · intro q; exact q
  · intro q; exact q
  · intro q; exact q
  · intro q; exact q
  · intro q; exact q
  · intro q; exact q
  · intro _; exact hv
  · intro q; exact q
  · intro q; exact q
theorem MJ.p50 {g : Nat → Nat → Int32} {v : Int32} (h : MJ g) (hv : 0 ≤ v.toInt ∧ v.toInt ≤ 40) : MJ (up2 g 50 0 v) := by
  refine h.of ?_ ?_ ?_ ?_ ?_ ?_ ?_ ?_ ?_ ?_ ?_
  · intro q; exact q
  · intro q; exact q
  · intro q; exact q
  · intro q; exact q
  · intro q; exact q
  · intro q; exact q
  · intro q; exact q
  · intro q; exact q
  · intro q; exact q
  · intro _; exact hv
  · intro q; exact q
theorem MJ.p51 {g : Nat → Nat → Int32} {v : Int32} (h : MJ g) (hv : 0 ≤ v.toInt ∧ v.toInt ≤ 6) : MJ (up2 g 51 0 v) := by
  refine h.of ?_ ?_ ?_ ?_ ?_ ?_ ?_ ?_ ?_ ?_ ?_
  · intro q; exact q
  · intro q; exact q
  · intro q; exact q
  · intro q; exact q
  · intro q; exact q
  · intro q; exact q
  · intro q; exact q
  · intro q; exact q
  · intro q; exact q
  · intro q; exact q
  · intro _; exact hv
end
section
/-! the constructors: worlds that grow. cy: the classes of the arrays (byte, int, long, Tariff) -/
abbrev cty (cy : Nat → ClassId) : List (ClassId × FieldType) := [(cy 0, .byte), (cy 1, .int), (cy 2, .long), (cy 3, .object RX3)]
section NW
variable {p : Program} {l : Launch} {e : Env} {R : Room} {s : State} {m : MethodId} {args : Array Value} {below : List Frame} {meth : Method} {c : Code} {H : Heap} {locs : List Loc} {cells slots : Nat} {Q : State → Prop}
variable {cc : ByteArray} {pc : Nat} {ls : Array Slot} {rest : List Value} {D : va_G} {A : Nat → Prop} {ws : va_W} {H0 : Heap} {cy : Nat → ClassId}
theorem nw_int (hexec : p.tables.exec = Jvm.exec) (hb : c.code = cc) (harr : (Cond.arrayClass .int).before args s = true) (hK : va_K D vwCl (cty cy) s) (hP : va_P D vwCl ws H) (hD : va_D A ws) (hS : va_S A H0 H locs) (hA : ∀ q, H0.size ≤ q → A q) {n : Int32} {N' : Nat} (hn : ¬ n < 0) (hN : n.toNatClampNeg = N') (hbytes : N' * 4 ≤ 536870912) (hcells : cells + 1 ≤ R.cells) (hslots : slots + N' ≤ R.slots) (hdg : decode cc pc = .ok (.newarray .int, 2))
    (kk : ∀ (q : Nat) (H1 : Heap), va_P D vwCl (ws ++ [(q, .inl (cy 1, N', .inl (fun _ => 0)))]) H1 → va_D A (ws ++ [(q, .inl (cy 1, N', .inl (fun _ => 0)))]) → va_S A H0 H1 locs → W p l e R s m args below meth c H1 locs (cells + 1) (slots + N') Q (F0 m (pc + 2) ls (.ref q :: rest))) : W p l e R s m args below meth c H locs cells slots Q (F0 m pc ls (.int n :: rest)) := by
  refine va_newa (atype := .int) (ty := .int) (a0 := (N', .inl (fun _ => 0))) hexec hb harr rfl hK hP hD hS hA (fun cA => rfl) hn hN hbytes hcells hslots hdg (fun q cA H1 hK1 hP hD hS => ?_)
  have e1 : cA = cy 1 := Option.some.inj (((hK1.2 4 (cA, .int) rfl).2).symm.trans (hK.2 1 (cy 1, .int) rfl).2)
  subst e1
  exact kk q H1 hP hD hS
theorem nw_byte (hexec : p.tables.exec = Jvm.exec) (hb : c.code = cc) (harr : (Cond.arrayClass .byte).before args s = true) (hK : va_K D vwCl (cty cy) s) (hP : va_P D vwCl ws H) (hD : va_D A ws) (hS : va_S A H0 H locs) (hA : ∀ q, H0.size ≤ q → A q) {n : Int32} {N' : Nat} (hn : ¬ n < 0) (hN : n.toNatClampNeg = N') (hbytes : N' * 1 ≤ 536870912) (hcells : cells + 1 ≤ R.cells) (hslots : slots + N' ≤ R.slots) (hdg : decode cc pc = .ok (.newarray .byte, 2))
    (kk : ∀ (q : Nat) (H1 : Heap), va_P D vwCl (ws ++ [(q, .inl (cy 0, N', .inl (fun _ => 0)))]) H1 → va_D A (ws ++ [(q, .inl (cy 0, N', .inl (fun _ => 0)))]) → va_S A H0 H1 locs → W p l e R s m args below meth c H1 locs (cells + 1) (slots + N') Q (F0 m (pc + 2) ls (.ref q :: rest))) : W p l e R s m args below meth c H locs cells slots Q (F0 m pc ls (.int n :: rest)) := by
  refine va_newa (atype := .byte) (ty := .byte) (a0 := (N', .inl (fun _ => 0))) hexec hb harr rfl hK hP hD hS hA (fun cA => rfl) hn hN hbytes hcells hslots hdg (fun q cA H1 hK1 hP hD hS => ?_)
  have e1 : cA = cy 0 := Option.some.inj (((hK1.2 4 (cA, .byte) rfl).2).symm.trans (hK.2 0 (cy 0, .byte) rfl).2)
  subst e1
  exact kk q H1 hP hD hS
theorem nw_long (hexec : p.tables.exec = Jvm.exec) (hb : c.code = cc) (harr : (Cond.arrayClass .long).before args s = true) (hK : va_K D vwCl (cty cy) s) (hP : va_P D vwCl ws H) (hD : va_D A ws) (hS : va_S A H0 H locs) (hA : ∀ q, H0.size ≤ q → A q) {n : Int32} {N' : Nat} (hn : ¬ n < 0) (hN : n.toNatClampNeg = N') (hbytes : N' * 8 ≤ 536870912) (hcells : cells + 1 ≤ R.cells) (hslots : slots + N' ≤ R.slots) (hdg : decode cc pc = .ok (.newarray .long, 2))
    (kk : ∀ (q : Nat) (H1 : Heap), va_P D vwCl (ws ++ [(q, .inl (cy 2, N', .inr (.inl (fun _ => 0))))]) H1 → va_D A (ws ++ [(q, .inl (cy 2, N', .inr (.inl (fun _ => 0))))]) → va_S A H0 H1 locs → W p l e R s m args below meth c H1 locs (cells + 1) (slots + N') Q (F0 m (pc + 2) ls (.ref q :: rest))) : W p l e R s m args below meth c H locs cells slots Q (F0 m pc ls (.int n :: rest)) := by
  refine va_newa (atype := .long) (ty := .long) (a0 := (N', .inr (.inl (fun _ => 0)))) hexec hb harr rfl hK hP hD hS hA (fun cA => rfl) hn hN hbytes hcells hslots hdg (fun q cA H1 hK1 hP hD hS => ?_)
  have e1 : cA = cy 2 := Option.some.inj (((hK1.2 4 (cA, .long) rfl).2).symm.trans (hK.2 2 (cy 2, .long) rfl).2)
  subst e1
  exact kk q H1 hP hD hS
theorem nw_obj (hexec : p.tables.exec = Jvm.exec) (hb : c.code = cc) {own : String} {index : Nat} (hown : s.vm.findClass own = some m.cls) (hclink : (Cond.classLink own index RX3).before args s = true) (hover : va_AO RX3 s) (hK : va_K D vwCl (cty cy) s) (hP : va_P D vwCl ws H) (hD : va_D A ws) (hS : va_S A H0 H locs) (hA : ∀ q, H0.size ≤ q → A q) {n : Int32} {N' : Nat} (hn : ¬ n < 0) (hN : n.toNatClampNeg = N') (hbytes : N' * 4 ≤ 536870912) (hcells : cells + 1 ≤ R.cells) (hslots : slots + N' ≤ R.slots) (hdg : decode cc pc = .ok (.anewarray index, 3))
    (kk : ∀ (q : Nat) (H1 : Heap), va_P D vwCl (ws ++ [(q, .inl (cy 3, N', .inr (.inr (.inr (.inr (fun _ => none))))))]) H1 → va_D A (ws ++ [(q, .inl (cy 3, N', .inr (.inr (.inr (.inr (fun _ => none))))))]) → va_S A H0 H1 locs → W p l e R s m args below meth c H1 locs (cells + 1) (slots + N') Q (F0 m (pc + 3) ls (.ref q :: rest))) : W p l e R s m args below meth c H locs cells slots Q (F0 m pc ls (.int n :: rest)) := by
  refine va_newq hexec hb hown hclink hover hK hP hD hS hA hn hN hbytes hcells hslots hdg (fun q cA H1 hK1 hP hD hS => ?_)
  have h1 : ∃ (kA : Class) (comp : ClassId), s.vm.classes[cA]? = some kA ∧ kA.kind = .array comp (.object RX3) ∧ s.vm.findClass RX3 = some comp ∧ s.vm.findClass ("[" ++ (FieldType.object RX3).toString) = some cA := (hK1.2 4 (cA, .object RX3) rfl).2
  have h2 : ∃ (kA : Class) (comp : ClassId), s.vm.classes[cy 3]? = some kA ∧ kA.kind = .array comp (.object RX3) ∧ s.vm.findClass RX3 = some comp ∧ s.vm.findClass ("[" ++ (FieldType.object RX3).toString) = some (cy 3) := (hK.2 3 (cy 3, .object RX3) rfl).2
  obtain ⟨_, _, _, _, _, h1⟩ := h1
  obtain ⟨_, _, _, _, _, h2⟩ := h2
  have e1 : cA = cy 3 := Option.some.inj (h1.symm.trans h2)
  subst e1
  exact kk q H1 hP hD hS
end NW
/-- behind a call: the rest of the world, and what the callee left -/
theorem join2 {A0 : Nat → Prop} {D : va_G} {cl : List vw_C} {rest wc w1 : va_W} {H H1 : Heap} (hP : va_P D cl (rest ++ wc) H) (hD : va_D A0 (rest ++ wc)) (hk : ∀ q : Nat, q < H.size → ¬ va_A wc H.size q → H1[q]? = H[q]?) (hF : ∀ q, va_A wc H.size q → A0 q) (hP1 : va_P D cl w1 H1) (hD1 : va_D (va_A wc H.size) w1) : va_P D cl (rest ++ w1) H1 ∧ va_D A0 (rest ++ w1) := by
  have inl : ∀ (i : Nat) (q : Nat × va_E), rest[i]? = some q → (rest ++ wc)[i]? = some q := fun i q h => by
    rw [List.getElem?_append_left (List.getElem?_eq_some_iff.mp h).1]; exact h
  have inr : ∀ (i : Nat) (q : Nat × va_E), wc[i]? = some q → (rest ++ wc)[rest.length + i]? = some q := fun i q h => by
    rw [List.getElem?_append_right (Nat.le_add_right _ _), Nat.add_sub_cancel_left]; exact h
  have apart : ∀ (k : Nat) (q : Nat × va_E), rest[k]? = some q → q.1 < H.size ∧ ¬ va_A wc H.size q.1 := by
    intro k q hq
    have hl := (hP k q (inl k q hq)).lt
    refine ⟨hl, fun h => ?_⟩
    rcases h with ⟨k2, e, h⟩ | h
    · have hij := hD.1 k (rest.length + k2) q (q.1, e) (inl k q hq) (inr k2 _ h) rfl
      have hkl := (List.getElem?_eq_some_iff.mp hq).1
      omega
    · omega
  have hDr : va_D A0 rest := ⟨fun i j x y hi hj h => hD.1 i j x y (inl i x hi) (inl j y hj) h, fun k q h => hD.2 k q (inl k q h)⟩
  refine ⟨va_P.app (fun k q hq => ?_) hP1, va_D.app hDr (hD1.weaken (fun k q _ h => hF q.1 h)) (fun i j x y hx hy hxy => ?_)⟩
  · obtain ⟨g1, g2⟩ := apart k q hq
    exact (hP k q (inl k q hq)).kept (hk q.1 g1 g2)
  · exact (apart i x hx).2 (by rw [hxy]; exact hD1.2 j y hy)
theorem free2 {A0 : Nat → Prop} {rest wc : va_W} {H0 H : Heap} {locs : List Loc} (hD : va_D A0 (rest ++ wc)) (hS : va_S A0 H0 H locs) (hA : ∀ q, H0.size ≤ q → A0 q) : ∀ q, va_A wc H.size q → A0 q := by
  intro q h
  rcases h with ⟨k, e, h⟩ | h
  · exact hD.2 (rest.length + k) (q, e) (by rw [List.getElem?_append_right (Nat.le_add_right _ _), Nat.add_sub_cancel_left]; exact h)
  · exact hA q (Nat.le_trans hS.1 h)
theorem part2 {D : va_G} {cl : List vw_C} {rest wc : va_W} {H : Heap} (hP : va_P D cl (rest ++ wc) H) : va_P D cl wc H := fun k q h => hP (rest.length + k) q (by rw [List.getElem?_append_right (Nat.le_add_right _ _), Nat.add_sub_cancel_left]; exact h)
theorem partD {A : Nat → Prop} {rest wc : va_W} (hD : va_D A (rest ++ wc)) : va_D (fun _ => True) wc := ⟨fun i j x y hi hj h => by
  have q := hD.1 (rest.length + i) (rest.length + j) x y (by rw [List.getElem?_append_right (Nat.le_add_right _ _), Nat.add_sub_cancel_left]; exact hi) (by rw [List.getElem?_append_right (Nat.le_add_right _ _), Nat.add_sub_cancel_left]; exact hj) h
  omega, fun _ _ _ => trivial⟩
set_option maxHeartbeats 4000000 in
set_option maxRecDepth 100000 in
theorem c_X0_init (l : Launch) (D : va_G) (cy : Nat → ClassId) (h0 : Nat) (sz : Nat)  : Met l yX0_init (Cond.code yX0_init cX0_init 1 none :: wsL_law) ({ frames := 1, cells := 0, slots := 0, locals := 20 } : Room) (va_Pc [.ref h0] (fun U => U.heap.size = sz ∧ va_P D vwCl [(h0, .inr (0, [.int 0]))] U.heap ∧ va_K D vwCl (cty cy) U ∧ va_D (fun _ => True) [(h0, .inr (0, [.int 0]))])) (va_Qv (fun (u : Unit) => True) (fun u t => va_P D vwCl ([(h0, .inr (0, [.int 0]))]) t.heap ∧ va_D (va_A [(h0, .inr (0, [.int 0]))] sz) ([(h0, .inr (0, [.int 0]))])) (va_A [(h0, .inr (0, [.int 0]))] sz)) 0 0 (va_A [(h0, .inr (0, [.int 0]))] sz) := by
  refine Met.ofW (cc := cX0_init) (maxL := 1) (ret := none) (by decide) rfl ?_
  intro p e s m args below meth c s₁ B hml hv
  obtain ⟨rfl, hsz, hP, hK, hD0⟩ := hv
  have hx := B.exec
  have hb := B.bytes
  have hr := B.returns
  have hT : ∀ w ∈ wsL_law, w.before ([.ref h0] : List Value).toArray s = true := fun w h => atoms_spec (ws := (Cond.code yX0_init cX0_init 1 none :: wsL_law)) B.pre w (List.mem_cons_of_mem _ h)
  have hown : s.vm.findClass RX0 = some m.cls := findClass_of_methodNamed B.named
  have hlocks := B.notSynchronized
  have hin : meth.name = "<init>" := (name_of_methodNamed B.named B.method).1
  subst hsz
  have hD := hD0.self (sz := s.heap.size)
  generalize hAe : va_A [(h0, .inr (0, [.int 0]))] s.heap.size = A at hD ⊢
  have hA : ∀ q : Nat, s.heap.size ≤ q → A q := fun q h => by rw [← hAe]; exact Or.inr h
  have hS : va_S A s.heap s.heap [] := va_S.rf
  have hl := lv_entry ([.ref h0]) (n := 1) (Nat.le_of_ble_eq_true rfl)
  rw [lg_entry_eq]
  generalize (lg_sl ([.ref h0]) ++ List.replicate (1 - (lg_sl ([.ref h0])).length) Slot.unset).toArray = ls at hl ⊢
  have hl : lv_has ls 1 [(0, .ref h0)] := hl
  refine lv_aload_n hx hb dX0_init_0 rfl (lv_at hl 0 rfl) ?_
  refine W.objInit hx hb hown (hT _ (tr_4 _ (List.mem_of_getElem? (i := 8) rfl))) (hT _ (tr_1 _ (List.mem_of_getElem? (i := 10) rfl))) (hT _ (tr_1 _ (List.mem_of_getElem? (i := 11) rfl))) rfl (by rw [hml]; exact hl.1) rfl dX0_init_1 (Nat.le_of_ble_eq_true rfl) (Nat.le_of_ble_eq_true rfl) ?_
  refine W.eq (g2 := F0 m 4 ls []) rfl ?_
  exact W.vret hx hb hr (fun t ht hW => ⟨⟨(), rfl, trivial, by show va_P D vwCl _ t.heap; rw [ht]; exact hP, hD⟩, hS.F ht⟩) hS.2.2 dX0_init_4
set_option maxHeartbeats 4000000 in
set_option maxRecDepth 100000 in
theorem c_X3_init (l : Launch) (D : va_G) (cy : Nat → ClassId) (h0 : Nat) (sz : Nat)  : Met l yX3_init (Cond.code yX3_init cX3_init 1 none :: wsL_law) ({ frames := 1, cells := 0, slots := 0, locals := 20 } : Room) (va_Pc [.ref h0] (fun U => U.heap.size = sz ∧ va_P D vwCl [(h0, .inr (3, [.int 0, .int 0, .int 0, .int 0, .int 0]))] U.heap ∧ va_K D vwCl (cty cy) U ∧ va_D (fun _ => True) [(h0, .inr (3, [.int 0, .int 0, .int 0, .int 0, .int 0]))])) (va_Qv (fun (u : Unit) => True) (fun u t => va_P D vwCl ([(h0, .inr (3, [.int 0, .int 0, .int 0, .int 0, .int 0]))]) t.heap ∧ va_D (va_A [(h0, .inr (3, [.int 0, .int 0, .int 0, .int 0, .int 0]))] sz) ([(h0, .inr (3, [.int 0, .int 0, .int 0, .int 0, .int 0]))])) (va_A [(h0, .inr (3, [.int 0, .int 0, .int 0, .int 0, .int 0]))] sz)) 0 0 (va_A [(h0, .inr (3, [.int 0, .int 0, .int 0, .int 0, .int 0]))] sz) := by
  refine Met.ofW (cc := cX3_init) (maxL := 1) (ret := none) (by decide) rfl ?_
  intro p e s m args below meth c s₁ B hml hv
  obtain ⟨rfl, hsz, hP, hK, hD0⟩ := hv
  have hx := B.exec
  have hb := B.bytes
  have hr := B.returns
  have hT : ∀ w ∈ wsL_law, w.before ([.ref h0] : List Value).toArray s = true := fun w h => atoms_spec (ws := (Cond.code yX3_init cX3_init 1 none :: wsL_law)) B.pre w (List.mem_cons_of_mem _ h)
  have hown : s.vm.findClass RX3 = some m.cls := findClass_of_methodNamed B.named
  have hlocks := B.notSynchronized
  have hin : meth.name = "<init>" := (name_of_methodNamed B.named B.method).1
  subst hsz
  have hD := hD0.self (sz := s.heap.size)
  generalize hAe : va_A [(h0, .inr (3, [.int 0, .int 0, .int 0, .int 0, .int 0]))] s.heap.size = A at hD ⊢
  have hA : ∀ q : Nat, s.heap.size ≤ q → A q := fun q h => by rw [← hAe]; exact Or.inr h
  have hS : va_S A s.heap s.heap [] := va_S.rf
  have hl := lv_entry ([.ref h0]) (n := 1) (Nat.le_of_ble_eq_true rfl)
  rw [lg_entry_eq]
  generalize (lg_sl ([.ref h0]) ++ List.replicate (1 - (lg_sl ([.ref h0])).length) Slot.unset).toArray = ls at hl ⊢
  have hl : lv_has ls 1 [(0, .ref h0)] := hl
  refine lv_aload_n hx hb dX3_init_0 rfl (lv_at hl 0 rfl) ?_
  refine W.objInit hx hb hown (hT _ (tr_3 _ (List.mem_of_getElem? (i := 7) rfl))) (hT _ (tr_1 _ (List.mem_of_getElem? (i := 10) rfl))) (hT _ (tr_1 _ (List.mem_of_getElem? (i := 11) rfl))) rfl (by rw [hml]; exact hl.1) rfl dX3_init_1 (Nat.le_of_ble_eq_true rfl) (Nat.le_of_ble_eq_true rfl) ?_
  refine W.eq (g2 := F0 m 4 ls []) rfl ?_
  exact W.vret hx hb hr (fun t ht hW => ⟨⟨(), rfl, trivial, by show va_P D vwCl _ t.heap; rw [ht]; exact hP, hD⟩, hS.F ht⟩) hS.2.2 dX3_init_4
set_option maxHeartbeats 4000000 in
set_option maxRecDepth 100000 in
theorem c_X1_init (l : Launch) (D : va_G) (cy : Nat → ClassId) (h0 : Nat) (sz : Nat)  : Met l yX1_init (Cond.code yX1_init cX1_init 1 none :: wsL_law) ({ frames := 1, cells := 1, slots := 50, locals := 20 } : Room) (va_Pc [.ref h0] (fun U => U.heap.size = sz ∧ va_P D vwCl [(h0, .inr (1, [.null, .int 0]))] U.heap ∧ va_K D vwCl (cty cy) U ∧ va_D (fun _ => True) [(h0, .inr (1, [.null, .int 0]))])) (va_Qv (fun (u : Nat → Nat) => True) (fun u t => va_P D vwCl ([(h0, .inr (1, [.ref (u 0), .int 0])), (u 0, .inl (cy 1, 50, .inl (fun _ => 0)))]) t.heap ∧ va_D (va_A [(h0, .inr (1, [.null, .int 0]))] sz) ([(h0, .inr (1, [.ref (u 0), .int 0])), (u 0, .inl (cy 1, 50, .inl (fun _ => 0)))])) (va_A [(h0, .inr (1, [.null, .int 0]))] sz)) 1 50 (va_A [(h0, .inr (1, [.null, .int 0]))] sz) := by
  refine Met.ofW (cc := cX1_init) (maxL := 1) (ret := none) (by decide) rfl ?_
  intro p e s m args below meth c s₁ B hml hv
  obtain ⟨rfl, hsz, hP, hK, hD0⟩ := hv
  have hx := B.exec
  have hb := B.bytes
  have hr := B.returns
  have hT : ∀ w ∈ wsL_law, w.before ([.ref h0] : List Value).toArray s = true := fun w h => atoms_spec (ws := (Cond.code yX1_init cX1_init 1 none :: wsL_law)) B.pre w (List.mem_cons_of_mem _ h)
  have hown : s.vm.findClass RX1 = some m.cls := findClass_of_methodNamed B.named
  have hlocks := B.notSynchronized
  have hin : meth.name = "<init>" := (name_of_methodNamed B.named B.method).1
  subst hsz
  have hD := hD0.self (sz := s.heap.size)
  generalize hAe : va_A [(h0, .inr (1, [.null, .int 0]))] s.heap.size = A at hD ⊢
  have hA : ∀ q : Nat, s.heap.size ≤ q → A q := fun q h => by rw [← hAe]; exact Or.inr h
  have hS : va_S A s.heap s.heap [] := va_S.rf
  have hl := lv_entry ([.ref h0]) (n := 1) (Nat.le_of_ble_eq_true rfl)
  rw [lg_entry_eq]
  generalize (lg_sl ([.ref h0]) ++ List.replicate (1 - (lg_sl ([.ref h0])).length) Slot.unset).toArray = ls at hl ⊢
  have hl : lv_has ls 1 [(0, .ref h0)] := hl
  refine lv_aload_n hx hb dX1_init_0 rfl (lv_at hl 0 rfl) ?_
  refine W.objInit hx hb hown (hT _ (tr_2 _ (List.mem_of_getElem? (i := 16) rfl))) (hT _ (tr_1 _ (List.mem_of_getElem? (i := 10) rfl))) (hT _ (tr_1 _ (List.mem_of_getElem? (i := 11) rfl))) rfl (by rw [hml]; exact hl.1) rfl dX1_init_1 (Nat.le_of_ble_eq_true rfl) (Nat.le_of_ble_eq_true rfl) ?_
  refine W.eq (g2 := F0 m 4 ls []) rfl ?_
  refine lv_aload_n hx hb dX1_init_4 rfl (lv_at hl 0 rfl) ?_
  refine lv_bipush (v := 50) hx hb dX1_init_5 (by decide) ?_
  refine nw_int hx hb (hT _ (tr_2 _ (List.mem_of_getElem? (i := 17) rfl))) hK hP hD hS hA (N' := 50) (by decide) (by decide) (by decide) (Nat.le_of_ble_eq_true rfl) (Nat.le_of_ble_eq_true rfl) dX1_init_7 (fun q4 H hP hD hS => ?_)
  have hP : va_P D vwCl ([(h0, .inr (1, [.null, .int 0])), (q4, .inl (cy 1, 50, .inl (fun _ => 0)))]) H := hP
  have hD : va_D A ([(h0, .inr (1, [.null, .int 0])), (q4, .inl (cy 1, 50, .inl (fun _ => 0)))]) := hD
  refine va_putF (D := D) (ci := 1) (v := .ref q4) (ty := .array .int) (C := RX1) (T := TX1) (N := 2) hx hb hT inlX1 tyX1 tyX1_ok nmX1 hown hK hP hD hS 0 rfl rfl 0 (by decide) (hT _ (tr_2 _ (List.mem_of_getElem? (i := 18) rfl))) (fun _ h9 => h9) rfl hin rfl (by decide +kernel) rfl rfl (Nat.le_of_ble_eq_true rfl) dX1_init_9 (fun H locs hP hD hS => ?_)
  have hP : va_P D vwCl ([(h0, .inr (1, [.ref q4, .int 0])), (q4, .inl (cy 1, 50, .inl (fun _ => 0)))]) H := hP
  have hD : va_D A ([(h0, .inr (1, [.ref q4, .int 0])), (q4, .inl (cy 1, 50, .inl (fun _ => 0)))]) := hD
  refine W.widen (k := 1) (n := 50) (Nat.le_of_ble_eq_true rfl) (Nat.le_of_ble_eq_true rfl) ?_
  exact W.vret hx hb hr (fun t ht hW => ⟨⟨(fun i => ([q4] : List Nat).getD i 0), rfl, trivial, by show va_P D vwCl _ t.heap; rw [ht]; exact hP, hD⟩, hS.F ht⟩) hS.2.2 dX1_init_12
set_option maxHeartbeats 4000000 in
set_option maxRecDepth 100000 in
theorem c_X2_init (l : Launch) (D : va_G) (cy : Nat → ClassId) (h0 : Nat) (sz : Nat)  : Met l yX2_init (Cond.code yX2_init cX2_init 1 none :: wsL_law) ({ frames := 1, cells := 4, slots := 23, locals := 20 } : Room) (va_Pc [.ref h0] (fun U => U.heap.size = sz ∧ va_P D vwCl [(h0, .inr (2, [.null, .null, .null, .null, .int 0]))] U.heap ∧ va_K D vwCl (cty cy) U ∧ va_D (fun _ => True) [(h0, .inr (2, [.null, .null, .null, .null, .int 0]))])) (va_Qv (fun (u : Nat → Nat) => True) (fun u t => va_P D vwCl ([(h0, .inr (2, [.ref (u 0), .ref (u 1), .ref (u 2), .ref (u 3), .int 0])), (u 0, .inl (cy 1, 6, .inl (fun _ => 0))), (u 1, .inl (cy 1, 6, .inl (fun _ => 0))), (u 2, .inl (cy 1, 6, .inl (fun _ => 0))), (u 3, .inl (cy 2, 5, .inr (.inl (fun _ => 0))))]) t.heap ∧ va_D (va_A [(h0, .inr (2, [.null, .null, .null, .null, .int 0]))] sz) ([(h0, .inr (2, [.ref (u 0), .ref (u 1), .ref (u 2), .ref (u 3), .int 0])), (u 0, .inl (cy 1, 6, .inl (fun _ => 0))), (u 1, .inl (cy 1, 6, .inl (fun _ => 0))), (u 2, .inl (cy 1, 6, .inl (fun _ => 0))), (u 3, .inl (cy 2, 5, .inr (.inl (fun _ => 0))))])) (va_A [(h0, .inr (2, [.null, .null, .null, .null, .int 0]))] sz)) 4 23 (va_A [(h0, .inr (2, [.null, .null, .null, .null, .int 0]))] sz) := by
  refine Met.ofW (cc := cX2_init) (maxL := 1) (ret := none) (by decide) rfl ?_
  intro p e s m args below meth c s₁ B hml hv
  obtain ⟨rfl, hsz, hP, hK, hD0⟩ := hv
  have hx := B.exec
  have hb := B.bytes
  have hr := B.returns
  have hT : ∀ w ∈ wsL_law, w.before ([.ref h0] : List Value).toArray s = true := fun w h => atoms_spec (ws := (Cond.code yX2_init cX2_init 1 none :: wsL_law)) B.pre w (List.mem_cons_of_mem _ h)
  have hown : s.vm.findClass RX2 = some m.cls := findClass_of_methodNamed B.named
  have hlocks := B.notSynchronized
  have hin : meth.name = "<init>" := (name_of_methodNamed B.named B.method).1
  subst hsz
  have hD := hD0.self (sz := s.heap.size)
  generalize hAe : va_A [(h0, .inr (2, [.null, .null, .null, .null, .int 0]))] s.heap.size = A at hD ⊢
  have hA : ∀ q : Nat, s.heap.size ≤ q → A q := fun q h => by rw [← hAe]; exact Or.inr h
  have hS : va_S A s.heap s.heap [] := va_S.rf
  have hl := lv_entry ([.ref h0]) (n := 1) (Nat.le_of_ble_eq_true rfl)
  rw [lg_entry_eq]
  generalize (lg_sl ([.ref h0]) ++ List.replicate (1 - (lg_sl ([.ref h0])).length) Slot.unset).toArray = ls at hl ⊢
  have hl : lv_has ls 1 [(0, .ref h0)] := hl
  refine lv_aload_n hx hb dX2_init_0 rfl (lv_at hl 0 rfl) ?_
  refine W.objInit hx hb hown (hT _ (tr_4 _ (List.mem_of_getElem? (i := 0) rfl))) (hT _ (tr_1 _ (List.mem_of_getElem? (i := 10) rfl))) (hT _ (tr_1 _ (List.mem_of_getElem? (i := 11) rfl))) rfl (by rw [hml]; exact hl.1) rfl dX2_init_1 (Nat.le_of_ble_eq_true rfl) (Nat.le_of_ble_eq_true rfl) ?_
  refine W.eq (g2 := F0 m 4 ls []) rfl ?_
  refine lv_aload_n hx hb dX2_init_4 rfl (lv_at hl 0 rfl) ?_
  refine lv_bipush (v := 6) hx hb dX2_init_5 (by decide) ?_
  refine nw_int hx hb (hT _ (tr_2 _ (List.mem_of_getElem? (i := 17) rfl))) hK hP hD hS hA (N' := 6) (by decide) (by decide) (by decide) (Nat.le_of_ble_eq_true rfl) (Nat.le_of_ble_eq_true rfl) dX2_init_7 (fun q4 H hP hD hS => ?_)
  have hP : va_P D vwCl ([(h0, .inr (2, [.null, .null, .null, .null, .int 0])), (q4, .inl (cy 1, 6, .inl (fun _ => 0)))]) H := hP
  have hD : va_D A ([(h0, .inr (2, [.null, .null, .null, .null, .int 0])), (q4, .inl (cy 1, 6, .inl (fun _ => 0)))]) := hD
  refine va_putF (D := D) (ci := 2) (v := .ref q4) (ty := .array .int) (C := RX2) (T := TX2) (N := 5) hx hb hT inlX2 tyX2 tyX2_ok nmX2 hown hK hP hD hS 0 rfl rfl 0 (by decide) (hT _ (tr_4 _ (List.mem_of_getElem? (i := 1) rfl))) (fun _ h9 => h9) rfl hin rfl (by decide +kernel) rfl rfl (Nat.le_of_ble_eq_true rfl) dX2_init_9 (fun H locs hP hD hS => ?_)
  have hP : va_P D vwCl ([(h0, .inr (2, [.ref q4, .null, .null, .null, .int 0])), (q4, .inl (cy 1, 6, .inl (fun _ => 0)))]) H := hP
  have hD : va_D A ([(h0, .inr (2, [.ref q4, .null, .null, .null, .int 0])), (q4, .inl (cy 1, 6, .inl (fun _ => 0)))]) := hD
  refine lv_aload_n hx hb dX2_init_12 rfl (lv_at hl 0 rfl) ?_
  refine lv_bipush (v := 6) hx hb dX2_init_13 (by decide) ?_
  refine nw_int hx hb (hT _ (tr_2 _ (List.mem_of_getElem? (i := 17) rfl))) hK hP hD hS hA (N' := 6) (by decide) (by decide) (by decide) (Nat.le_of_ble_eq_true rfl) (Nat.le_of_ble_eq_true rfl) dX2_init_15 (fun q12 H hP hD hS => ?_)
  have hP : va_P D vwCl ([(h0, .inr (2, [.ref q4, .null, .null, .null, .int 0])), (q4, .inl (cy 1, 6, .inl (fun _ => 0))), (q12, .inl (cy 1, 6, .inl (fun _ => 0)))]) H := hP
  have hD : va_D A ([(h0, .inr (2, [.ref q4, .null, .null, .null, .int 0])), (q4, .inl (cy 1, 6, .inl (fun _ => 0))), (q12, .inl (cy 1, 6, .inl (fun _ => 0)))]) := hD
  refine va_putF (D := D) (ci := 2) (v := .ref q12) (ty := .array .int) (C := RX2) (T := TX2) (N := 5) hx hb hT inlX2 tyX2 tyX2_ok nmX2 hown hK hP hD hS 0 rfl rfl 1 (by decide) (hT _ (tr_4 _ (List.mem_of_getElem? (i := 2) rfl))) (fun _ h9 => h9) rfl hin rfl (by decide +kernel) rfl rfl (Nat.le_of_ble_eq_true rfl) dX2_init_17 (fun H locs hP hD hS => ?_)
  have hP : va_P D vwCl ([(h0, .inr (2, [.ref q4, .ref q12, .null, .null, .int 0])), (q4, .inl (cy 1, 6, .inl (fun _ => 0))), (q12, .inl (cy 1, 6, .inl (fun _ => 0)))]) H := hP
  have hD : va_D A ([(h0, .inr (2, [.ref q4, .ref q12, .null, .null, .int 0])), (q4, .inl (cy 1, 6, .inl (fun _ => 0))), (q12, .inl (cy 1, 6, .inl (fun _ => 0)))]) := hD
  refine lv_aload_n hx hb dX2_init_20 rfl (lv_at hl 0 rfl) ?_
  refine lv_bipush (v := 6) hx hb dX2_init_21 (by decide) ?_
  refine nw_int hx hb (hT _ (tr_2 _ (List.mem_of_getElem? (i := 17) rfl))) hK hP hD hS hA (N' := 6) (by decide) (by decide) (by decide) (Nat.le_of_ble_eq_true rfl) (Nat.le_of_ble_eq_true rfl) dX2_init_23 (fun q20 H hP hD hS => ?_)
  have hP : va_P D vwCl ([(h0, .inr (2, [.ref q4, .ref q12, .null, .null, .int 0])), (q4, .inl (cy 1, 6, .inl (fun _ => 0))), (q12, .inl (cy 1, 6, .inl (fun _ => 0))), (q20, .inl (cy 1, 6, .inl (fun _ => 0)))]) H := hP
  have hD : va_D A ([(h0, .inr (2, [.ref q4, .ref q12, .null, .null, .int 0])), (q4, .inl (cy 1, 6, .inl (fun _ => 0))), (q12, .inl (cy 1, 6, .inl (fun _ => 0))), (q20, .inl (cy 1, 6, .inl (fun _ => 0)))]) := hD
  refine va_putF (D := D) (ci := 2) (v := .ref q20) (ty := .array .int) (C := RX2) (T := TX2) (N := 5) hx hb hT inlX2 tyX2 tyX2_ok nmX2 hown hK hP hD hS 0 rfl rfl 2 (by decide) (hT _ (tr_4 _ (List.mem_of_getElem? (i := 3) rfl))) (fun _ h9 => h9) rfl hin rfl (by decide +kernel) rfl rfl (Nat.le_of_ble_eq_true rfl) dX2_init_25 (fun H locs hP hD hS => ?_)
  have hP : va_P D vwCl ([(h0, .inr (2, [.ref q4, .ref q12, .ref q20, .null, .int 0])), (q4, .inl (cy 1, 6, .inl (fun _ => 0))), (q12, .inl (cy 1, 6, .inl (fun _ => 0))), (q20, .inl (cy 1, 6, .inl (fun _ => 0)))]) H := hP
  have hD : va_D A ([(h0, .inr (2, [.ref q4, .ref q12, .ref q20, .null, .int 0])), (q4, .inl (cy 1, 6, .inl (fun _ => 0))), (q12, .inl (cy 1, 6, .inl (fun _ => 0))), (q20, .inl (cy 1, 6, .inl (fun _ => 0)))]) := hD
  refine lv_aload_n hx hb dX2_init_28 rfl (lv_at hl 0 rfl) ?_
  refine lv_iconst (v := 5) hx hb dX2_init_29 (by decide) ?_
  refine nw_long hx hb (hT _ (tr_4 _ (List.mem_of_getElem? (i := 4) rfl))) hK hP hD hS hA (N' := 5) (by decide) (by decide) (by decide) (Nat.le_of_ble_eq_true rfl) (Nat.le_of_ble_eq_true rfl) dX2_init_30 (fun q28 H hP hD hS => ?_)
  have hP : va_P D vwCl ([(h0, .inr (2, [.ref q4, .ref q12, .ref q20, .null, .int 0])), (q4, .inl (cy 1, 6, .inl (fun _ => 0))), (q12, .inl (cy 1, 6, .inl (fun _ => 0))), (q20, .inl (cy 1, 6, .inl (fun _ => 0))), (q28, .inl (cy 2, 5, .inr (.inl (fun _ => 0))))]) H := hP
  have hD : va_D A ([(h0, .inr (2, [.ref q4, .ref q12, .ref q20, .null, .int 0])), (q4, .inl (cy 1, 6, .inl (fun _ => 0))), (q12, .inl (cy 1, 6, .inl (fun _ => 0))), (q20, .inl (cy 1, 6, .inl (fun _ => 0))), (q28, .inl (cy 2, 5, .inr (.inl (fun _ => 0))))]) := hD
  refine va_putF (D := D) (ci := 2) (v := .ref q28) (ty := .array .long) (C := RX2) (T := TX2) (N := 5) hx hb hT inlX2 tyX2 tyX2_ok nmX2 hown hK hP hD hS 0 rfl rfl 3 (by decide) (hT _ (tr_4 _ (List.mem_of_getElem? (i := 5) rfl))) (fun _ h9 => h9) rfl hin rfl (by decide +kernel) rfl rfl (Nat.le_of_ble_eq_true rfl) dX2_init_32 (fun H locs hP hD hS => ?_)
  have hP : va_P D vwCl ([(h0, .inr (2, [.ref q4, .ref q12, .ref q20, .ref q28, .int 0])), (q4, .inl (cy 1, 6, .inl (fun _ => 0))), (q12, .inl (cy 1, 6, .inl (fun _ => 0))), (q20, .inl (cy 1, 6, .inl (fun _ => 0))), (q28, .inl (cy 2, 5, .inr (.inl (fun _ => 0))))]) H := hP
  have hD : va_D A ([(h0, .inr (2, [.ref q4, .ref q12, .ref q20, .ref q28, .int 0])), (q4, .inl (cy 1, 6, .inl (fun _ => 0))), (q12, .inl (cy 1, 6, .inl (fun _ => 0))), (q20, .inl (cy 1, 6, .inl (fun _ => 0))), (q28, .inl (cy 2, 5, .inr (.inl (fun _ => 0))))]) := hD
  refine W.widen (k := 4) (n := 23) (Nat.le_of_ble_eq_true rfl) (Nat.le_of_ble_eq_true rfl) ?_
  exact W.vret hx hb hr (fun t ht hW => ⟨⟨(fun i => ([q4, q12, q20, q28] : List Nat).getD i 0), rfl, trivial, by show va_P D vwCl _ t.heap; rw [ht]; exact hP, hD⟩, hS.F ht⟩) hS.2.2 dX2_init_35
end
section
set_option maxHeartbeats 4000000 in
set_option maxRecDepth 100000 in
theorem c_X7_init (l : Launch) (D : va_G) (cy : Nat → ClassId) (h0 : Nat) (sz : Nat)  : Met l yX7_init (Cond.code yX7_init cX7_init 1 none :: wsL_law) ({ frames := 1, cells := 19, slots := 892, locals := 20 } : Room) (va_Pc [.ref h0] (fun U => U.heap.size = sz ∧ va_P D vwCl [(h0, .inr (7, [.int 0, .int 0, .null, .null, .null, .null, .null, .null, .int 0, .null, .null, .null, .int 0, .null, .int 0, .int 0, .null, .long 0, .int 0, .int 0, .int 0, .int 0, .null, .null, .null, .null, .null, .null, .null, .null, .long 0]))] U.heap ∧ va_K D vwCl (cty cy) U ∧ va_D (fun _ => True) [(h0, .inr (7, [.int 0, .int 0, .null, .null, .null, .null, .null, .null, .int 0, .null, .null, .null, .int 0, .null, .int 0, .int 0, .null, .long 0, .int 0, .int 0, .int 0, .int 0, .null, .null, .null, .null, .null, .null, .null, .null, .long 0]))])) (va_Qv (fun (u : Nat → Nat) => u 0 = h0) (fun u t => va_P D vwCl (mw (D, cy, u, (fun _ => True)) (fun _ _ => 0) (fun _ _ => 0)) t.heap ∧ va_D (va_A [(h0, .inr (7, [.int 0, .int 0, .null, .null, .null, .null, .null, .null, .int 0, .null, .null, .null, .int 0, .null, .int 0, .int 0, .null, .long 0, .int 0, .int 0, .int 0, .int 0, .null, .null, .null, .null, .null, .null, .null, .null, .long 0]))] sz) (mw (D, cy, u, (fun _ => True)) (fun _ _ => 0) (fun _ _ => 0))) (va_A [(h0, .inr (7, [.int 0, .int 0, .null, .null, .null, .null, .null, .null, .int 0, .null, .null, .null, .int 0, .null, .int 0, .int 0, .null, .long 0, .int 0, .int 0, .int 0, .int 0, .null, .null, .null, .null, .null, .null, .null, .null, .long 0]))] sz)) 19 892 (va_A [(h0, .inr (7, [.int 0, .int 0, .null, .null, .null, .null, .null, .null, .int 0, .null, .null, .null, .int 0, .null, .int 0, .int 0, .null, .long 0, .int 0, .int 0, .int 0, .int 0, .null, .null, .null, .null, .null, .null, .null, .null, .long 0]))] sz) := by
  refine Met.ofW (cc := cX7_init) (maxL := 1) (ret := none) (by decide) rfl ?_
  intro p e s m args below meth c s₁ B hml hv
  obtain ⟨rfl, hsz, hP, hK, hD0⟩ := hv
  have hx := B.exec
  have hb := B.bytes
  have hr := B.returns
  have hT : ∀ w ∈ wsL_law, w.before ([.ref h0] : List Value).toArray s = true := fun w h => atoms_spec (ws := (Cond.code yX7_init cX7_init 1 none :: wsL_law)) B.pre w (List.mem_cons_of_mem _ h)
  have hown : s.vm.findClass RX7 = some m.cls := findClass_of_methodNamed B.named
  have hlocks := B.notSynchronized
  have hin : meth.name = "<init>" := (name_of_methodNamed B.named B.method).1
  subst hsz
  have hD := hD0.self (sz := s.heap.size)
  generalize hAe : va_A [(h0, .inr (7, [.int 0, .int 0, .null, .null, .null, .null, .null, .null, .int 0, .null, .null, .null, .int 0, .null, .int 0, .int 0, .null, .long 0, .int 0, .int 0, .int 0, .int 0, .null, .null, .null, .null, .null, .null, .null, .null, .long 0]))] s.heap.size = A at hD ⊢
  have hA : ∀ q : Nat, s.heap.size ≤ q → A q := fun q h => by rw [← hAe]; exact Or.inr h
  have hS : va_S A s.heap s.heap [] := va_S.rf
  have hl := lv_entry ([.ref h0]) (n := 1) (Nat.le_of_ble_eq_true rfl)
  rw [lg_entry_eq]
  generalize (lg_sl ([.ref h0]) ++ List.replicate (1 - (lg_sl ([.ref h0])).length) Slot.unset).toArray = ls at hl ⊢
  have hl : lv_has ls 1 [(0, .ref h0)] := hl
  refine lv_aload_n hx hb dX7_init_0 rfl (lv_at hl 0 rfl) ?_
  refine W.objInit hx hb hown (hT _ (tr_4 _ (List.mem_of_getElem? (i := 12) rfl))) (hT _ (tr_1 _ (List.mem_of_getElem? (i := 10) rfl))) (hT _ (tr_1 _ (List.mem_of_getElem? (i := 11) rfl))) rfl (by rw [hml]; exact hl.1) rfl dX7_init_1 (Nat.le_of_ble_eq_true rfl) (Nat.le_of_ble_eq_true rfl) ?_
  refine W.eq (g2 := F0 m 4 ls []) rfl ?_
  refine lv_aload_n hx hb dX7_init_4 rfl (lv_at hl 0 rfl) ?_
  refine lv_bipush (v := 70) hx hb dX7_init_5 (by decide) ?_
  refine nw_int hx hb (hT _ (tr_2 _ (List.mem_of_getElem? (i := 17) rfl))) hK hP hD hS hA (N' := 70) (by decide) (by decide) (by decide) (Nat.le_of_ble_eq_true rfl) (Nat.le_of_ble_eq_true rfl) dX7_init_7 (fun q4 H hP hD hS => ?_)
  have hP : va_P D vwCl ([(h0, .inr (7, [.int 0, .int 0, .null, .null, .null, .null, .null, .null, .int 0, .null, .null, .null, .int 0, .null, .int 0, .int 0, .null, .long 0, .int 0, .int 0, .int 0, .int 0, .null, .null, .null, .null, .null, .null, .null, .null, .long 0])), (q4, .inl (cy 1, 70, .inl (fun _ => 0)))]) H := hP
  have hD : va_D A ([(h0, .inr (7, [.int 0, .int 0, .null, .null, .null, .null, .null, .null, .int 0, .null, .null, .null, .int 0, .null, .int 0, .int 0, .null, .long 0, .int 0, .int 0, .int 0, .int 0, .null, .null, .null, .null, .null, .null, .null, .null, .long 0])), (q4, .inl (cy 1, 70, .inl (fun _ => 0)))]) := hD
  refine va_putF (D := D) (ci := 7) (v := .ref q4) (ty := .array .int) (C := RX7) (T := TX7) (N := 31) hx hb hT inlX7 tyX7 tyX7_ok nmX7 hown hK hP hD hS 0 rfl rfl 2 (by decide) (hT _ (tr_4 _ (List.mem_of_getElem? (i := 13) rfl))) (fun _ h9 => h9) rfl hin rfl (by decide +kernel) rfl rfl (Nat.le_of_ble_eq_true rfl) dX7_init_9 (fun H locs hP hD hS => ?_)
  have hP : va_P D vwCl ([(h0, .inr (7, [.int 0, .int 0, .ref q4, .null, .null, .null, .null, .null, .int 0, .null, .null, .null, .int 0, .null, .int 0, .int 0, .null, .long 0, .int 0, .int 0, .int 0, .int 0, .null, .null, .null, .null, .null, .null, .null, .null, .long 0])), (q4, .inl (cy 1, 70, .inl (fun _ => 0)))]) H := hP
  have hD : va_D A ([(h0, .inr (7, [.int 0, .int 0, .ref q4, .null, .null, .null, .null, .null, .int 0, .null, .null, .null, .int 0, .null, .int 0, .int 0, .null, .long 0, .int 0, .int 0, .int 0, .int 0, .null, .null, .null, .null, .null, .null, .null, .null, .long 0])), (q4, .inl (cy 1, 70, .inl (fun _ => 0)))]) := hD
  refine lv_aload_n hx hb dX7_init_12 rfl (lv_at hl 0 rfl) ?_
  refine lv_bipush (v := 70) hx hb dX7_init_13 (by decide) ?_
  refine nw_int hx hb (hT _ (tr_2 _ (List.mem_of_getElem? (i := 17) rfl))) hK hP hD hS hA (N' := 70) (by decide) (by decide) (by decide) (Nat.le_of_ble_eq_true rfl) (Nat.le_of_ble_eq_true rfl) dX7_init_15 (fun q12 H hP hD hS => ?_)
  have hP : va_P D vwCl ([(h0, .inr (7, [.int 0, .int 0, .ref q4, .null, .null, .null, .null, .null, .int 0, .null, .null, .null, .int 0, .null, .int 0, .int 0, .null, .long 0, .int 0, .int 0, .int 0, .int 0, .null, .null, .null, .null, .null, .null, .null, .null, .long 0])), (q4, .inl (cy 1, 70, .inl (fun _ => 0))), (q12, .inl (cy 1, 70, .inl (fun _ => 0)))]) H := hP
  have hD : va_D A ([(h0, .inr (7, [.int 0, .int 0, .ref q4, .null, .null, .null, .null, .null, .int 0, .null, .null, .null, .int 0, .null, .int 0, .int 0, .null, .long 0, .int 0, .int 0, .int 0, .int 0, .null, .null, .null, .null, .null, .null, .null, .null, .long 0])), (q4, .inl (cy 1, 70, .inl (fun _ => 0))), (q12, .inl (cy 1, 70, .inl (fun _ => 0)))]) := hD
  refine va_putF (D := D) (ci := 7) (v := .ref q12) (ty := .array .int) (C := RX7) (T := TX7) (N := 31) hx hb hT inlX7 tyX7 tyX7_ok nmX7 hown hK hP hD hS 0 rfl rfl 3 (by decide) (hT _ (tr_4 _ (List.mem_of_getElem? (i := 14) rfl))) (fun _ h9 => h9) rfl hin rfl (by decide +kernel) rfl rfl (Nat.le_of_ble_eq_true rfl) dX7_init_17 (fun H locs hP hD hS => ?_)
  have hP : va_P D vwCl ([(h0, .inr (7, [.int 0, .int 0, .ref q4, .ref q12, .null, .null, .null, .null, .int 0, .null, .null, .null, .int 0, .null, .int 0, .int 0, .null, .long 0, .int 0, .int 0, .int 0, .int 0, .null, .null, .null, .null, .null, .null, .null, .null, .long 0])), (q4, .inl (cy 1, 70, .inl (fun _ => 0))), (q12, .inl (cy 1, 70, .inl (fun _ => 0)))]) H := hP
  have hD : va_D A ([(h0, .inr (7, [.int 0, .int 0, .ref q4, .ref q12, .null, .null, .null, .null, .int 0, .null, .null, .null, .int 0, .null, .int 0, .int 0, .null, .long 0, .int 0, .int 0, .int 0, .int 0, .null, .null, .null, .null, .null, .null, .null, .null, .long 0])), (q4, .inl (cy 1, 70, .inl (fun _ => 0))), (q12, .inl (cy 1, 70, .inl (fun _ => 0)))]) := hD
  refine lv_aload_n hx hb dX7_init_20 rfl (lv_at hl 0 rfl) ?_
  refine lv_bipush (v := 70) hx hb dX7_init_21 (by decide) ?_
  refine nw_int hx hb (hT _ (tr_2 _ (List.mem_of_getElem? (i := 17) rfl))) hK hP hD hS hA (N' := 70) (by decide) (by decide) (by decide) (Nat.le_of_ble_eq_true rfl) (Nat.le_of_ble_eq_true rfl) dX7_init_23 (fun q20 H hP hD hS => ?_)
  have hP : va_P D vwCl ([(h0, .inr (7, [.int 0, .int 0, .ref q4, .ref q12, .null, .null, .null, .null, .int 0, .null, .null, .null, .int 0, .null, .int 0, .int 0, .null, .long 0, .int 0, .int 0, .int 0, .int 0, .null, .null, .null, .null, .null, .null, .null, .null, .long 0])), (q4, .inl (cy 1, 70, .inl (fun _ => 0))), (q12, .inl (cy 1, 70, .inl (fun _ => 0))), (q20, .inl (cy 1, 70, .inl (fun _ => 0)))]) H := hP
  have hD : va_D A ([(h0, .inr (7, [.int 0, .int 0, .ref q4, .ref q12, .null, .null, .null, .null, .int 0, .null, .null, .null, .int 0, .null, .int 0, .int 0, .null, .long 0, .int 0, .int 0, .int 0, .int 0, .null, .null, .null, .null, .null, .null, .null, .null, .long 0])), (q4, .inl (cy 1, 70, .inl (fun _ => 0))), (q12, .inl (cy 1, 70, .inl (fun _ => 0))), (q20, .inl (cy 1, 70, .inl (fun _ => 0)))]) := hD
  refine va_putF (D := D) (ci := 7) (v := .ref q20) (ty := .array .int) (C := RX7) (T := TX7) (N := 31) hx hb hT inlX7 tyX7 tyX7_ok nmX7 hown hK hP hD hS 0 rfl rfl 4 (by decide) (hT _ (tr_4 _ (List.mem_of_getElem? (i := 15) rfl))) (fun _ h9 => h9) rfl hin rfl (by decide +kernel) rfl rfl (Nat.le_of_ble_eq_true rfl) dX7_init_25 (fun H locs hP hD hS => ?_)
  have hP : va_P D vwCl ([(h0, .inr (7, [.int 0, .int 0, .ref q4, .ref q12, .ref q20, .null, .null, .null, .int 0, .null, .null, .null, .int 0, .null, .int 0, .int 0, .null, .long 0, .int 0, .int 0, .int 0, .int 0, .null, .null, .null, .null, .null, .null, .null, .null, .long 0])), (q4, .inl (cy 1, 70, .inl (fun _ => 0))), (q12, .inl (cy 1, 70, .inl (fun _ => 0))), (q20, .inl (cy 1, 70, .inl (fun _ => 0)))]) H := hP
  have hD : va_D A ([(h0, .inr (7, [.int 0, .int 0, .ref q4, .ref q12, .ref q20, .null, .null, .null, .int 0, .null, .null, .null, .int 0, .null, .int 0, .int 0, .null, .long 0, .int 0, .int 0, .int 0, .int 0, .null, .null, .null, .null, .null, .null, .null, .null, .long 0])), (q4, .inl (cy 1, 70, .inl (fun _ => 0))), (q12, .inl (cy 1, 70, .inl (fun _ => 0))), (q20, .inl (cy 1, 70, .inl (fun _ => 0)))]) := hD
  refine lv_aload_n hx hb dX7_init_28 rfl (lv_at hl 0 rfl) ?_
  refine lv_bipush (v := 70) hx hb dX7_init_29 (by decide) ?_
  refine nw_int hx hb (hT _ (tr_2 _ (List.mem_of_getElem? (i := 17) rfl))) hK hP hD hS hA (N' := 70) (by decide) (by decide) (by decide) (Nat.le_of_ble_eq_true rfl) (Nat.le_of_ble_eq_true rfl) dX7_init_31 (fun q28 H hP hD hS => ?_)
  have hP : va_P D vwCl ([(h0, .inr (7, [.int 0, .int 0, .ref q4, .ref q12, .ref q20, .null, .null, .null, .int 0, .null, .null, .null, .int 0, .null, .int 0, .int 0, .null, .long 0, .int 0, .int 0, .int 0, .int 0, .null, .null, .null, .null, .null, .null, .null, .null, .long 0])), (q4, .inl (cy 1, 70, .inl (fun _ => 0))), (q12, .inl (cy 1, 70, .inl (fun _ => 0))), (q20, .inl (cy 1, 70, .inl (fun _ => 0))), (q28, .inl (cy 1, 70, .inl (fun _ => 0)))]) H := hP
  have hD : va_D A ([(h0, .inr (7, [.int 0, .int 0, .ref q4, .ref q12, .ref q20, .null, .null, .null, .int 0, .null, .null, .null, .int 0, .null, .int 0, .int 0, .null, .long 0, .int 0, .int 0, .int 0, .int 0, .null, .null, .null, .null, .null, .null, .null, .null, .long 0])), (q4, .inl (cy 1, 70, .inl (fun _ => 0))), (q12, .inl (cy 1, 70, .inl (fun _ => 0))), (q20, .inl (cy 1, 70, .inl (fun _ => 0))), (q28, .inl (cy 1, 70, .inl (fun _ => 0)))]) := hD
  refine va_putF (D := D) (ci := 7) (v := .ref q28) (ty := .array .int) (C := RX7) (T := TX7) (N := 31) hx hb hT inlX7 tyX7 tyX7_ok nmX7 hown hK hP hD hS 0 rfl rfl 5 (by decide) (hT _ (tr_4 _ (List.mem_of_getElem? (i := 16) rfl))) (fun _ h9 => h9) rfl hin rfl (by decide +kernel) rfl rfl (Nat.le_of_ble_eq_true rfl) dX7_init_33 (fun H locs hP hD hS => ?_)
  have hP : va_P D vwCl ([(h0, .inr (7, [.int 0, .int 0, .ref q4, .ref q12, .ref q20, .ref q28, .null, .null, .int 0, .null, .null, .null, .int 0, .null, .int 0, .int 0, .null, .long 0, .int 0, .int 0, .int 0, .int 0, .null, .null, .null, .null, .null, .null, .null, .null, .long 0])), (q4, .inl (cy 1, 70, .inl (fun _ => 0))), (q12, .inl (cy 1, 70, .inl (fun _ => 0))), (q20, .inl (cy 1, 70, .inl (fun _ => 0))), (q28, .inl (cy 1, 70, .inl (fun _ => 0)))]) H := hP
  have hD : va_D A ([(h0, .inr (7, [.int 0, .int 0, .ref q4, .ref q12, .ref q20, .ref q28, .null, .null, .int 0, .null, .null, .null, .int 0, .null, .int 0, .int 0, .null, .long 0, .int 0, .int 0, .int 0, .int 0, .null, .null, .null, .null, .null, .null, .null, .null, .long 0])), (q4, .inl (cy 1, 70, .inl (fun _ => 0))), (q12, .inl (cy 1, 70, .inl (fun _ => 0))), (q20, .inl (cy 1, 70, .inl (fun _ => 0))), (q28, .inl (cy 1, 70, .inl (fun _ => 0)))]) := hD
  refine lv_aload_n hx hb dX7_init_36 rfl (lv_at hl 0 rfl) ?_
  refine lv_bipush (v := 70) hx hb dX7_init_37 (by decide) ?_
  refine nw_int hx hb (hT _ (tr_2 _ (List.mem_of_getElem? (i := 17) rfl))) hK hP hD hS hA (N' := 70) (by decide) (by decide) (by decide) (Nat.le_of_ble_eq_true rfl) (Nat.le_of_ble_eq_true rfl) dX7_init_39 (fun q36 H hP hD hS => ?_)
  have hP : va_P D vwCl ([(h0, .inr (7, [.int 0, .int 0, .ref q4, .ref q12, .ref q20, .ref q28, .null, .null, .int 0, .null, .null, .null, .int 0, .null, .int 0, .int 0, .null, .long 0, .int 0, .int 0, .int 0, .int 0, .null, .null, .null, .null, .null, .null, .null, .null, .long 0])), (q4, .inl (cy 1, 70, .inl (fun _ => 0))), (q12, .inl (cy 1, 70, .inl (fun _ => 0))), (q20, .inl (cy 1, 70, .inl (fun _ => 0))), (q28, .inl (cy 1, 70, .inl (fun _ => 0))), (q36, .inl (cy 1, 70, .inl (fun _ => 0)))]) H := hP
  have hD : va_D A ([(h0, .inr (7, [.int 0, .int 0, .ref q4, .ref q12, .ref q20, .ref q28, .null, .null, .int 0, .null, .null, .null, .int 0, .null, .int 0, .int 0, .null, .long 0, .int 0, .int 0, .int 0, .int 0, .null, .null, .null, .null, .null, .null, .null, .null, .long 0])), (q4, .inl (cy 1, 70, .inl (fun _ => 0))), (q12, .inl (cy 1, 70, .inl (fun _ => 0))), (q20, .inl (cy 1, 70, .inl (fun _ => 0))), (q28, .inl (cy 1, 70, .inl (fun _ => 0))), (q36, .inl (cy 1, 70, .inl (fun _ => 0)))]) := hD
  refine va_putF (D := D) (ci := 7) (v := .ref q36) (ty := .array .int) (C := RX7) (T := TX7) (N := 31) hx hb hT inlX7 tyX7 tyX7_ok nmX7 hown hK hP hD hS 0 rfl rfl 6 (by decide) (hT _ (tr_4 _ (List.mem_of_getElem? (i := 17) rfl))) (fun _ h9 => h9) rfl hin rfl (by decide +kernel) rfl rfl (Nat.le_of_ble_eq_true rfl) dX7_init_41 (fun H locs hP hD hS => ?_)
  have hP : va_P D vwCl ([(h0, .inr (7, [.int 0, .int 0, .ref q4, .ref q12, .ref q20, .ref q28, .ref q36, .null, .int 0, .null, .null, .null, .int 0, .null, .int 0, .int 0, .null, .long 0, .int 0, .int 0, .int 0, .int 0, .null, .null, .null, .null, .null, .null, .null, .null, .long 0])), (q4, .inl (cy 1, 70, .inl (fun _ => 0))), (q12, .inl (cy 1, 70, .inl (fun _ => 0))), (q20, .inl (cy 1, 70, .inl (fun _ => 0))), (q28, .inl (cy 1, 70, .inl (fun _ => 0))), (q36, .inl (cy 1, 70, .inl (fun _ => 0)))]) H := hP
  have hD : va_D A ([(h0, .inr (7, [.int 0, .int 0, .ref q4, .ref q12, .ref q20, .ref q28, .ref q36, .null, .int 0, .null, .null, .null, .int 0, .null, .int 0, .int 0, .null, .long 0, .int 0, .int 0, .int 0, .int 0, .null, .null, .null, .null, .null, .null, .null, .null, .long 0])), (q4, .inl (cy 1, 70, .inl (fun _ => 0))), (q12, .inl (cy 1, 70, .inl (fun _ => 0))), (q20, .inl (cy 1, 70, .inl (fun _ => 0))), (q28, .inl (cy 1, 70, .inl (fun _ => 0))), (q36, .inl (cy 1, 70, .inl (fun _ => 0)))]) := hD
  refine lv_aload_n hx hb dX7_init_44 rfl (lv_at hl 0 rfl) ?_
  refine lv_sipush (v := 128) hx hb dX7_init_45 (by decide) ?_
  refine nw_int hx hb (hT _ (tr_2 _ (List.mem_of_getElem? (i := 17) rfl))) hK hP hD hS hA (N' := 128) (by decide) (by decide) (by decide) (Nat.le_of_ble_eq_true rfl) (Nat.le_of_ble_eq_true rfl) dX7_init_48 (fun q44 H hP hD hS => ?_)
  have hP : va_P D vwCl ([(h0, .inr (7, [.int 0, .int 0, .ref q4, .ref q12, .ref q20, .ref q28, .ref q36, .null, .int 0, .null, .null, .null, .int 0, .null, .int 0, .int 0, .null, .long 0, .int 0, .int 0, .int 0, .int 0, .null, .null, .null, .null, .null, .null, .null, .null, .long 0])), (q4, .inl (cy 1, 70, .inl (fun _ => 0))), (q12, .inl (cy 1, 70, .inl (fun _ => 0))), (q20, .inl (cy 1, 70, .inl (fun _ => 0))), (q28, .inl (cy 1, 70, .inl (fun _ => 0))), (q36, .inl (cy 1, 70, .inl (fun _ => 0))), (q44, .inl (cy 1, 128, .inl (fun _ => 0)))]) H := hP
  have hD : va_D A ([(h0, .inr (7, [.int 0, .int 0, .ref q4, .ref q12, .ref q20, .ref q28, .ref q36, .null, .int 0, .null, .null, .null, .int 0, .null, .int 0, .int 0, .null, .long 0, .int 0, .int 0, .int 0, .int 0, .null, .null, .null, .null, .null, .null, .null, .null, .long 0])), (q4, .inl (cy 1, 70, .inl (fun _ => 0))), (q12, .inl (cy 1, 70, .inl (fun _ => 0))), (q20, .inl (cy 1, 70, .inl (fun _ => 0))), (q28, .inl (cy 1, 70, .inl (fun _ => 0))), (q36, .inl (cy 1, 70, .inl (fun _ => 0))), (q44, .inl (cy 1, 128, .inl (fun _ => 0)))]) := hD
  refine va_putF (D := D) (ci := 7) (v := .ref q44) (ty := .array .int) (C := RX7) (T := TX7) (N := 31) hx hb hT inlX7 tyX7 tyX7_ok nmX7 hown hK hP hD hS 0 rfl rfl 7 (by decide) (hT _ (tr_4 _ (List.mem_of_getElem? (i := 18) rfl))) (fun _ h9 => h9) rfl hin rfl (by decide +kernel) rfl rfl (Nat.le_of_ble_eq_true rfl) dX7_init_50 (fun H locs hP hD hS => ?_)
  have hP : va_P D vwCl ([(h0, .inr (7, [.int 0, .int 0, .ref q4, .ref q12, .ref q20, .ref q28, .ref q36, .ref q44, .int 0, .null, .null, .null, .int 0, .null, .int 0, .int 0, .null, .long 0, .int 0, .int 0, .int 0, .int 0, .null, .null, .null, .null, .null, .null, .null, .null, .long 0])), (q4, .inl (cy 1, 70, .inl (fun _ => 0))), (q12, .inl (cy 1, 70, .inl (fun _ => 0))), (q20, .inl (cy 1, 70, .inl (fun _ => 0))), (q28, .inl (cy 1, 70, .inl (fun _ => 0))), (q36, .inl (cy 1, 70, .inl (fun _ => 0))), (q44, .inl (cy 1, 128, .inl (fun _ => 0)))]) H := hP
  have hD : va_D A ([(h0, .inr (7, [.int 0, .int 0, .ref q4, .ref q12, .ref q20, .ref q28, .ref q36, .ref q44, .int 0, .null, .null, .null, .int 0, .null, .int 0, .int 0, .null, .long 0, .int 0, .int 0, .int 0, .int 0, .null, .null, .null, .null, .null, .null, .null, .null, .long 0])), (q4, .inl (cy 1, 70, .inl (fun _ => 0))), (q12, .inl (cy 1, 70, .inl (fun _ => 0))), (q20, .inl (cy 1, 70, .inl (fun _ => 0))), (q28, .inl (cy 1, 70, .inl (fun _ => 0))), (q36, .inl (cy 1, 70, .inl (fun _ => 0))), (q44, .inl (cy 1, 128, .inl (fun _ => 0)))]) := hD
  refine lv_aload_n hx hb dX7_init_53 rfl (lv_at hl 0 rfl) ?_
  refine lv_bipush (v := 6) hx hb dX7_init_54 (by decide) ?_
  refine nw_int hx hb (hT _ (tr_2 _ (List.mem_of_getElem? (i := 17) rfl))) hK hP hD hS hA (N' := 6) (by decide) (by decide) (by decide) (Nat.le_of_ble_eq_true rfl) (Nat.le_of_ble_eq_true rfl) dX7_init_56 (fun q53 H hP hD hS => ?_)
  have hP : va_P D vwCl ([(h0, .inr (7, [.int 0, .int 0, .ref q4, .ref q12, .ref q20, .ref q28, .ref q36, .ref q44, .int 0, .null, .null, .null, .int 0, .null, .int 0, .int 0, .null, .long 0, .int 0, .int 0, .int 0, .int 0, .null, .null, .null, .null, .null, .null, .null, .null, .long 0])), (q4, .inl (cy 1, 70, .inl (fun _ => 0))), (q12, .inl (cy 1, 70, .inl (fun _ => 0))), (q20, .inl (cy 1, 70, .inl (fun _ => 0))), (q28, .inl (cy 1, 70, .inl (fun _ => 0))), (q36, .inl (cy 1, 70, .inl (fun _ => 0))), (q44, .inl (cy 1, 128, .inl (fun _ => 0))), (q53, .inl (cy 1, 6, .inl (fun _ => 0)))]) H := hP
  have hD : va_D A ([(h0, .inr (7, [.int 0, .int 0, .ref q4, .ref q12, .ref q20, .ref q28, .ref q36, .ref q44, .int 0, .null, .null, .null, .int 0, .null, .int 0, .int 0, .null, .long 0, .int 0, .int 0, .int 0, .int 0, .null, .null, .null, .null, .null, .null, .null, .null, .long 0])), (q4, .inl (cy 1, 70, .inl (fun _ => 0))), (q12, .inl (cy 1, 70, .inl (fun _ => 0))), (q20, .inl (cy 1, 70, .inl (fun _ => 0))), (q28, .inl (cy 1, 70, .inl (fun _ => 0))), (q36, .inl (cy 1, 70, .inl (fun _ => 0))), (q44, .inl (cy 1, 128, .inl (fun _ => 0))), (q53, .inl (cy 1, 6, .inl (fun _ => 0)))]) := hD
  refine va_putF (D := D) (ci := 7) (v := .ref q53) (ty := .array .int) (C := RX7) (T := TX7) (N := 31) hx hb hT inlX7 tyX7 tyX7_ok nmX7 hown hK hP hD hS 0 rfl rfl 9 (by decide) (hT _ (tr_4 _ (List.mem_of_getElem? (i := 19) rfl))) (fun _ h9 => h9) rfl hin rfl (by decide +kernel) rfl rfl (Nat.le_of_ble_eq_true rfl) dX7_init_58 (fun H locs hP hD hS => ?_)
  have hP : va_P D vwCl ([(h0, .inr (7, [.int 0, .int 0, .ref q4, .ref q12, .ref q20, .ref q28, .ref q36, .ref q44, .int 0, .ref q53, .null, .null, .int 0, .null, .int 0, .int 0, .null, .long 0, .int 0, .int 0, .int 0, .int 0, .null, .null, .null, .null, .null, .null, .null, .null, .long 0])), (q4, .inl (cy 1, 70, .inl (fun _ => 0))), (q12, .inl (cy 1, 70, .inl (fun _ => 0))), (q20, .inl (cy 1, 70, .inl (fun _ => 0))), (q28, .inl (cy 1, 70, .inl (fun _ => 0))), (q36, .inl (cy 1, 70, .inl (fun _ => 0))), (q44, .inl (cy 1, 128, .inl (fun _ => 0))), (q53, .inl (cy 1, 6, .inl (fun _ => 0)))]) H := hP
  have hD : va_D A ([(h0, .inr (7, [.int 0, .int 0, .ref q4, .ref q12, .ref q20, .ref q28, .ref q36, .ref q44, .int 0, .ref q53, .null, .null, .int 0, .null, .int 0, .int 0, .null, .long 0, .int 0, .int 0, .int 0, .int 0, .null, .null, .null, .null, .null, .null, .null, .null, .long 0])), (q4, .inl (cy 1, 70, .inl (fun _ => 0))), (q12, .inl (cy 1, 70, .inl (fun _ => 0))), (q20, .inl (cy 1, 70, .inl (fun _ => 0))), (q28, .inl (cy 1, 70, .inl (fun _ => 0))), (q36, .inl (cy 1, 70, .inl (fun _ => 0))), (q44, .inl (cy 1, 128, .inl (fun _ => 0))), (q53, .inl (cy 1, 6, .inl (fun _ => 0)))]) := hD
  refine lv_aload_n hx hb dX7_init_61 rfl (lv_at hl 0 rfl) ?_
  refine lv_bipush (v := 6) hx hb dX7_init_62 (by decide) ?_
  refine nw_int hx hb (hT _ (tr_2 _ (List.mem_of_getElem? (i := 17) rfl))) hK hP hD hS hA (N' := 6) (by decide) (by decide) (by decide) (Nat.le_of_ble_eq_true rfl) (Nat.le_of_ble_eq_true rfl) dX7_init_64 (fun q61 H hP hD hS => ?_)
  have hP : va_P D vwCl ([(h0, .inr (7, [.int 0, .int 0, .ref q4, .ref q12, .ref q20, .ref q28, .ref q36, .ref q44, .int 0, .ref q53, .null, .null, .int 0, .null, .int 0, .int 0, .null, .long 0, .int 0, .int 0, .int 0, .int 0, .null, .null, .null, .null, .null, .null, .null, .null, .long 0])), (q4, .inl (cy 1, 70, .inl (fun _ => 0))), (q12, .inl (cy 1, 70, .inl (fun _ => 0))), (q20, .inl (cy 1, 70, .inl (fun _ => 0))), (q28, .inl (cy 1, 70, .inl (fun _ => 0))), (q36, .inl (cy 1, 70, .inl (fun _ => 0))), (q44, .inl (cy 1, 128, .inl (fun _ => 0))), (q53, .inl (cy 1, 6, .inl (fun _ => 0))), (q61, .inl (cy 1, 6, .inl (fun _ => 0)))]) H := hP
  have hD : va_D A ([(h0, .inr (7, [.int 0, .int 0, .ref q4, .ref q12, .ref q20, .ref q28, .ref q36, .ref q44, .int 0, .ref q53, .null, .null, .int 0, .null, .int 0, .int 0, .null, .long 0, .int 0, .int 0, .int 0, .int 0, .null, .null, .null, .null, .null, .null, .null, .null, .long 0])), (q4, .inl (cy 1, 70, .inl (fun _ => 0))), (q12, .inl (cy 1, 70, .inl (fun _ => 0))), (q20, .inl (cy 1, 70, .inl (fun _ => 0))), (q28, .inl (cy 1, 70, .inl (fun _ => 0))), (q36, .inl (cy 1, 70, .inl (fun _ => 0))), (q44, .inl (cy 1, 128, .inl (fun _ => 0))), (q53, .inl (cy 1, 6, .inl (fun _ => 0))), (q61, .inl (cy 1, 6, .inl (fun _ => 0)))]) := hD
  refine va_putF (D := D) (ci := 7) (v := .ref q61) (ty := .array .int) (C := RX7) (T := TX7) (N := 31) hx hb hT inlX7 tyX7 tyX7_ok nmX7 hown hK hP hD hS 0 rfl rfl 10 (by decide) (hT _ (tr_4 _ (List.mem_of_getElem? (i := 20) rfl))) (fun _ h9 => h9) rfl hin rfl (by decide +kernel) rfl rfl (Nat.le_of_ble_eq_true rfl) dX7_init_66 (fun H locs hP hD hS => ?_)
  have hP : va_P D vwCl ([(h0, .inr (7, [.int 0, .int 0, .ref q4, .ref q12, .ref q20, .ref q28, .ref q36, .ref q44, .int 0, .ref q53, .ref q61, .null, .int 0, .null, .int 0, .int 0, .null, .long 0, .int 0, .int 0, .int 0, .int 0, .null, .null, .null, .null, .null, .null, .null, .null, .long 0])), (q4, .inl (cy 1, 70, .inl (fun _ => 0))), (q12, .inl (cy 1, 70, .inl (fun _ => 0))), (q20, .inl (cy 1, 70, .inl (fun _ => 0))), (q28, .inl (cy 1, 70, .inl (fun _ => 0))), (q36, .inl (cy 1, 70, .inl (fun _ => 0))), (q44, .inl (cy 1, 128, .inl (fun _ => 0))), (q53, .inl (cy 1, 6, .inl (fun _ => 0))), (q61, .inl (cy 1, 6, .inl (fun _ => 0)))]) H := hP
  have hD : va_D A ([(h0, .inr (7, [.int 0, .int 0, .ref q4, .ref q12, .ref q20, .ref q28, .ref q36, .ref q44, .int 0, .ref q53, .ref q61, .null, .int 0, .null, .int 0, .int 0, .null, .long 0, .int 0, .int 0, .int 0, .int 0, .null, .null, .null, .null, .null, .null, .null, .null, .long 0])), (q4, .inl (cy 1, 70, .inl (fun _ => 0))), (q12, .inl (cy 1, 70, .inl (fun _ => 0))), (q20, .inl (cy 1, 70, .inl (fun _ => 0))), (q28, .inl (cy 1, 70, .inl (fun _ => 0))), (q36, .inl (cy 1, 70, .inl (fun _ => 0))), (q44, .inl (cy 1, 128, .inl (fun _ => 0))), (q53, .inl (cy 1, 6, .inl (fun _ => 0))), (q61, .inl (cy 1, 6, .inl (fun _ => 0)))]) := hD
  refine lv_aload_n hx hb dX7_init_69 rfl (lv_at hl 0 rfl) ?_
  refine lv_bipush (v := 6) hx hb dX7_init_70 (by decide) ?_
  refine nw_int hx hb (hT _ (tr_2 _ (List.mem_of_getElem? (i := 17) rfl))) hK hP hD hS hA (N' := 6) (by decide) (by decide) (by decide) (Nat.le_of_ble_eq_true rfl) (Nat.le_of_ble_eq_true rfl) dX7_init_72 (fun q69 H hP hD hS => ?_)
  have hP : va_P D vwCl ([(h0, .inr (7, [.int 0, .int 0, .ref q4, .ref q12, .ref q20, .ref q28, .ref q36, .ref q44, .int 0, .ref q53, .ref q61, .null, .int 0, .null, .int 0, .int 0, .null, .long 0, .int 0, .int 0, .int 0, .int 0, .null, .null, .null, .null, .null, .null, .null, .null, .long 0])), (q4, .inl (cy 1, 70, .inl (fun _ => 0))), (q12, .inl (cy 1, 70, .inl (fun _ => 0))), (q20, .inl (cy 1, 70, .inl (fun _ => 0))), (q28, .inl (cy 1, 70, .inl (fun _ => 0))), (q36, .inl (cy 1, 70, .inl (fun _ => 0))), (q44, .inl (cy 1, 128, .inl (fun _ => 0))), (q53, .inl (cy 1, 6, .inl (fun _ => 0))), (q61, .inl (cy 1, 6, .inl (fun _ => 0))), (q69, .inl (cy 1, 6, .inl (fun _ => 0)))]) H := hP
  have hD : va_D A ([(h0, .inr (7, [.int 0, .int 0, .ref q4, .ref q12, .ref q20, .ref q28, .ref q36, .ref q44, .int 0, .ref q53, .ref q61, .null, .int 0, .null, .int 0, .int 0, .null, .long 0, .int 0, .int 0, .int 0, .int 0, .null, .null, .null, .null, .null, .null, .null, .null, .long 0])), (q4, .inl (cy 1, 70, .inl (fun _ => 0))), (q12, .inl (cy 1, 70, .inl (fun _ => 0))), (q20, .inl (cy 1, 70, .inl (fun _ => 0))), (q28, .inl (cy 1, 70, .inl (fun _ => 0))), (q36, .inl (cy 1, 70, .inl (fun _ => 0))), (q44, .inl (cy 1, 128, .inl (fun _ => 0))), (q53, .inl (cy 1, 6, .inl (fun _ => 0))), (q61, .inl (cy 1, 6, .inl (fun _ => 0))), (q69, .inl (cy 1, 6, .inl (fun _ => 0)))]) := hD
  refine va_putF (D := D) (ci := 7) (v := .ref q69) (ty := .array .int) (C := RX7) (T := TX7) (N := 31) hx hb hT inlX7 tyX7 tyX7_ok nmX7 hown hK hP hD hS 0 rfl rfl 11 (by decide) (hT _ (tr_4 _ (List.mem_of_getElem? (i := 21) rfl))) (fun _ h9 => h9) rfl hin rfl (by decide +kernel) rfl rfl (Nat.le_of_ble_eq_true rfl) dX7_init_74 (fun H locs hP hD hS => ?_)
  have hP : va_P D vwCl ([(h0, .inr (7, [.int 0, .int 0, .ref q4, .ref q12, .ref q20, .ref q28, .ref q36, .ref q44, .int 0, .ref q53, .ref q61, .ref q69, .int 0, .null, .int 0, .int 0, .null, .long 0, .int 0, .int 0, .int 0, .int 0, .null, .null, .null, .null, .null, .null, .null, .null, .long 0])), (q4, .inl (cy 1, 70, .inl (fun _ => 0))), (q12, .inl (cy 1, 70, .inl (fun _ => 0))), (q20, .inl (cy 1, 70, .inl (fun _ => 0))), (q28, .inl (cy 1, 70, .inl (fun _ => 0))), (q36, .inl (cy 1, 70, .inl (fun _ => 0))), (q44, .inl (cy 1, 128, .inl (fun _ => 0))), (q53, .inl (cy 1, 6, .inl (fun _ => 0))), (q61, .inl (cy 1, 6, .inl (fun _ => 0))), (q69, .inl (cy 1, 6, .inl (fun _ => 0)))]) H := hP
  have hD : va_D A ([(h0, .inr (7, [.int 0, .int 0, .ref q4, .ref q12, .ref q20, .ref q28, .ref q36, .ref q44, .int 0, .ref q53, .ref q61, .ref q69, .int 0, .null, .int 0, .int 0, .null, .long 0, .int 0, .int 0, .int 0, .int 0, .null, .null, .null, .null, .null, .null, .null, .null, .long 0])), (q4, .inl (cy 1, 70, .inl (fun _ => 0))), (q12, .inl (cy 1, 70, .inl (fun _ => 0))), (q20, .inl (cy 1, 70, .inl (fun _ => 0))), (q28, .inl (cy 1, 70, .inl (fun _ => 0))), (q36, .inl (cy 1, 70, .inl (fun _ => 0))), (q44, .inl (cy 1, 128, .inl (fun _ => 0))), (q53, .inl (cy 1, 6, .inl (fun _ => 0))), (q61, .inl (cy 1, 6, .inl (fun _ => 0))), (q69, .inl (cy 1, 6, .inl (fun _ => 0)))]) := hD
  refine lv_aload_n hx hb dX7_init_77 rfl (lv_at hl 0 rfl) ?_
  refine lv_bipush (v := 50) hx hb dX7_init_78 (by decide) ?_
  refine nw_byte hx hb (hT _ (tr_4 _ (List.mem_of_getElem? (i := 22) rfl))) hK hP hD hS hA (N' := 50) (by decide) (by decide) (by decide) (Nat.le_of_ble_eq_true rfl) (Nat.le_of_ble_eq_true rfl) dX7_init_80 (fun q77 H hP hD hS => ?_)
  have hP : va_P D vwCl ([(h0, .inr (7, [.int 0, .int 0, .ref q4, .ref q12, .ref q20, .ref q28, .ref q36, .ref q44, .int 0, .ref q53, .ref q61, .ref q69, .int 0, .null, .int 0, .int 0, .null, .long 0, .int 0, .int 0, .int 0, .int 0, .null, .null, .null, .null, .null, .null, .null, .null, .long 0])), (q4, .inl (cy 1, 70, .inl (fun _ => 0))), (q12, .inl (cy 1, 70, .inl (fun _ => 0))), (q20, .inl (cy 1, 70, .inl (fun _ => 0))), (q28, .inl (cy 1, 70, .inl (fun _ => 0))), (q36, .inl (cy 1, 70, .inl (fun _ => 0))), (q44, .inl (cy 1, 128, .inl (fun _ => 0))), (q53, .inl (cy 1, 6, .inl (fun _ => 0))), (q61, .inl (cy 1, 6, .inl (fun _ => 0))), (q69, .inl (cy 1, 6, .inl (fun _ => 0))), (q77, .inl (cy 0, 50, .inl (fun _ => 0)))]) H := hP
  have hD : va_D A ([(h0, .inr (7, [.int 0, .int 0, .ref q4, .ref q12, .ref q20, .ref q28, .ref q36, .ref q44, .int 0, .ref q53, .ref q61, .ref q69, .int 0, .null, .int 0, .int 0, .null, .long 0, .int 0, .int 0, .int 0, .int 0, .null, .null, .null, .null, .null, .null, .null, .null, .long 0])), (q4, .inl (cy 1, 70, .inl (fun _ => 0))), (q12, .inl (cy 1, 70, .inl (fun _ => 0))), (q20, .inl (cy 1, 70, .inl (fun _ => 0))), (q28, .inl (cy 1, 70, .inl (fun _ => 0))), (q36, .inl (cy 1, 70, .inl (fun _ => 0))), (q44, .inl (cy 1, 128, .inl (fun _ => 0))), (q53, .inl (cy 1, 6, .inl (fun _ => 0))), (q61, .inl (cy 1, 6, .inl (fun _ => 0))), (q69, .inl (cy 1, 6, .inl (fun _ => 0))), (q77, .inl (cy 0, 50, .inl (fun _ => 0)))]) := hD
  refine va_putF (D := D) (ci := 7) (v := .ref q77) (ty := .array .byte) (C := RX7) (T := TX7) (N := 31) hx hb hT inlX7 tyX7 tyX7_ok nmX7 hown hK hP hD hS 0 rfl rfl 13 (by decide) (hT _ (tr_4 _ (List.mem_of_getElem? (i := 23) rfl))) (fun _ h9 => h9) rfl hin rfl (by decide +kernel) rfl rfl (Nat.le_of_ble_eq_true rfl) dX7_init_82 (fun H locs hP hD hS => ?_)
  have hP : va_P D vwCl ([(h0, .inr (7, [.int 0, .int 0, .ref q4, .ref q12, .ref q20, .ref q28, .ref q36, .ref q44, .int 0, .ref q53, .ref q61, .ref q69, .int 0, .ref q77, .int 0, .int 0, .null, .long 0, .int 0, .int 0, .int 0, .int 0, .null, .null, .null, .null, .null, .null, .null, .null, .long 0])), (q4, .inl (cy 1, 70, .inl (fun _ => 0))), (q12, .inl (cy 1, 70, .inl (fun _ => 0))), (q20, .inl (cy 1, 70, .inl (fun _ => 0))), (q28, .inl (cy 1, 70, .inl (fun _ => 0))), (q36, .inl (cy 1, 70, .inl (fun _ => 0))), (q44, .inl (cy 1, 128, .inl (fun _ => 0))), (q53, .inl (cy 1, 6, .inl (fun _ => 0))), (q61, .inl (cy 1, 6, .inl (fun _ => 0))), (q69, .inl (cy 1, 6, .inl (fun _ => 0))), (q77, .inl (cy 0, 50, .inl (fun _ => 0)))]) H := hP
  have hD : va_D A ([(h0, .inr (7, [.int 0, .int 0, .ref q4, .ref q12, .ref q20, .ref q28, .ref q36, .ref q44, .int 0, .ref q53, .ref q61, .ref q69, .int 0, .ref q77, .int 0, .int 0, .null, .long 0, .int 0, .int 0, .int 0, .int 0, .null, .null, .null, .null, .null, .null, .null, .null, .long 0])), (q4, .inl (cy 1, 70, .inl (fun _ => 0))), (q12, .inl (cy 1, 70, .inl (fun _ => 0))), (q20, .inl (cy 1, 70, .inl (fun _ => 0))), (q28, .inl (cy 1, 70, .inl (fun _ => 0))), (q36, .inl (cy 1, 70, .inl (fun _ => 0))), (q44, .inl (cy 1, 128, .inl (fun _ => 0))), (q53, .inl (cy 1, 6, .inl (fun _ => 0))), (q61, .inl (cy 1, 6, .inl (fun _ => 0))), (q69, .inl (cy 1, 6, .inl (fun _ => 0))), (q77, .inl (cy 0, 50, .inl (fun _ => 0)))]) := hD
  refine lv_aload_n hx hb dX7_init_85 rfl (lv_at hl 0 rfl) ?_
  refine lv_sipush (v := 128) hx hb dX7_init_86 (by decide) ?_
  refine nw_int hx hb (hT _ (tr_2 _ (List.mem_of_getElem? (i := 17) rfl))) hK hP hD hS hA (N' := 128) (by decide) (by decide) (by decide) (Nat.le_of_ble_eq_true rfl) (Nat.le_of_ble_eq_true rfl) dX7_init_89 (fun q85 H hP hD hS => ?_)
  have hP : va_P D vwCl ([(h0, .inr (7, [.int 0, .int 0, .ref q4, .ref q12, .ref q20, .ref q28, .ref q36, .ref q44, .int 0, .ref q53, .ref q61, .ref q69, .int 0, .ref q77, .int 0, .int 0, .null, .long 0, .int 0, .int 0, .int 0, .int 0, .null, .null, .null, .null, .null, .null, .null, .null, .long 0])), (q4, .inl (cy 1, 70, .inl (fun _ => 0))), (q12, .inl (cy 1, 70, .inl (fun _ => 0))), (q20, .inl (cy 1, 70, .inl (fun _ => 0))), (q28, .inl (cy 1, 70, .inl (fun _ => 0))), (q36, .inl (cy 1, 70, .inl (fun _ => 0))), (q44, .inl (cy 1, 128, .inl (fun _ => 0))), (q53, .inl (cy 1, 6, .inl (fun _ => 0))), (q61, .inl (cy 1, 6, .inl (fun _ => 0))), (q69, .inl (cy 1, 6, .inl (fun _ => 0))), (q77, .inl (cy 0, 50, .inl (fun _ => 0))), (q85, .inl (cy 1, 128, .inl (fun _ => 0)))]) H := hP
  have hD : va_D A ([(h0, .inr (7, [.int 0, .int 0, .ref q4, .ref q12, .ref q20, .ref q28, .ref q36, .ref q44, .int 0, .ref q53, .ref q61, .ref q69, .int 0, .ref q77, .int 0, .int 0, .null, .long 0, .int 0, .int 0, .int 0, .int 0, .null, .null, .null, .null, .null, .null, .null, .null, .long 0])), (q4, .inl (cy 1, 70, .inl (fun _ => 0))), (q12, .inl (cy 1, 70, .inl (fun _ => 0))), (q20, .inl (cy 1, 70, .inl (fun _ => 0))), (q28, .inl (cy 1, 70, .inl (fun _ => 0))), (q36, .inl (cy 1, 70, .inl (fun _ => 0))), (q44, .inl (cy 1, 128, .inl (fun _ => 0))), (q53, .inl (cy 1, 6, .inl (fun _ => 0))), (q61, .inl (cy 1, 6, .inl (fun _ => 0))), (q69, .inl (cy 1, 6, .inl (fun _ => 0))), (q77, .inl (cy 0, 50, .inl (fun _ => 0))), (q85, .inl (cy 1, 128, .inl (fun _ => 0)))]) := hD
  refine va_putF (D := D) (ci := 7) (v := .ref q85) (ty := .array .int) (C := RX7) (T := TX7) (N := 31) hx hb hT inlX7 tyX7 tyX7_ok nmX7 hown hK hP hD hS 0 rfl rfl 16 (by decide) (hT _ (tr_5 _ (List.mem_of_getElem? (i := 0) rfl))) (fun _ h9 => h9) rfl hin rfl (by decide +kernel) rfl rfl (Nat.le_of_ble_eq_true rfl) dX7_init_91 (fun H locs hP hD hS => ?_)
  have hP : va_P D vwCl ([(h0, .inr (7, [.int 0, .int 0, .ref q4, .ref q12, .ref q20, .ref q28, .ref q36, .ref q44, .int 0, .ref q53, .ref q61, .ref q69, .int 0, .ref q77, .int 0, .int 0, .ref q85, .long 0, .int 0, .int 0, .int 0, .int 0, .null, .null, .null, .null, .null, .null, .null, .null, .long 0])), (q4, .inl (cy 1, 70, .inl (fun _ => 0))), (q12, .inl (cy 1, 70, .inl (fun _ => 0))), (q20, .inl (cy 1, 70, .inl (fun _ => 0))), (q28, .inl (cy 1, 70, .inl (fun _ => 0))), (q36, .inl (cy 1, 70, .inl (fun _ => 0))), (q44, .inl (cy 1, 128, .inl (fun _ => 0))), (q53, .inl (cy 1, 6, .inl (fun _ => 0))), (q61, .inl (cy 1, 6, .inl (fun _ => 0))), (q69, .inl (cy 1, 6, .inl (fun _ => 0))), (q77, .inl (cy 0, 50, .inl (fun _ => 0))), (q85, .inl (cy 1, 128, .inl (fun _ => 0)))]) H := hP
  have hD : va_D A ([(h0, .inr (7, [.int 0, .int 0, .ref q4, .ref q12, .ref q20, .ref q28, .ref q36, .ref q44, .int 0, .ref q53, .ref q61, .ref q69, .int 0, .ref q77, .int 0, .int 0, .ref q85, .long 0, .int 0, .int 0, .int 0, .int 0, .null, .null, .null, .null, .null, .null, .null, .null, .long 0])), (q4, .inl (cy 1, 70, .inl (fun _ => 0))), (q12, .inl (cy 1, 70, .inl (fun _ => 0))), (q20, .inl (cy 1, 70, .inl (fun _ => 0))), (q28, .inl (cy 1, 70, .inl (fun _ => 0))), (q36, .inl (cy 1, 70, .inl (fun _ => 0))), (q44, .inl (cy 1, 128, .inl (fun _ => 0))), (q53, .inl (cy 1, 6, .inl (fun _ => 0))), (q61, .inl (cy 1, 6, .inl (fun _ => 0))), (q69, .inl (cy 1, 6, .inl (fun _ => 0))), (q77, .inl (cy 0, 50, .inl (fun _ => 0))), (q85, .inl (cy 1, 128, .inl (fun _ => 0)))]) := hD
  refine lv_aload_n hx hb dX7_init_94 rfl (lv_at hl 0 rfl) ?_
  refine lv_bipush (v := 40) hx hb dX7_init_95 (by decide) ?_
  refine nw_int hx hb (hT _ (tr_2 _ (List.mem_of_getElem? (i := 17) rfl))) hK hP hD hS hA (N' := 40) (by decide) (by decide) (by decide) (Nat.le_of_ble_eq_true rfl) (Nat.le_of_ble_eq_true rfl) dX7_init_97 (fun q94 H hP hD hS => ?_)
  have hP : va_P D vwCl ([(h0, .inr (7, [.int 0, .int 0, .ref q4, .ref q12, .ref q20, .ref q28, .ref q36, .ref q44, .int 0, .ref q53, .ref q61, .ref q69, .int 0, .ref q77, .int 0, .int 0, .ref q85, .long 0, .int 0, .int 0, .int 0, .int 0, .null, .null, .null, .null, .null, .null, .null, .null, .long 0])), (q4, .inl (cy 1, 70, .inl (fun _ => 0))), (q12, .inl (cy 1, 70, .inl (fun _ => 0))), (q20, .inl (cy 1, 70, .inl (fun _ => 0))), (q28, .inl (cy 1, 70, .inl (fun _ => 0))), (q36, .inl (cy 1, 70, .inl (fun _ => 0))), (q44, .inl (cy 1, 128, .inl (fun _ => 0))), (q53, .inl (cy 1, 6, .inl (fun _ => 0))), (q61, .inl (cy 1, 6, .inl (fun _ => 0))), (q69, .inl (cy 1, 6, .inl (fun _ => 0))), (q77, .inl (cy 0, 50, .inl (fun _ => 0))), (q85, .inl (cy 1, 128, .inl (fun _ => 0))), (q94, .inl (cy 1, 40, .inl (fun _ => 0)))]) H := hP
  have hD : va_D A ([(h0, .inr (7, [.int 0, .int 0, .ref q4, .ref q12, .ref q20, .ref q28, .ref q36, .ref q44, .int 0, .ref q53, .ref q61, .ref q69, .int 0, .ref q77, .int 0, .int 0, .ref q85, .long 0, .int 0, .int 0, .int 0, .int 0, .null, .null, .null, .null, .null, .null, .null, .null, .long 0])), (q4, .inl (cy 1, 70, .inl (fun _ => 0))), (q12, .inl (cy 1, 70, .inl (fun _ => 0))), (q20, .inl (cy 1, 70, .inl (fun _ => 0))), (q28, .inl (cy 1, 70, .inl (fun _ => 0))), (q36, .inl (cy 1, 70, .inl (fun _ => 0))), (q44, .inl (cy 1, 128, .inl (fun _ => 0))), (q53, .inl (cy 1, 6, .inl (fun _ => 0))), (q61, .inl (cy 1, 6, .inl (fun _ => 0))), (q69, .inl (cy 1, 6, .inl (fun _ => 0))), (q77, .inl (cy 0, 50, .inl (fun _ => 0))), (q85, .inl (cy 1, 128, .inl (fun _ => 0))), (q94, .inl (cy 1, 40, .inl (fun _ => 0)))]) := hD
  refine va_putF (D := D) (ci := 7) (v := .ref q94) (ty := .array .int) (C := RX7) (T := TX7) (N := 31) hx hb hT inlX7 tyX7 tyX7_ok nmX7 hown hK hP hD hS 0 rfl rfl 22 (by decide) (hT _ (tr_5 _ (List.mem_of_getElem? (i := 1) rfl))) (fun _ h9 => h9) rfl hin rfl (by decide +kernel) rfl rfl (Nat.le_of_ble_eq_true rfl) dX7_init_99 (fun H locs hP hD hS => ?_)
  have hP : va_P D vwCl ([(h0, .inr (7, [.int 0, .int 0, .ref q4, .ref q12, .ref q20, .ref q28, .ref q36, .ref q44, .int 0, .ref q53, .ref q61, .ref q69, .int 0, .ref q77, .int 0, .int 0, .ref q85, .long 0, .int 0, .int 0, .int 0, .int 0, .ref q94, .null, .null, .null, .null, .null, .null, .null, .long 0])), (q4, .inl (cy 1, 70, .inl (fun _ => 0))), (q12, .inl (cy 1, 70, .inl (fun _ => 0))), (q20, .inl (cy 1, 70, .inl (fun _ => 0))), (q28, .inl (cy 1, 70, .inl (fun _ => 0))), (q36, .inl (cy 1, 70, .inl (fun _ => 0))), (q44, .inl (cy 1, 128, .inl (fun _ => 0))), (q53, .inl (cy 1, 6, .inl (fun _ => 0))), (q61, .inl (cy 1, 6, .inl (fun _ => 0))), (q69, .inl (cy 1, 6, .inl (fun _ => 0))), (q77, .inl (cy 0, 50, .inl (fun _ => 0))), (q85, .inl (cy 1, 128, .inl (fun _ => 0))), (q94, .inl (cy 1, 40, .inl (fun _ => 0)))]) H := hP
  have hD : va_D A ([(h0, .inr (7, [.int 0, .int 0, .ref q4, .ref q12, .ref q20, .ref q28, .ref q36, .ref q44, .int 0, .ref q53, .ref q61, .ref q69, .int 0, .ref q77, .int 0, .int 0, .ref q85, .long 0, .int 0, .int 0, .int 0, .int 0, .ref q94, .null, .null, .null, .null, .null, .null, .null, .long 0])), (q4, .inl (cy 1, 70, .inl (fun _ => 0))), (q12, .inl (cy 1, 70, .inl (fun _ => 0))), (q20, .inl (cy 1, 70, .inl (fun _ => 0))), (q28, .inl (cy 1, 70, .inl (fun _ => 0))), (q36, .inl (cy 1, 70, .inl (fun _ => 0))), (q44, .inl (cy 1, 128, .inl (fun _ => 0))), (q53, .inl (cy 1, 6, .inl (fun _ => 0))), (q61, .inl (cy 1, 6, .inl (fun _ => 0))), (q69, .inl (cy 1, 6, .inl (fun _ => 0))), (q77, .inl (cy 0, 50, .inl (fun _ => 0))), (q85, .inl (cy 1, 128, .inl (fun _ => 0))), (q94, .inl (cy 1, 40, .inl (fun _ => 0)))]) := hD
  refine lv_aload_n hx hb dX7_init_102 rfl (lv_at hl 0 rfl) ?_
  refine lv_bipush (v := 40) hx hb dX7_init_103 (by decide) ?_
  refine nw_int hx hb (hT _ (tr_2 _ (List.mem_of_getElem? (i := 17) rfl))) hK hP hD hS hA (N' := 40) (by decide) (by decide) (by decide) (Nat.le_of_ble_eq_true rfl) (Nat.le_of_ble_eq_true rfl) dX7_init_105 (fun q102 H hP hD hS => ?_)
  have hP : va_P D vwCl ([(h0, .inr (7, [.int 0, .int 0, .ref q4, .ref q12, .ref q20, .ref q28, .ref q36, .ref q44, .int 0, .ref q53, .ref q61, .ref q69, .int 0, .ref q77, .int 0, .int 0, .ref q85, .long 0, .int 0, .int 0, .int 0, .int 0, .ref q94, .null, .null, .null, .null, .null, .null, .null, .long 0])), (q4, .inl (cy 1, 70, .inl (fun _ => 0))), (q12, .inl (cy 1, 70, .inl (fun _ => 0))), (q20, .inl (cy 1, 70, .inl (fun _ => 0))), (q28, .inl (cy 1, 70, .inl (fun _ => 0))), (q36, .inl (cy 1, 70, .inl (fun _ => 0))), (q44, .inl (cy 1, 128, .inl (fun _ => 0))), (q53, .inl (cy 1, 6, .inl (fun _ => 0))), (q61, .inl (cy 1, 6, .inl (fun _ => 0))), (q69, .inl (cy 1, 6, .inl (fun _ => 0))), (q77, .inl (cy 0, 50, .inl (fun _ => 0))), (q85, .inl (cy 1, 128, .inl (fun _ => 0))), (q94, .inl (cy 1, 40, .inl (fun _ => 0))), (q102, .inl (cy 1, 40, .inl (fun _ => 0)))]) H := hP
  have hD : va_D A ([(h0, .inr (7, [.int 0, .int 0, .ref q4, .ref q12, .ref q20, .ref q28, .ref q36, .ref q44, .int 0, .ref q53, .ref q61, .ref q69, .int 0, .ref q77, .int 0, .int 0, .ref q85, .long 0, .int 0, .int 0, .int 0, .int 0, .ref q94, .null, .null, .null, .null, .null, .null, .null, .long 0])), (q4, .inl (cy 1, 70, .inl (fun _ => 0))), (q12, .inl (cy 1, 70, .inl (fun _ => 0))), (q20, .inl (cy 1, 70, .inl (fun _ => 0))), (q28, .inl (cy 1, 70, .inl (fun _ => 0))), (q36, .inl (cy 1, 70, .inl (fun _ => 0))), (q44, .inl (cy 1, 128, .inl (fun _ => 0))), (q53, .inl (cy 1, 6, .inl (fun _ => 0))), (q61, .inl (cy 1, 6, .inl (fun _ => 0))), (q69, .inl (cy 1, 6, .inl (fun _ => 0))), (q77, .inl (cy 0, 50, .inl (fun _ => 0))), (q85, .inl (cy 1, 128, .inl (fun _ => 0))), (q94, .inl (cy 1, 40, .inl (fun _ => 0))), (q102, .inl (cy 1, 40, .inl (fun _ => 0)))]) := hD
  refine va_putF (D := D) (ci := 7) (v := .ref q102) (ty := .array .int) (C := RX7) (T := TX7) (N := 31) hx hb hT inlX7 tyX7 tyX7_ok nmX7 hown hK hP hD hS 0 rfl rfl 23 (by decide) (hT _ (tr_5 _ (List.mem_of_getElem? (i := 2) rfl))) (fun _ h9 => h9) rfl hin rfl (by decide +kernel) rfl rfl (Nat.le_of_ble_eq_true rfl) dX7_init_107 (fun H locs hP hD hS => ?_)
  have hP : va_P D vwCl ([(h0, .inr (7, [.int 0, .int 0, .ref q4, .ref q12, .ref q20, .ref q28, .ref q36, .ref q44, .int 0, .ref q53, .ref q61, .ref q69, .int 0, .ref q77, .int 0, .int 0, .ref q85, .long 0, .int 0, .int 0, .int 0, .int 0, .ref q94, .ref q102, .null, .null, .null, .null, .null, .null, .long 0])), (q4, .inl (cy 1, 70, .inl (fun _ => 0))), (q12, .inl (cy 1, 70, .inl (fun _ => 0))), (q20, .inl (cy 1, 70, .inl (fun _ => 0))), (q28, .inl (cy 1, 70, .inl (fun _ => 0))), (q36, .inl (cy 1, 70, .inl (fun _ => 0))), (q44, .inl (cy 1, 128, .inl (fun _ => 0))), (q53, .inl (cy 1, 6, .inl (fun _ => 0))), (q61, .inl (cy 1, 6, .inl (fun _ => 0))), (q69, .inl (cy 1, 6, .inl (fun _ => 0))), (q77, .inl (cy 0, 50, .inl (fun _ => 0))), (q85, .inl (cy 1, 128, .inl (fun _ => 0))), (q94, .inl (cy 1, 40, .inl (fun _ => 0))), (q102, .inl (cy 1, 40, .inl (fun _ => 0)))]) H := hP
  have hD : va_D A ([(h0, .inr (7, [.int 0, .int 0, .ref q4, .ref q12, .ref q20, .ref q28, .ref q36, .ref q44, .int 0, .ref q53, .ref q61, .ref q69, .int 0, .ref q77, .int 0, .int 0, .ref q85, .long 0, .int 0, .int 0, .int 0, .int 0, .ref q94, .ref q102, .null, .null, .null, .null, .null, .null, .long 0])), (q4, .inl (cy 1, 70, .inl (fun _ => 0))), (q12, .inl (cy 1, 70, .inl (fun _ => 0))), (q20, .inl (cy 1, 70, .inl (fun _ => 0))), (q28, .inl (cy 1, 70, .inl (fun _ => 0))), (q36, .inl (cy 1, 70, .inl (fun _ => 0))), (q44, .inl (cy 1, 128, .inl (fun _ => 0))), (q53, .inl (cy 1, 6, .inl (fun _ => 0))), (q61, .inl (cy 1, 6, .inl (fun _ => 0))), (q69, .inl (cy 1, 6, .inl (fun _ => 0))), (q77, .inl (cy 0, 50, .inl (fun _ => 0))), (q85, .inl (cy 1, 128, .inl (fun _ => 0))), (q94, .inl (cy 1, 40, .inl (fun _ => 0))), (q102, .inl (cy 1, 40, .inl (fun _ => 0)))]) := hD
  refine lv_aload_n hx hb dX7_init_110 rfl (lv_at hl 0 rfl) ?_
  refine lv_bipush (v := 40) hx hb dX7_init_111 (by decide) ?_
  refine nw_int hx hb (hT _ (tr_2 _ (List.mem_of_getElem? (i := 17) rfl))) hK hP hD hS hA (N' := 40) (by decide) (by decide) (by decide) (Nat.le_of_ble_eq_true rfl) (Nat.le_of_ble_eq_true rfl) dX7_init_113 (fun q110 H hP hD hS => ?_)
  have hP : va_P D vwCl ([(h0, .inr (7, [.int 0, .int 0, .ref q4, .ref q12, .ref q20, .ref q28, .ref q36, .ref q44, .int 0, .ref q53, .ref q61, .ref q69, .int 0, .ref q77, .int 0, .int 0, .ref q85, .long 0, .int 0, .int 0, .int 0, .int 0, .ref q94, .ref q102, .null, .null, .null, .null, .null, .null, .long 0])), (q4, .inl (cy 1, 70, .inl (fun _ => 0))), (q12, .inl (cy 1, 70, .inl (fun _ => 0))), (q20, .inl (cy 1, 70, .inl (fun _ => 0))), (q28, .inl (cy 1, 70, .inl (fun _ => 0))), (q36, .inl (cy 1, 70, .inl (fun _ => 0))), (q44, .inl (cy 1, 128, .inl (fun _ => 0))), (q53, .inl (cy 1, 6, .inl (fun _ => 0))), (q61, .inl (cy 1, 6, .inl (fun _ => 0))), (q69, .inl (cy 1, 6, .inl (fun _ => 0))), (q77, .inl (cy 0, 50, .inl (fun _ => 0))), (q85, .inl (cy 1, 128, .inl (fun _ => 0))), (q94, .inl (cy 1, 40, .inl (fun _ => 0))), (q102, .inl (cy 1, 40, .inl (fun _ => 0))), (q110, .inl (cy 1, 40, .inl (fun _ => 0)))]) H := hP
  have hD : va_D A ([(h0, .inr (7, [.int 0, .int 0, .ref q4, .ref q12, .ref q20, .ref q28, .ref q36, .ref q44, .int 0, .ref q53, .ref q61, .ref q69, .int 0, .ref q77, .int 0, .int 0, .ref q85, .long 0, .int 0, .int 0, .int 0, .int 0, .ref q94, .ref q102, .null, .null, .null, .null, .null, .null, .long 0])), (q4, .inl (cy 1, 70, .inl (fun _ => 0))), (q12, .inl (cy 1, 70, .inl (fun _ => 0))), (q20, .inl (cy 1, 70, .inl (fun _ => 0))), (q28, .inl (cy 1, 70, .inl (fun _ => 0))), (q36, .inl (cy 1, 70, .inl (fun _ => 0))), (q44, .inl (cy 1, 128, .inl (fun _ => 0))), (q53, .inl (cy 1, 6, .inl (fun _ => 0))), (q61, .inl (cy 1, 6, .inl (fun _ => 0))), (q69, .inl (cy 1, 6, .inl (fun _ => 0))), (q77, .inl (cy 0, 50, .inl (fun _ => 0))), (q85, .inl (cy 1, 128, .inl (fun _ => 0))), (q94, .inl (cy 1, 40, .inl (fun _ => 0))), (q102, .inl (cy 1, 40, .inl (fun _ => 0))), (q110, .inl (cy 1, 40, .inl (fun _ => 0)))]) := hD
  refine va_putF (D := D) (ci := 7) (v := .ref q110) (ty := .array .int) (C := RX7) (T := TX7) (N := 31) hx hb hT inlX7 tyX7 tyX7_ok nmX7 hown hK hP hD hS 0 rfl rfl 24 (by decide) (hT _ (tr_5 _ (List.mem_of_getElem? (i := 3) rfl))) (fun _ h9 => h9) rfl hin rfl (by decide +kernel) rfl rfl (Nat.le_of_ble_eq_true rfl) dX7_init_115 (fun H locs hP hD hS => ?_)
  have hP : va_P D vwCl ([(h0, .inr (7, [.int 0, .int 0, .ref q4, .ref q12, .ref q20, .ref q28, .ref q36, .ref q44, .int 0, .ref q53, .ref q61, .ref q69, .int 0, .ref q77, .int 0, .int 0, .ref q85, .long 0, .int 0, .int 0, .int 0, .int 0, .ref q94, .ref q102, .ref q110, .null, .null, .null, .null, .null, .long 0])), (q4, .inl (cy 1, 70, .inl (fun _ => 0))), (q12, .inl (cy 1, 70, .inl (fun _ => 0))), (q20, .inl (cy 1, 70, .inl (fun _ => 0))), (q28, .inl (cy 1, 70, .inl (fun _ => 0))), (q36, .inl (cy 1, 70, .inl (fun _ => 0))), (q44, .inl (cy 1, 128, .inl (fun _ => 0))), (q53, .inl (cy 1, 6, .inl (fun _ => 0))), (q61, .inl (cy 1, 6, .inl (fun _ => 0))), (q69, .inl (cy 1, 6, .inl (fun _ => 0))), (q77, .inl (cy 0, 50, .inl (fun _ => 0))), (q85, .inl (cy 1, 128, .inl (fun _ => 0))), (q94, .inl (cy 1, 40, .inl (fun _ => 0))), (q102, .inl (cy 1, 40, .inl (fun _ => 0))), (q110, .inl (cy 1, 40, .inl (fun _ => 0)))]) H := hP
  have hD : va_D A ([(h0, .inr (7, [.int 0, .int 0, .ref q4, .ref q12, .ref q20, .ref q28, .ref q36, .ref q44, .int 0, .ref q53, .ref q61, .ref q69, .int 0, .ref q77, .int 0, .int 0, .ref q85, .long 0, .int 0, .int 0, .int 0, .int 0, .ref q94, .ref q102, .ref q110, .null, .null, .null, .null, .null, .long 0])), (q4, .inl (cy 1, 70, .inl (fun _ => 0))), (q12, .inl (cy 1, 70, .inl (fun _ => 0))), (q20, .inl (cy 1, 70, .inl (fun _ => 0))), (q28, .inl (cy 1, 70, .inl (fun _ => 0))), (q36, .inl (cy 1, 70, .inl (fun _ => 0))), (q44, .inl (cy 1, 128, .inl (fun _ => 0))), (q53, .inl (cy 1, 6, .inl (fun _ => 0))), (q61, .inl (cy 1, 6, .inl (fun _ => 0))), (q69, .inl (cy 1, 6, .inl (fun _ => 0))), (q77, .inl (cy 0, 50, .inl (fun _ => 0))), (q85, .inl (cy 1, 128, .inl (fun _ => 0))), (q94, .inl (cy 1, 40, .inl (fun _ => 0))), (q102, .inl (cy 1, 40, .inl (fun _ => 0))), (q110, .inl (cy 1, 40, .inl (fun _ => 0)))]) := hD
  refine lv_aload_n hx hb dX7_init_118 rfl (lv_at hl 0 rfl) ?_
  refine lv_bipush (v := 40) hx hb dX7_init_119 (by decide) ?_
  refine nw_int hx hb (hT _ (tr_2 _ (List.mem_of_getElem? (i := 17) rfl))) hK hP hD hS hA (N' := 40) (by decide) (by decide) (by decide) (Nat.le_of_ble_eq_true rfl) (Nat.le_of_ble_eq_true rfl) dX7_init_121 (fun q118 H hP hD hS => ?_)
  have hP : va_P D vwCl ([(h0, .inr (7, [.int 0, .int 0, .ref q4, .ref q12, .ref q20, .ref q28, .ref q36, .ref q44, .int 0, .ref q53, .ref q61, .ref q69, .int 0, .ref q77, .int 0, .int 0, .ref q85, .long 0, .int 0, .int 0, .int 0, .int 0, .ref q94, .ref q102, .ref q110, .null, .null, .null, .null, .null, .long 0])), (q4, .inl (cy 1, 70, .inl (fun _ => 0))), (q12, .inl (cy 1, 70, .inl (fun _ => 0))), (q20, .inl (cy 1, 70, .inl (fun _ => 0))), (q28, .inl (cy 1, 70, .inl (fun _ => 0))), (q36, .inl (cy 1, 70, .inl (fun _ => 0))), (q44, .inl (cy 1, 128, .inl (fun _ => 0))), (q53, .inl (cy 1, 6, .inl (fun _ => 0))), (q61, .inl (cy 1, 6, .inl (fun _ => 0))), (q69, .inl (cy 1, 6, .inl (fun _ => 0))), (q77, .inl (cy 0, 50, .inl (fun _ => 0))), (q85, .inl (cy 1, 128, .inl (fun _ => 0))), (q94, .inl (cy 1, 40, .inl (fun _ => 0))), (q102, .inl (cy 1, 40, .inl (fun _ => 0))), (q110, .inl (cy 1, 40, .inl (fun _ => 0))), (q118, .inl (cy 1, 40, .inl (fun _ => 0)))]) H := hP
  have hD : va_D A ([(h0, .inr (7, [.int 0, .int 0, .ref q4, .ref q12, .ref q20, .ref q28, .ref q36, .ref q44, .int 0, .ref q53, .ref q61, .ref q69, .int 0, .ref q77, .int 0, .int 0, .ref q85, .long 0, .int 0, .int 0, .int 0, .int 0, .ref q94, .ref q102, .ref q110, .null, .null, .null, .null, .null, .long 0])), (q4, .inl (cy 1, 70, .inl (fun _ => 0))), (q12, .inl (cy 1, 70, .inl (fun _ => 0))), (q20, .inl (cy 1, 70, .inl (fun _ => 0))), (q28, .inl (cy 1, 70, .inl (fun _ => 0))), (q36, .inl (cy 1, 70, .inl (fun _ => 0))), (q44, .inl (cy 1, 128, .inl (fun _ => 0))), (q53, .inl (cy 1, 6, .inl (fun _ => 0))), (q61, .inl (cy 1, 6, .inl (fun _ => 0))), (q69, .inl (cy 1, 6, .inl (fun _ => 0))), (q77, .inl (cy 0, 50, .inl (fun _ => 0))), (q85, .inl (cy 1, 128, .inl (fun _ => 0))), (q94, .inl (cy 1, 40, .inl (fun _ => 0))), (q102, .inl (cy 1, 40, .inl (fun _ => 0))), (q110, .inl (cy 1, 40, .inl (fun _ => 0))), (q118, .inl (cy 1, 40, .inl (fun _ => 0)))]) := hD
  refine va_putF (D := D) (ci := 7) (v := .ref q118) (ty := .array .int) (C := RX7) (T := TX7) (N := 31) hx hb hT inlX7 tyX7 tyX7_ok nmX7 hown hK hP hD hS 0 rfl rfl 25 (by decide) (hT _ (tr_5 _ (List.mem_of_getElem? (i := 4) rfl))) (fun _ h9 => h9) rfl hin rfl (by decide +kernel) rfl rfl (Nat.le_of_ble_eq_true rfl) dX7_init_123 (fun H locs hP hD hS => ?_)
  have hP : va_P D vwCl ([(h0, .inr (7, [.int 0, .int 0, .ref q4, .ref q12, .ref q20, .ref q28, .ref q36, .ref q44, .int 0, .ref q53, .ref q61, .ref q69, .int 0, .ref q77, .int 0, .int 0, .ref q85, .long 0, .int 0, .int 0, .int 0, .int 0, .ref q94, .ref q102, .ref q110, .ref q118, .null, .null, .null, .null, .long 0])), (q4, .inl (cy 1, 70, .inl (fun _ => 0))), (q12, .inl (cy 1, 70, .inl (fun _ => 0))), (q20, .inl (cy 1, 70, .inl (fun _ => 0))), (q28, .inl (cy 1, 70, .inl (fun _ => 0))), (q36, .inl (cy 1, 70, .inl (fun _ => 0))), (q44, .inl (cy 1, 128, .inl (fun _ => 0))), (q53, .inl (cy 1, 6, .inl (fun _ => 0))), (q61, .inl (cy 1, 6, .inl (fun _ => 0))), (q69, .inl (cy 1, 6, .inl (fun _ => 0))), (q77, .inl (cy 0, 50, .inl (fun _ => 0))), (q85, .inl (cy 1, 128, .inl (fun _ => 0))), (q94, .inl (cy 1, 40, .inl (fun _ => 0))), (q102, .inl (cy 1, 40, .inl (fun _ => 0))), (q110, .inl (cy 1, 40, .inl (fun _ => 0))), (q118, .inl (cy 1, 40, .inl (fun _ => 0)))]) H := hP
  have hD : va_D A ([(h0, .inr (7, [.int 0, .int 0, .ref q4, .ref q12, .ref q20, .ref q28, .ref q36, .ref q44, .int 0, .ref q53, .ref q61, .ref q69, .int 0, .ref q77, .int 0, .int 0, .ref q85, .long 0, .int 0, .int 0, .int 0, .int 0, .ref q94, .ref q102, .ref q110, .ref q118, .null, .null, .null, .null, .long 0])), (q4, .inl (cy 1, 70, .inl (fun _ => 0))), (q12, .inl (cy 1, 70, .inl (fun _ => 0))), (q20, .inl (cy 1, 70, .inl (fun _ => 0))), (q28, .inl (cy 1, 70, .inl (fun _ => 0))), (q36, .inl (cy 1, 70, .inl (fun _ => 0))), (q44, .inl (cy 1, 128, .inl (fun _ => 0))), (q53, .inl (cy 1, 6, .inl (fun _ => 0))), (q61, .inl (cy 1, 6, .inl (fun _ => 0))), (q69, .inl (cy 1, 6, .inl (fun _ => 0))), (q77, .inl (cy 0, 50, .inl (fun _ => 0))), (q85, .inl (cy 1, 128, .inl (fun _ => 0))), (q94, .inl (cy 1, 40, .inl (fun _ => 0))), (q102, .inl (cy 1, 40, .inl (fun _ => 0))), (q110, .inl (cy 1, 40, .inl (fun _ => 0))), (q118, .inl (cy 1, 40, .inl (fun _ => 0)))]) := hD
  refine lv_aload_n hx hb dX7_init_126 rfl (lv_at hl 0 rfl) ?_
  refine lv_bipush (v := 40) hx hb dX7_init_127 (by decide) ?_
  refine nw_int hx hb (hT _ (tr_2 _ (List.mem_of_getElem? (i := 17) rfl))) hK hP hD hS hA (N' := 40) (by decide) (by decide) (by decide) (Nat.le_of_ble_eq_true rfl) (Nat.le_of_ble_eq_true rfl) dX7_init_129 (fun q126 H hP hD hS => ?_)
  have hP : va_P D vwCl ([(h0, .inr (7, [.int 0, .int 0, .ref q4, .ref q12, .ref q20, .ref q28, .ref q36, .ref q44, .int 0, .ref q53, .ref q61, .ref q69, .int 0, .ref q77, .int 0, .int 0, .ref q85, .long 0, .int 0, .int 0, .int 0, .int 0, .ref q94, .ref q102, .ref q110, .ref q118, .null, .null, .null, .null, .long 0])), (q4, .inl (cy 1, 70, .inl (fun _ => 0))), (q12, .inl (cy 1, 70, .inl (fun _ => 0))), (q20, .inl (cy 1, 70, .inl (fun _ => 0))), (q28, .inl (cy 1, 70, .inl (fun _ => 0))), (q36, .inl (cy 1, 70, .inl (fun _ => 0))), (q44, .inl (cy 1, 128, .inl (fun _ => 0))), (q53, .inl (cy 1, 6, .inl (fun _ => 0))), (q61, .inl (cy 1, 6, .inl (fun _ => 0))), (q69, .inl (cy 1, 6, .inl (fun _ => 0))), (q77, .inl (cy 0, 50, .inl (fun _ => 0))), (q85, .inl (cy 1, 128, .inl (fun _ => 0))), (q94, .inl (cy 1, 40, .inl (fun _ => 0))), (q102, .inl (cy 1, 40, .inl (fun _ => 0))), (q110, .inl (cy 1, 40, .inl (fun _ => 0))), (q118, .inl (cy 1, 40, .inl (fun _ => 0))), (q126, .inl (cy 1, 40, .inl (fun _ => 0)))]) H := hP
  have hD : va_D A ([(h0, .inr (7, [.int 0, .int 0, .ref q4, .ref q12, .ref q20, .ref q28, .ref q36, .ref q44, .int 0, .ref q53, .ref q61, .ref q69, .int 0, .ref q77, .int 0, .int 0, .ref q85, .long 0, .int 0, .int 0, .int 0, .int 0, .ref q94, .ref q102, .ref q110, .ref q118, .null, .null, .null, .null, .long 0])), (q4, .inl (cy 1, 70, .inl (fun _ => 0))), (q12, .inl (cy 1, 70, .inl (fun _ => 0))), (q20, .inl (cy 1, 70, .inl (fun _ => 0))), (q28, .inl (cy 1, 70, .inl (fun _ => 0))), (q36, .inl (cy 1, 70, .inl (fun _ => 0))), (q44, .inl (cy 1, 128, .inl (fun _ => 0))), (q53, .inl (cy 1, 6, .inl (fun _ => 0))), (q61, .inl (cy 1, 6, .inl (fun _ => 0))), (q69, .inl (cy 1, 6, .inl (fun _ => 0))), (q77, .inl (cy 0, 50, .inl (fun _ => 0))), (q85, .inl (cy 1, 128, .inl (fun _ => 0))), (q94, .inl (cy 1, 40, .inl (fun _ => 0))), (q102, .inl (cy 1, 40, .inl (fun _ => 0))), (q110, .inl (cy 1, 40, .inl (fun _ => 0))), (q118, .inl (cy 1, 40, .inl (fun _ => 0))), (q126, .inl (cy 1, 40, .inl (fun _ => 0)))]) := hD
  refine va_putF (D := D) (ci := 7) (v := .ref q126) (ty := .array .int) (C := RX7) (T := TX7) (N := 31) hx hb hT inlX7 tyX7 tyX7_ok nmX7 hown hK hP hD hS 0 rfl rfl 26 (by decide) (hT _ (tr_5 _ (List.mem_of_getElem? (i := 5) rfl))) (fun _ h9 => h9) rfl hin rfl (by decide +kernel) rfl rfl (Nat.le_of_ble_eq_true rfl) dX7_init_131 (fun H locs hP hD hS => ?_)
  have hP : va_P D vwCl ([(h0, .inr (7, [.int 0, .int 0, .ref q4, .ref q12, .ref q20, .ref q28, .ref q36, .ref q44, .int 0, .ref q53, .ref q61, .ref q69, .int 0, .ref q77, .int 0, .int 0, .ref q85, .long 0, .int 0, .int 0, .int 0, .int 0, .ref q94, .ref q102, .ref q110, .ref q118, .ref q126, .null, .null, .null, .long 0])), (q4, .inl (cy 1, 70, .inl (fun _ => 0))), (q12, .inl (cy 1, 70, .inl (fun _ => 0))), (q20, .inl (cy 1, 70, .inl (fun _ => 0))), (q28, .inl (cy 1, 70, .inl (fun _ => 0))), (q36, .inl (cy 1, 70, .inl (fun _ => 0))), (q44, .inl (cy 1, 128, .inl (fun _ => 0))), (q53, .inl (cy 1, 6, .inl (fun _ => 0))), (q61, .inl (cy 1, 6, .inl (fun _ => 0))), (q69, .inl (cy 1, 6, .inl (fun _ => 0))), (q77, .inl (cy 0, 50, .inl (fun _ => 0))), (q85, .inl (cy 1, 128, .inl (fun _ => 0))), (q94, .inl (cy 1, 40, .inl (fun _ => 0))), (q102, .inl (cy 1, 40, .inl (fun _ => 0))), (q110, .inl (cy 1, 40, .inl (fun _ => 0))), (q118, .inl (cy 1, 40, .inl (fun _ => 0))), (q126, .inl (cy 1, 40, .inl (fun _ => 0)))]) H := hP
  have hD : va_D A ([(h0, .inr (7, [.int 0, .int 0, .ref q4, .ref q12, .ref q20, .ref q28, .ref q36, .ref q44, .int 0, .ref q53, .ref q61, .ref q69, .int 0, .ref q77, .int 0, .int 0, .ref q85, .long 0, .int 0, .int 0, .int 0, .int 0, .ref q94, .ref q102, .ref q110, .ref q118, .ref q126, .null, .null, .null, .long 0])), (q4, .inl (cy 1, 70, .inl (fun _ => 0))), (q12, .inl (cy 1, 70, .inl (fun _ => 0))), (q20, .inl (cy 1, 70, .inl (fun _ => 0))), (q28, .inl (cy 1, 70, .inl (fun _ => 0))), (q36, .inl (cy 1, 70, .inl (fun _ => 0))), (q44, .inl (cy 1, 128, .inl (fun _ => 0))), (q53, .inl (cy 1, 6, .inl (fun _ => 0))), (q61, .inl (cy 1, 6, .inl (fun _ => 0))), (q69, .inl (cy 1, 6, .inl (fun _ => 0))), (q77, .inl (cy 0, 50, .inl (fun _ => 0))), (q85, .inl (cy 1, 128, .inl (fun _ => 0))), (q94, .inl (cy 1, 40, .inl (fun _ => 0))), (q102, .inl (cy 1, 40, .inl (fun _ => 0))), (q110, .inl (cy 1, 40, .inl (fun _ => 0))), (q118, .inl (cy 1, 40, .inl (fun _ => 0))), (q126, .inl (cy 1, 40, .inl (fun _ => 0)))]) := hD
  refine lv_aload_n hx hb dX7_init_134 rfl (lv_at hl 0 rfl) ?_
  refine lv_bipush (v := 6) hx hb dX7_init_135 (by decide) ?_
  refine nw_int hx hb (hT _ (tr_2 _ (List.mem_of_getElem? (i := 17) rfl))) hK hP hD hS hA (N' := 6) (by decide) (by decide) (by decide) (Nat.le_of_ble_eq_true rfl) (Nat.le_of_ble_eq_true rfl) dX7_init_137 (fun q134 H hP hD hS => ?_)
  have hP : va_P D vwCl ([(h0, .inr (7, [.int 0, .int 0, .ref q4, .ref q12, .ref q20, .ref q28, .ref q36, .ref q44, .int 0, .ref q53, .ref q61, .ref q69, .int 0, .ref q77, .int 0, .int 0, .ref q85, .long 0, .int 0, .int 0, .int 0, .int 0, .ref q94, .ref q102, .ref q110, .ref q118, .ref q126, .null, .null, .null, .long 0])), (q4, .inl (cy 1, 70, .inl (fun _ => 0))), (q12, .inl (cy 1, 70, .inl (fun _ => 0))), (q20, .inl (cy 1, 70, .inl (fun _ => 0))), (q28, .inl (cy 1, 70, .inl (fun _ => 0))), (q36, .inl (cy 1, 70, .inl (fun _ => 0))), (q44, .inl (cy 1, 128, .inl (fun _ => 0))), (q53, .inl (cy 1, 6, .inl (fun _ => 0))), (q61, .inl (cy 1, 6, .inl (fun _ => 0))), (q69, .inl (cy 1, 6, .inl (fun _ => 0))), (q77, .inl (cy 0, 50, .inl (fun _ => 0))), (q85, .inl (cy 1, 128, .inl (fun _ => 0))), (q94, .inl (cy 1, 40, .inl (fun _ => 0))), (q102, .inl (cy 1, 40, .inl (fun _ => 0))), (q110, .inl (cy 1, 40, .inl (fun _ => 0))), (q118, .inl (cy 1, 40, .inl (fun _ => 0))), (q126, .inl (cy 1, 40, .inl (fun _ => 0))), (q134, .inl (cy 1, 6, .inl (fun _ => 0)))]) H := hP
  have hD : va_D A ([(h0, .inr (7, [.int 0, .int 0, .ref q4, .ref q12, .ref q20, .ref q28, .ref q36, .ref q44, .int 0, .ref q53, .ref q61, .ref q69, .int 0, .ref q77, .int 0, .int 0, .ref q85, .long 0, .int 0, .int 0, .int 0, .int 0, .ref q94, .ref q102, .ref q110, .ref q118, .ref q126, .null, .null, .null, .long 0])), (q4, .inl (cy 1, 70, .inl (fun _ => 0))), (q12, .inl (cy 1, 70, .inl (fun _ => 0))), (q20, .inl (cy 1, 70, .inl (fun _ => 0))), (q28, .inl (cy 1, 70, .inl (fun _ => 0))), (q36, .inl (cy 1, 70, .inl (fun _ => 0))), (q44, .inl (cy 1, 128, .inl (fun _ => 0))), (q53, .inl (cy 1, 6, .inl (fun _ => 0))), (q61, .inl (cy 1, 6, .inl (fun _ => 0))), (q69, .inl (cy 1, 6, .inl (fun _ => 0))), (q77, .inl (cy 0, 50, .inl (fun _ => 0))), (q85, .inl (cy 1, 128, .inl (fun _ => 0))), (q94, .inl (cy 1, 40, .inl (fun _ => 0))), (q102, .inl (cy 1, 40, .inl (fun _ => 0))), (q110, .inl (cy 1, 40, .inl (fun _ => 0))), (q118, .inl (cy 1, 40, .inl (fun _ => 0))), (q126, .inl (cy 1, 40, .inl (fun _ => 0))), (q134, .inl (cy 1, 6, .inl (fun _ => 0)))]) := hD
  refine va_putF (D := D) (ci := 7) (v := .ref q134) (ty := .array .int) (C := RX7) (T := TX7) (N := 31) hx hb hT inlX7 tyX7 tyX7_ok nmX7 hown hK hP hD hS 0 rfl rfl 27 (by decide) (hT _ (tr_5 _ (List.mem_of_getElem? (i := 6) rfl))) (fun _ h9 => h9) rfl hin rfl (by decide +kernel) rfl rfl (Nat.le_of_ble_eq_true rfl) dX7_init_139 (fun H locs hP hD hS => ?_)
  have hP : va_P D vwCl ([(h0, .inr (7, [.int 0, .int 0, .ref q4, .ref q12, .ref q20, .ref q28, .ref q36, .ref q44, .int 0, .ref q53, .ref q61, .ref q69, .int 0, .ref q77, .int 0, .int 0, .ref q85, .long 0, .int 0, .int 0, .int 0, .int 0, .ref q94, .ref q102, .ref q110, .ref q118, .ref q126, .ref q134, .null, .null, .long 0])), (q4, .inl (cy 1, 70, .inl (fun _ => 0))), (q12, .inl (cy 1, 70, .inl (fun _ => 0))), (q20, .inl (cy 1, 70, .inl (fun _ => 0))), (q28, .inl (cy 1, 70, .inl (fun _ => 0))), (q36, .inl (cy 1, 70, .inl (fun _ => 0))), (q44, .inl (cy 1, 128, .inl (fun _ => 0))), (q53, .inl (cy 1, 6, .inl (fun _ => 0))), (q61, .inl (cy 1, 6, .inl (fun _ => 0))), (q69, .inl (cy 1, 6, .inl (fun _ => 0))), (q77, .inl (cy 0, 50, .inl (fun _ => 0))), (q85, .inl (cy 1, 128, .inl (fun _ => 0))), (q94, .inl (cy 1, 40, .inl (fun _ => 0))), (q102, .inl (cy 1, 40, .inl (fun _ => 0))), (q110, .inl (cy 1, 40, .inl (fun _ => 0))), (q118, .inl (cy 1, 40, .inl (fun _ => 0))), (q126, .inl (cy 1, 40, .inl (fun _ => 0))), (q134, .inl (cy 1, 6, .inl (fun _ => 0)))]) H := hP
  have hD : va_D A ([(h0, .inr (7, [.int 0, .int 0, .ref q4, .ref q12, .ref q20, .ref q28, .ref q36, .ref q44, .int 0, .ref q53, .ref q61, .ref q69, .int 0, .ref q77, .int 0, .int 0, .ref q85, .long 0, .int 0, .int 0, .int 0, .int 0, .ref q94, .ref q102, .ref q110, .ref q118, .ref q126, .ref q134, .null, .null, .long 0])), (q4, .inl (cy 1, 70, .inl (fun _ => 0))), (q12, .inl (cy 1, 70, .inl (fun _ => 0))), (q20, .inl (cy 1, 70, .inl (fun _ => 0))), (q28, .inl (cy 1, 70, .inl (fun _ => 0))), (q36, .inl (cy 1, 70, .inl (fun _ => 0))), (q44, .inl (cy 1, 128, .inl (fun _ => 0))), (q53, .inl (cy 1, 6, .inl (fun _ => 0))), (q61, .inl (cy 1, 6, .inl (fun _ => 0))), (q69, .inl (cy 1, 6, .inl (fun _ => 0))), (q77, .inl (cy 0, 50, .inl (fun _ => 0))), (q85, .inl (cy 1, 128, .inl (fun _ => 0))), (q94, .inl (cy 1, 40, .inl (fun _ => 0))), (q102, .inl (cy 1, 40, .inl (fun _ => 0))), (q110, .inl (cy 1, 40, .inl (fun _ => 0))), (q118, .inl (cy 1, 40, .inl (fun _ => 0))), (q126, .inl (cy 1, 40, .inl (fun _ => 0))), (q134, .inl (cy 1, 6, .inl (fun _ => 0)))]) := hD
  refine lv_aload_n hx hb dX7_init_142 rfl (lv_at hl 0 rfl) ?_
  refine lv_bipush (v := 6) hx hb dX7_init_143 (by decide) ?_
  refine nw_int hx hb (hT _ (tr_2 _ (List.mem_of_getElem? (i := 17) rfl))) hK hP hD hS hA (N' := 6) (by decide) (by decide) (by decide) (Nat.le_of_ble_eq_true rfl) (Nat.le_of_ble_eq_true rfl) dX7_init_145 (fun q142 H hP hD hS => ?_)
  have hP : va_P D vwCl ([(h0, .inr (7, [.int 0, .int 0, .ref q4, .ref q12, .ref q20, .ref q28, .ref q36, .ref q44, .int 0, .ref q53, .ref q61, .ref q69, .int 0, .ref q77, .int 0, .int 0, .ref q85, .long 0, .int 0, .int 0, .int 0, .int 0, .ref q94, .ref q102, .ref q110, .ref q118, .ref q126, .ref q134, .null, .null, .long 0])), (q4, .inl (cy 1, 70, .inl (fun _ => 0))), (q12, .inl (cy 1, 70, .inl (fun _ => 0))), (q20, .inl (cy 1, 70, .inl (fun _ => 0))), (q28, .inl (cy 1, 70, .inl (fun _ => 0))), (q36, .inl (cy 1, 70, .inl (fun _ => 0))), (q44, .inl (cy 1, 128, .inl (fun _ => 0))), (q53, .inl (cy 1, 6, .inl (fun _ => 0))), (q61, .inl (cy 1, 6, .inl (fun _ => 0))), (q69, .inl (cy 1, 6, .inl (fun _ => 0))), (q77, .inl (cy 0, 50, .inl (fun _ => 0))), (q85, .inl (cy 1, 128, .inl (fun _ => 0))), (q94, .inl (cy 1, 40, .inl (fun _ => 0))), (q102, .inl (cy 1, 40, .inl (fun _ => 0))), (q110, .inl (cy 1, 40, .inl (fun _ => 0))), (q118, .inl (cy 1, 40, .inl (fun _ => 0))), (q126, .inl (cy 1, 40, .inl (fun _ => 0))), (q134, .inl (cy 1, 6, .inl (fun _ => 0))), (q142, .inl (cy 1, 6, .inl (fun _ => 0)))]) H := hP
  have hD : va_D A ([(h0, .inr (7, [.int 0, .int 0, .ref q4, .ref q12, .ref q20, .ref q28, .ref q36, .ref q44, .int 0, .ref q53, .ref q61, .ref q69, .int 0, .ref q77, .int 0, .int 0, .ref q85, .long 0, .int 0, .int 0, .int 0, .int 0, .ref q94, .ref q102, .ref q110, .ref q118, .ref q126, .ref q134, .null, .null, .long 0])), (q4, .inl (cy 1, 70, .inl (fun _ => 0))), (q12, .inl (cy 1, 70, .inl (fun _ => 0))), (q20, .inl (cy 1, 70, .inl (fun _ => 0))), (q28, .inl (cy 1, 70, .inl (fun _ => 0))), (q36, .inl (cy 1, 70, .inl (fun _ => 0))), (q44, .inl (cy 1, 128, .inl (fun _ => 0))), (q53, .inl (cy 1, 6, .inl (fun _ => 0))), (q61, .inl (cy 1, 6, .inl (fun _ => 0))), (q69, .inl (cy 1, 6, .inl (fun _ => 0))), (q77, .inl (cy 0, 50, .inl (fun _ => 0))), (q85, .inl (cy 1, 128, .inl (fun _ => 0))), (q94, .inl (cy 1, 40, .inl (fun _ => 0))), (q102, .inl (cy 1, 40, .inl (fun _ => 0))), (q110, .inl (cy 1, 40, .inl (fun _ => 0))), (q118, .inl (cy 1, 40, .inl (fun _ => 0))), (q126, .inl (cy 1, 40, .inl (fun _ => 0))), (q134, .inl (cy 1, 6, .inl (fun _ => 0))), (q142, .inl (cy 1, 6, .inl (fun _ => 0)))]) := hD
  refine va_putF (D := D) (ci := 7) (v := .ref q142) (ty := .array .int) (C := RX7) (T := TX7) (N := 31) hx hb hT inlX7 tyX7 tyX7_ok nmX7 hown hK hP hD hS 0 rfl rfl 28 (by decide) (hT _ (tr_5 _ (List.mem_of_getElem? (i := 7) rfl))) (fun _ h9 => h9) rfl hin rfl (by decide +kernel) rfl rfl (Nat.le_of_ble_eq_true rfl) dX7_init_147 (fun H locs hP hD hS => ?_)
  have hP : va_P D vwCl ([(h0, .inr (7, [.int 0, .int 0, .ref q4, .ref q12, .ref q20, .ref q28, .ref q36, .ref q44, .int 0, .ref q53, .ref q61, .ref q69, .int 0, .ref q77, .int 0, .int 0, .ref q85, .long 0, .int 0, .int 0, .int 0, .int 0, .ref q94, .ref q102, .ref q110, .ref q118, .ref q126, .ref q134, .ref q142, .null, .long 0])), (q4, .inl (cy 1, 70, .inl (fun _ => 0))), (q12, .inl (cy 1, 70, .inl (fun _ => 0))), (q20, .inl (cy 1, 70, .inl (fun _ => 0))), (q28, .inl (cy 1, 70, .inl (fun _ => 0))), (q36, .inl (cy 1, 70, .inl (fun _ => 0))), (q44, .inl (cy 1, 128, .inl (fun _ => 0))), (q53, .inl (cy 1, 6, .inl (fun _ => 0))), (q61, .inl (cy 1, 6, .inl (fun _ => 0))), (q69, .inl (cy 1, 6, .inl (fun _ => 0))), (q77, .inl (cy 0, 50, .inl (fun _ => 0))), (q85, .inl (cy 1, 128, .inl (fun _ => 0))), (q94, .inl (cy 1, 40, .inl (fun _ => 0))), (q102, .inl (cy 1, 40, .inl (fun _ => 0))), (q110, .inl (cy 1, 40, .inl (fun _ => 0))), (q118, .inl (cy 1, 40, .inl (fun _ => 0))), (q126, .inl (cy 1, 40, .inl (fun _ => 0))), (q134, .inl (cy 1, 6, .inl (fun _ => 0))), (q142, .inl (cy 1, 6, .inl (fun _ => 0)))]) H := hP
  have hD : va_D A ([(h0, .inr (7, [.int 0, .int 0, .ref q4, .ref q12, .ref q20, .ref q28, .ref q36, .ref q44, .int 0, .ref q53, .ref q61, .ref q69, .int 0, .ref q77, .int 0, .int 0, .ref q85, .long 0, .int 0, .int 0, .int 0, .int 0, .ref q94, .ref q102, .ref q110, .ref q118, .ref q126, .ref q134, .ref q142, .null, .long 0])), (q4, .inl (cy 1, 70, .inl (fun _ => 0))), (q12, .inl (cy 1, 70, .inl (fun _ => 0))), (q20, .inl (cy 1, 70, .inl (fun _ => 0))), (q28, .inl (cy 1, 70, .inl (fun _ => 0))), (q36, .inl (cy 1, 70, .inl (fun _ => 0))), (q44, .inl (cy 1, 128, .inl (fun _ => 0))), (q53, .inl (cy 1, 6, .inl (fun _ => 0))), (q61, .inl (cy 1, 6, .inl (fun _ => 0))), (q69, .inl (cy 1, 6, .inl (fun _ => 0))), (q77, .inl (cy 0, 50, .inl (fun _ => 0))), (q85, .inl (cy 1, 128, .inl (fun _ => 0))), (q94, .inl (cy 1, 40, .inl (fun _ => 0))), (q102, .inl (cy 1, 40, .inl (fun _ => 0))), (q110, .inl (cy 1, 40, .inl (fun _ => 0))), (q118, .inl (cy 1, 40, .inl (fun _ => 0))), (q126, .inl (cy 1, 40, .inl (fun _ => 0))), (q134, .inl (cy 1, 6, .inl (fun _ => 0))), (q142, .inl (cy 1, 6, .inl (fun _ => 0)))]) := hD
  refine lv_aload_n hx hb dX7_init_150 rfl (lv_at hl 0 rfl) ?_
  refine lv_bipush (v := 6) hx hb dX7_init_151 (by decide) ?_
  refine nw_int hx hb (hT _ (tr_2 _ (List.mem_of_getElem? (i := 17) rfl))) hK hP hD hS hA (N' := 6) (by decide) (by decide) (by decide) (Nat.le_of_ble_eq_true rfl) (Nat.le_of_ble_eq_true rfl) dX7_init_153 (fun q150 H hP hD hS => ?_)
  have hP : va_P D vwCl ([(h0, .inr (7, [.int 0, .int 0, .ref q4, .ref q12, .ref q20, .ref q28, .ref q36, .ref q44, .int 0, .ref q53, .ref q61, .ref q69, .int 0, .ref q77, .int 0, .int 0, .ref q85, .long 0, .int 0, .int 0, .int 0, .int 0, .ref q94, .ref q102, .ref q110, .ref q118, .ref q126, .ref q134, .ref q142, .null, .long 0])), (q4, .inl (cy 1, 70, .inl (fun _ => 0))), (q12, .inl (cy 1, 70, .inl (fun _ => 0))), (q20, .inl (cy 1, 70, .inl (fun _ => 0))), (q28, .inl (cy 1, 70, .inl (fun _ => 0))), (q36, .inl (cy 1, 70, .inl (fun _ => 0))), (q44, .inl (cy 1, 128, .inl (fun _ => 0))), (q53, .inl (cy 1, 6, .inl (fun _ => 0))), (q61, .inl (cy 1, 6, .inl (fun _ => 0))), (q69, .inl (cy 1, 6, .inl (fun _ => 0))), (q77, .inl (cy 0, 50, .inl (fun _ => 0))), (q85, .inl (cy 1, 128, .inl (fun _ => 0))), (q94, .inl (cy 1, 40, .inl (fun _ => 0))), (q102, .inl (cy 1, 40, .inl (fun _ => 0))), (q110, .inl (cy 1, 40, .inl (fun _ => 0))), (q118, .inl (cy 1, 40, .inl (fun _ => 0))), (q126, .inl (cy 1, 40, .inl (fun _ => 0))), (q134, .inl (cy 1, 6, .inl (fun _ => 0))), (q142, .inl (cy 1, 6, .inl (fun _ => 0))), (q150, .inl (cy 1, 6, .inl (fun _ => 0)))]) H := hP
  have hD : va_D A ([(h0, .inr (7, [.int 0, .int 0, .ref q4, .ref q12, .ref q20, .ref q28, .ref q36, .ref q44, .int 0, .ref q53, .ref q61, .ref q69, .int 0, .ref q77, .int 0, .int 0, .ref q85, .long 0, .int 0, .int 0, .int 0, .int 0, .ref q94, .ref q102, .ref q110, .ref q118, .ref q126, .ref q134, .ref q142, .null, .long 0])), (q4, .inl (cy 1, 70, .inl (fun _ => 0))), (q12, .inl (cy 1, 70, .inl (fun _ => 0))), (q20, .inl (cy 1, 70, .inl (fun _ => 0))), (q28, .inl (cy 1, 70, .inl (fun _ => 0))), (q36, .inl (cy 1, 70, .inl (fun _ => 0))), (q44, .inl (cy 1, 128, .inl (fun _ => 0))), (q53, .inl (cy 1, 6, .inl (fun _ => 0))), (q61, .inl (cy 1, 6, .inl (fun _ => 0))), (q69, .inl (cy 1, 6, .inl (fun _ => 0))), (q77, .inl (cy 0, 50, .inl (fun _ => 0))), (q85, .inl (cy 1, 128, .inl (fun _ => 0))), (q94, .inl (cy 1, 40, .inl (fun _ => 0))), (q102, .inl (cy 1, 40, .inl (fun _ => 0))), (q110, .inl (cy 1, 40, .inl (fun _ => 0))), (q118, .inl (cy 1, 40, .inl (fun _ => 0))), (q126, .inl (cy 1, 40, .inl (fun _ => 0))), (q134, .inl (cy 1, 6, .inl (fun _ => 0))), (q142, .inl (cy 1, 6, .inl (fun _ => 0))), (q150, .inl (cy 1, 6, .inl (fun _ => 0)))]) := hD
  refine va_putF (D := D) (ci := 7) (v := .ref q150) (ty := .array .int) (C := RX7) (T := TX7) (N := 31) hx hb hT inlX7 tyX7 tyX7_ok nmX7 hown hK hP hD hS 0 rfl rfl 29 (by decide) (hT _ (tr_5 _ (List.mem_of_getElem? (i := 8) rfl))) (fun _ h9 => h9) rfl hin rfl (by decide +kernel) rfl rfl (Nat.le_of_ble_eq_true rfl) dX7_init_155 (fun H locs hP hD hS => ?_)
  have hP : va_P D vwCl ([(h0, .inr (7, [.int 0, .int 0, .ref q4, .ref q12, .ref q20, .ref q28, .ref q36, .ref q44, .int 0, .ref q53, .ref q61, .ref q69, .int 0, .ref q77, .int 0, .int 0, .ref q85, .long 0, .int 0, .int 0, .int 0, .int 0, .ref q94, .ref q102, .ref q110, .ref q118, .ref q126, .ref q134, .ref q142, .ref q150, .long 0])), (q4, .inl (cy 1, 70, .inl (fun _ => 0))), (q12, .inl (cy 1, 70, .inl (fun _ => 0))), (q20, .inl (cy 1, 70, .inl (fun _ => 0))), (q28, .inl (cy 1, 70, .inl (fun _ => 0))), (q36, .inl (cy 1, 70, .inl (fun _ => 0))), (q44, .inl (cy 1, 128, .inl (fun _ => 0))), (q53, .inl (cy 1, 6, .inl (fun _ => 0))), (q61, .inl (cy 1, 6, .inl (fun _ => 0))), (q69, .inl (cy 1, 6, .inl (fun _ => 0))), (q77, .inl (cy 0, 50, .inl (fun _ => 0))), (q85, .inl (cy 1, 128, .inl (fun _ => 0))), (q94, .inl (cy 1, 40, .inl (fun _ => 0))), (q102, .inl (cy 1, 40, .inl (fun _ => 0))), (q110, .inl (cy 1, 40, .inl (fun _ => 0))), (q118, .inl (cy 1, 40, .inl (fun _ => 0))), (q126, .inl (cy 1, 40, .inl (fun _ => 0))), (q134, .inl (cy 1, 6, .inl (fun _ => 0))), (q142, .inl (cy 1, 6, .inl (fun _ => 0))), (q150, .inl (cy 1, 6, .inl (fun _ => 0)))]) H := hP
  have hD : va_D A ([(h0, .inr (7, [.int 0, .int 0, .ref q4, .ref q12, .ref q20, .ref q28, .ref q36, .ref q44, .int 0, .ref q53, .ref q61, .ref q69, .int 0, .ref q77, .int 0, .int 0, .ref q85, .long 0, .int 0, .int 0, .int 0, .int 0, .ref q94, .ref q102, .ref q110, .ref q118, .ref q126, .ref q134, .ref q142, .ref q150, .long 0])), (q4, .inl (cy 1, 70, .inl (fun _ => 0))), (q12, .inl (cy 1, 70, .inl (fun _ => 0))), (q20, .inl (cy 1, 70, .inl (fun _ => 0))), (q28, .inl (cy 1, 70, .inl (fun _ => 0))), (q36, .inl (cy 1, 70, .inl (fun _ => 0))), (q44, .inl (cy 1, 128, .inl (fun _ => 0))), (q53, .inl (cy 1, 6, .inl (fun _ => 0))), (q61, .inl (cy 1, 6, .inl (fun _ => 0))), (q69, .inl (cy 1, 6, .inl (fun _ => 0))), (q77, .inl (cy 0, 50, .inl (fun _ => 0))), (q85, .inl (cy 1, 128, .inl (fun _ => 0))), (q94, .inl (cy 1, 40, .inl (fun _ => 0))), (q102, .inl (cy 1, 40, .inl (fun _ => 0))), (q110, .inl (cy 1, 40, .inl (fun _ => 0))), (q118, .inl (cy 1, 40, .inl (fun _ => 0))), (q126, .inl (cy 1, 40, .inl (fun _ => 0))), (q134, .inl (cy 1, 6, .inl (fun _ => 0))), (q142, .inl (cy 1, 6, .inl (fun _ => 0))), (q150, .inl (cy 1, 6, .inl (fun _ => 0)))]) := hD
  refine W.widen (k := 19) (n := 892) (Nat.le_of_ble_eq_true rfl) (Nat.le_of_ble_eq_true rfl) ?_
  have hP9 := hP.sub (ws' := mw (D, cy, (fun i => ([h0, q4, q12, q20, q28, q36, q44, q53, q61, q69, q77, q85, q94, q102, q110, q118, q126, q134, q142, q150] : List Nat).getD i 0), (fun _ => True)) (fun _ _ => 0) (fun _ _ => 0)) [0, 1, 2, 3, 4, 5, 6, 7, 8, 9, 10, 11, 12, 13, 14, 15, 16, 17, 18, 19] rfl
  have hD9 := hD.sub (ws' := mw (D, cy, (fun i => ([h0, q4, q12, q20, q28, q36, q44, q53, q61, q69, q77, q85, q94, q102, q110, q118, q126, q134, q142, q150] : List Nat).getD i 0), (fun _ => True)) (fun _ _ => 0) (fun _ _ => 0)) [0, 1, 2, 3, 4, 5, 6, 7, 8, 9, 10, 11, 12, 13, 14, 15, 16, 17, 18, 19] (by decide) rfl
  exact W.vret hx hb hr (fun t ht hW => ⟨⟨(fun i => ([h0, q4, q12, q20, q28, q36, q44, q53, q61, q69, q77, q85, q94, q102, q110, q118, q126, q134, q142, q150] : List Nat).getD i 0), rfl, rfl, by show va_P D vwCl _ t.heap; rw [ht]; exact hP9, hD9⟩, hS.F ht⟩) hS.2.2 dX7_init_158
end
section
set_option maxHeartbeats 4000000 in
set_option maxRecDepth 100000 in
/-- Arrays.fill on one array -/
theorem c_fill (l : Launch) (D : va_G) (cy : Nat → ClassId) (a : Nat) (sz : Nat) (n : Nat) (hn0 : n < 2 ^ 31) (f : Nat → Int32) (x1 : Int32) : Met l yJ7_fill_53178 (Cond.code yJ7_fill_53178 cJ7_fill_53178 4 none :: wsL_law) ({ frames := 0, cells := 0, slots := 0, locals := 0 } : Room) (va_Pc [.ref a, .int x1] (fun U => U.heap.size = sz ∧ va_P D vwCl [(a, .inl (cy 1, n, .inl f))] U.heap ∧ va_K D vwCl (cty cy) U ∧ va_D (fun _ => True) [(a, .inl (cy 1, n, .inl f))])) (va_Qv (fun (u : Nat → Int32) => True) (fun u t => va_P D vwCl [(a, .inl (cy 1, n, .inl u))] t.heap ∧ va_D (va_A [(a, .inl (cy 1, n, .inl f))] sz) [(a, .inl (cy 1, n, .inl u))]) (va_A [(a, .inl (cy 1, n, .inl f))] sz)) 0 0 (va_A [(a, .inl (cy 1, n, .inl f))] sz) := by
  refine Met.ofW (cc := cJ7_fill_53178) (maxL := 4) (ret := none) (by decide) rfl ?_
  intro p e s m args below meth c s₁ B hml hv
  obtain ⟨rfl, hsz, hP, hK, hD0⟩ := hv
  have hx := B.exec
  have hb := B.bytes
  have hr := B.returns
  have hlocks := B.notSynchronized
  subst hsz
  have hD := hD0.self (sz := s.heap.size)
  generalize hAe : va_A [(a, .inl (cy 1, n, .inl f))] s.heap.size = A at hD ⊢
  have hS : va_S A s.heap s.heap [] := va_S.rf
  have L5 : ∀ (k : Nat) (z2 : Int32) (f1 : Nat → Int32) (H : Heap) (locs : List Loc) (hP : va_P D vwCl [(a, .inl (cy 1, n, .inl f1))] H) (hD : va_D A [(a, .inl (cy 1, n, .inl f1))]) (hS : va_S A s.heap H locs) (h2 : 0 ≤ z2.toInt) (hn : (n - z2.toInt).toNat < k) (ls : Array Slot) (hl : lv_has ls 4 [(0, .ref a), (1, .int x1), (2, .int z2), (3, .int (nI n))]), W p l e ({ frames := 0, cells := 0, slots := 0, locals := 0 } : Room) s m ([.ref a, .int x1] : List Value).toArray below meth c H locs 0 0 (MQ below (va_Qv (fun (u : Nat → Int32) => True) (fun u t => va_P D vwCl [(a, .inl (cy 1, n, .inl u))] t.heap ∧ va_D A [(a, .inl (cy 1, n, .inl u))]) A) ([.ref a, .int x1] : List Value).toArray s 0 0 A) (F0 m 5 ls []) := by
    intro k
    induction k with
    | zero => intro z2 f1 H locs hP hD hS h2 hn; exact absurd hn (Nat.not_lt_zero _)
    | succ k ih =>
      intro z2 f1 H locs hP hD hS h2 hn ls hl
      refine lv_iload_n hx hb dJ7_fill_53178_5 rfl (lv_at hl 2 rfl) ?_
      refine lv_iload_n hx hb dJ7_fill_53178_6 rfl (lv_at hl 3 rfl) ?_
      refine lv_icmp_ge (tgt := 20) hx hb dJ7_fill_53178_7 (by decide) (fun c_7 => ?_) (fun c_7 => ?_)
      · exact W.vret hx hb hr (fun t ht hW => ⟨⟨f1, rfl, trivial, by show va_P D vwCl _ t.heap; rw [ht]; exact hP, hD⟩, hS.F ht⟩) hS.2.2 dJ7_fill_53178_20
      · have i_7 := ti_nlek (nI_toInt hn0) rfl c_7
        refine lv_aload_n hx hb dJ7_fill_53178_10 rfl (lv_at hl 0 rfl) ?_
        refine lv_iload_n hx hb dJ7_fill_53178_11 rfl (lv_at hl 2 rfl) ?_
        refine lv_iload_n hx hb dJ7_fill_53178_12 rfl (lv_at hl 1 rfl) ?_
        refine va_iast hx hb hK hP hD hS 0 1 rfl rfl (ti_vp h2 i_7) dJ7_fill_53178_13 (fun H locs hP hD hS => ?_)
        obtain ⟨v_14, e_14⟩ : ∃ y : Int32, y = z2 + 1 := ⟨_, rfl⟩
        refine lv_iinc (v := v_14) (lv' := [(2, .int v_14), (0, .ref a), (1, .int x1), (3, .int (nI n))]) hx hb dJ7_fill_53178_14 hl (k := 2) rfl (by rw [e_14]; rfl) (by decide) rfl (fun ls hl => ?_)
        have t_14 := ti_addk rfl tk_1 (by omega) (by omega) e_14
        refine lv_goto (tgt := 5) hx hb dJ7_fill_53178_17 (by decide) ?_
        exact ih v_14 _ _ _ hP hD hS (by omega) (by omega) ls (lv_sub hl [1, 2, 0, 3] rfl)
  have hl := lv_entry ([.ref a, .int x1]) (n := 4) (Nat.le_of_ble_eq_true rfl)
  rw [lg_entry_eq]
  generalize (lg_sl ([.ref a, .int x1]) ++ List.replicate (4 - (lg_sl ([.ref a, .int x1])).length) Slot.unset).toArray = ls at hl ⊢
  have hl : lv_has ls 4 [(0, .ref a), (1, .int x1)] := hl
  refine lv_iconst (v := 0) hx hb dJ7_fill_53178_0 (by decide) ?_
  refine lv_istore_n (lv' := [(2, .int 0), (0, .ref a), (1, .int x1)]) hx hb dJ7_fill_53178_1 rfl hl (by decide) rfl (fun ls hl => ?_)
  refine lv_aload_n hx hb dJ7_fill_53178_2 rfl (lv_at hl 1 rfl) ?_
  refine va_alen hx hb hK hP 0 1 rfl rfl (v := nI n) rfl dJ7_fill_53178_3 ?_
  refine lv_istore_n (lv' := [(3, .int (nI n)), (2, .int 0), (0, .ref a), (1, .int x1)]) hx hb dJ7_fill_53178_4 rfl hl (by decide) rfl (fun ls hl => ?_)
  exact L5 _ 0 f _ _ hP hD hS (by decide) (Nat.lt_succ_self _) ls (lv_sub hl [2, 3, 1, 0] rfl)
set_option maxHeartbeats 4000000 in
set_option maxRecDepth 100000 in
theorem c_X5_init (l : Launch) (D : va_G) (cy : Nat → ClassId) (h0 : Nat) (sz : Nat) (r : Nat) : Met l yX5_init (Cond.code yX5_init cX5_init 2 none :: wsL_law) ({ frames := 1, cells := 5, slots := 4462, locals := 23 } : Room) (va_Pc [.ref h0, .ref r] (fun U => U.heap.size = sz ∧ va_P D vwCl [(h0, .inr (5, [.null, .null, .null, .null, .null, .int 0, .null]))] U.heap ∧ va_K D vwCl (cty cy) U ∧ va_D (fun _ => True) [(h0, .inr (5, [.null, .null, .null, .null, .null, .int 0, .null]))])) (va_Qv (fun (u : (Nat → Nat) × (Nat → Int32) × (Nat → Int32)) => True) (fun u t => va_P D vwCl ([(h0, .inr (5, [.ref r, .ref (u.1 0), .ref (u.1 1), .ref (u.1 2), .ref (u.1 3), .int 0, .ref (u.1 4)])), (u.1 0, .inl (cy 1, 128, .inl u.2.1)), (u.1 1, .inl (cy 1, 2100, .inl (fun _ => 0))), (u.1 2, .inl (cy 1, 2100, .inl (fun _ => 0))), (u.1 3, .inl (cy 1, 70, .inl (fun _ => 0))), (u.1 4, .inl (cy 1, 64, .inl u.2.2))]) t.heap ∧ va_D (va_A [(h0, .inr (5, [.null, .null, .null, .null, .null, .int 0, .null]))] sz) ([(h0, .inr (5, [.ref r, .ref (u.1 0), .ref (u.1 1), .ref (u.1 2), .ref (u.1 3), .int 0, .ref (u.1 4)])), (u.1 0, .inl (cy 1, 128, .inl u.2.1)), (u.1 1, .inl (cy 1, 2100, .inl (fun _ => 0))), (u.1 2, .inl (cy 1, 2100, .inl (fun _ => 0))), (u.1 3, .inl (cy 1, 70, .inl (fun _ => 0))), (u.1 4, .inl (cy 1, 64, .inl u.2.2))])) (va_A [(h0, .inr (5, [.null, .null, .null, .null, .null, .int 0, .null]))] sz)) 5 4462 (va_A [(h0, .inr (5, [.null, .null, .null, .null, .null, .int 0, .null]))] sz) := by
  refine Met.ofW (cc := cX5_init) (maxL := 2) (ret := none) (by decide) rfl ?_
  intro p e s m args below meth c s₁ B hml hv
  obtain ⟨rfl, hsz, hP, hK, hD0⟩ := hv
  have hx := B.exec
  have hb := B.bytes
  have hr := B.returns
  have hT : ∀ w ∈ wsL_law, w.before ([.ref h0, .ref r] : List Value).toArray s = true := fun w h => atoms_spec (ws := (Cond.code yX5_init cX5_init 2 none :: wsL_law)) B.pre w (List.mem_cons_of_mem _ h)
  have hown : s.vm.findClass RX5 = some m.cls := findClass_of_methodNamed B.named
  have hlocks := B.notSynchronized
  have hin : meth.name = "<init>" := (name_of_methodNamed B.named B.method).1
  subst hsz
  have hD := hD0.self (sz := s.heap.size)
  generalize hAe : va_A [(h0, .inr (5, [.null, .null, .null, .null, .null, .int 0, .null]))] s.heap.size = A at hD ⊢
  have hA : ∀ q : Nat, s.heap.size ≤ q → A q := fun q h => by rw [← hAe]; exact Or.inr h
  have hS : va_S A s.heap s.heap [] := va_S.rf
  have hl := lv_entry ([.ref h0, .ref r]) (n := 2) (Nat.le_of_ble_eq_true rfl)
  rw [lg_entry_eq]
  generalize (lg_sl ([.ref h0, .ref r]) ++ List.replicate (2 - (lg_sl ([.ref h0, .ref r])).length) Slot.unset).toArray = ls at hl ⊢
  have hl : lv_has ls 2 [(0, .ref h0), (1, .ref r)] := hl
  refine lv_aload_n hx hb dX5_init_0 rfl (lv_at hl 0 rfl) ?_
  refine W.objInit hx hb hown (hT _ (tr_3 _ (List.mem_of_getElem? (i := 11) rfl))) (hT _ (tr_1 _ (List.mem_of_getElem? (i := 10) rfl))) (hT _ (tr_1 _ (List.mem_of_getElem? (i := 11) rfl))) rfl (by rw [hml]; exact hl.1) rfl dX5_init_1 (Nat.le_of_ble_eq_true rfl) (Nat.le_of_ble_eq_true rfl) ?_
  refine W.eq (g2 := F0 m 4 ls []) rfl ?_
  refine lv_aload_n hx hb dX5_init_4 rfl (lv_at hl 0 rfl) ?_
  refine lv_sipush (v := 128) hx hb dX5_init_5 (by decide) ?_
  refine nw_int hx hb (hT _ (tr_2 _ (List.mem_of_getElem? (i := 17) rfl))) hK hP hD hS hA (N' := 128) (by decide) (by decide) (by decide) (Nat.le_of_ble_eq_true rfl) (Nat.le_of_ble_eq_true rfl) dX5_init_8 (fun q4 H hP hD hS => ?_)
  have hP : va_P D vwCl ([(h0, .inr (5, [.null, .null, .null, .null, .null, .int 0, .null])), (q4, .inl (cy 1, 128, .inl (fun _ => 0)))]) H := hP
  have hD : va_D A ([(h0, .inr (5, [.null, .null, .null, .null, .null, .int 0, .null])), (q4, .inl (cy 1, 128, .inl (fun _ => 0)))]) := hD
  refine va_putF (D := D) (ci := 5) (v := .ref q4) (ty := .array .int) (C := RX5) (T := TX5) (N := 7) hx hb hT inlX5 tyX5 tyX5_ok nmX5 hown hK hP hD hS 0 rfl rfl 1 (by decide) (hT _ (tr_3 _ (List.mem_of_getElem? (i := 12) rfl))) (fun _ h9 => h9) rfl hin rfl (by decide +kernel) rfl rfl (Nat.le_of_ble_eq_true rfl) dX5_init_10 (fun H locs hP hD hS => ?_)
  have hP : va_P D vwCl ([(h0, .inr (5, [.null, .ref q4, .null, .null, .null, .int 0, .null])), (q4, .inl (cy 1, 128, .inl (fun _ => 0)))]) H := hP
  have hD : va_D A ([(h0, .inr (5, [.null, .ref q4, .null, .null, .null, .int 0, .null])), (q4, .inl (cy 1, 128, .inl (fun _ => 0)))]) := hD
  refine lv_aload_n hx hb dX5_init_13 rfl (lv_at hl 0 rfl) ?_
  refine lv_sipush (v := 2100) hx hb dX5_init_14 (by decide) ?_
  refine nw_int hx hb (hT _ (tr_2 _ (List.mem_of_getElem? (i := 17) rfl))) hK hP hD hS hA (N' := 2100) (by decide) (by decide) (by decide) (Nat.le_of_ble_eq_true rfl) (Nat.le_of_ble_eq_true rfl) dX5_init_17 (fun q13 H hP hD hS => ?_)
  have hP : va_P D vwCl ([(h0, .inr (5, [.null, .ref q4, .null, .null, .null, .int 0, .null])), (q4, .inl (cy 1, 128, .inl (fun _ => 0))), (q13, .inl (cy 1, 2100, .inl (fun _ => 0)))]) H := hP
  have hD : va_D A ([(h0, .inr (5, [.null, .ref q4, .null, .null, .null, .int 0, .null])), (q4, .inl (cy 1, 128, .inl (fun _ => 0))), (q13, .inl (cy 1, 2100, .inl (fun _ => 0)))]) := hD
  refine va_putF (D := D) (ci := 5) (v := .ref q13) (ty := .array .int) (C := RX5) (T := TX5) (N := 7) hx hb hT inlX5 tyX5 tyX5_ok nmX5 hown hK hP hD hS 0 rfl rfl 2 (by decide) (hT _ (tr_3 _ (List.mem_of_getElem? (i := 13) rfl))) (fun _ h9 => h9) rfl hin rfl (by decide +kernel) rfl rfl (Nat.le_of_ble_eq_true rfl) dX5_init_19 (fun H locs hP hD hS => ?_)
  have hP : va_P D vwCl ([(h0, .inr (5, [.null, .ref q4, .ref q13, .null, .null, .int 0, .null])), (q4, .inl (cy 1, 128, .inl (fun _ => 0))), (q13, .inl (cy 1, 2100, .inl (fun _ => 0)))]) H := hP
  have hD : va_D A ([(h0, .inr (5, [.null, .ref q4, .ref q13, .null, .null, .int 0, .null])), (q4, .inl (cy 1, 128, .inl (fun _ => 0))), (q13, .inl (cy 1, 2100, .inl (fun _ => 0)))]) := hD
  refine lv_aload_n hx hb dX5_init_22 rfl (lv_at hl 0 rfl) ?_
  refine lv_sipush (v := 2100) hx hb dX5_init_23 (by decide) ?_
  refine nw_int hx hb (hT _ (tr_2 _ (List.mem_of_getElem? (i := 17) rfl))) hK hP hD hS hA (N' := 2100) (by decide) (by decide) (by decide) (Nat.le_of_ble_eq_true rfl) (Nat.le_of_ble_eq_true rfl) dX5_init_26 (fun q22 H hP hD hS => ?_)
  have hP : va_P D vwCl ([(h0, .inr (5, [.null, .ref q4, .ref q13, .null, .null, .int 0, .null])), (q4, .inl (cy 1, 128, .inl (fun _ => 0))), (q13, .inl (cy 1, 2100, .inl (fun _ => 0))), (q22, .inl (cy 1, 2100, .inl (fun _ => 0)))]) H := hP
  have hD : va_D A ([(h0, .inr (5, [.null, .ref q4, .ref q13, .null, .null, .int 0, .null])), (q4, .inl (cy 1, 128, .inl (fun _ => 0))), (q13, .inl (cy 1, 2100, .inl (fun _ => 0))), (q22, .inl (cy 1, 2100, .inl (fun _ => 0)))]) := hD
  refine va_putF (D := D) (ci := 5) (v := .ref q22) (ty := .array .int) (C := RX5) (T := TX5) (N := 7) hx hb hT inlX5 tyX5 tyX5_ok nmX5 hown hK hP hD hS 0 rfl rfl 3 (by decide) (hT _ (tr_3 _ (List.mem_of_getElem? (i := 14) rfl))) (fun _ h9 => h9) rfl hin rfl (by decide +kernel) rfl rfl (Nat.le_of_ble_eq_true rfl) dX5_init_28 (fun H locs hP hD hS => ?_)
  have hP : va_P D vwCl ([(h0, .inr (5, [.null, .ref q4, .ref q13, .ref q22, .null, .int 0, .null])), (q4, .inl (cy 1, 128, .inl (fun _ => 0))), (q13, .inl (cy 1, 2100, .inl (fun _ => 0))), (q22, .inl (cy 1, 2100, .inl (fun _ => 0)))]) H := hP
  have hD : va_D A ([(h0, .inr (5, [.null, .ref q4, .ref q13, .ref q22, .null, .int 0, .null])), (q4, .inl (cy 1, 128, .inl (fun _ => 0))), (q13, .inl (cy 1, 2100, .inl (fun _ => 0))), (q22, .inl (cy 1, 2100, .inl (fun _ => 0)))]) := hD
  refine lv_aload_n hx hb dX5_init_31 rfl (lv_at hl 0 rfl) ?_
  refine lv_bipush (v := 70) hx hb dX5_init_32 (by decide) ?_
  refine nw_int hx hb (hT _ (tr_2 _ (List.mem_of_getElem? (i := 17) rfl))) hK hP hD hS hA (N' := 70) (by decide) (by decide) (by decide) (Nat.le_of_ble_eq_true rfl) (Nat.le_of_ble_eq_true rfl) dX5_init_34 (fun q31 H hP hD hS => ?_)
  have hP : va_P D vwCl ([(h0, .inr (5, [.null, .ref q4, .ref q13, .ref q22, .null, .int 0, .null])), (q4, .inl (cy 1, 128, .inl (fun _ => 0))), (q13, .inl (cy 1, 2100, .inl (fun _ => 0))), (q22, .inl (cy 1, 2100, .inl (fun _ => 0))), (q31, .inl (cy 1, 70, .inl (fun _ => 0)))]) H := hP
  have hD : va_D A ([(h0, .inr (5, [.null, .ref q4, .ref q13, .ref q22, .null, .int 0, .null])), (q4, .inl (cy 1, 128, .inl (fun _ => 0))), (q13, .inl (cy 1, 2100, .inl (fun _ => 0))), (q22, .inl (cy 1, 2100, .inl (fun _ => 0))), (q31, .inl (cy 1, 70, .inl (fun _ => 0)))]) := hD
  refine va_putF (D := D) (ci := 5) (v := .ref q31) (ty := .array .int) (C := RX5) (T := TX5) (N := 7) hx hb hT inlX5 tyX5 tyX5_ok nmX5 hown hK hP hD hS 0 rfl rfl 4 (by decide) (hT _ (tr_3 _ (List.mem_of_getElem? (i := 15) rfl))) (fun _ h9 => h9) rfl hin rfl (by decide +kernel) rfl rfl (Nat.le_of_ble_eq_true rfl) dX5_init_36 (fun H locs hP hD hS => ?_)
  have hP : va_P D vwCl ([(h0, .inr (5, [.null, .ref q4, .ref q13, .ref q22, .ref q31, .int 0, .null])), (q4, .inl (cy 1, 128, .inl (fun _ => 0))), (q13, .inl (cy 1, 2100, .inl (fun _ => 0))), (q22, .inl (cy 1, 2100, .inl (fun _ => 0))), (q31, .inl (cy 1, 70, .inl (fun _ => 0)))]) H := hP
  have hD : va_D A ([(h0, .inr (5, [.null, .ref q4, .ref q13, .ref q22, .ref q31, .int 0, .null])), (q4, .inl (cy 1, 128, .inl (fun _ => 0))), (q13, .inl (cy 1, 2100, .inl (fun _ => 0))), (q22, .inl (cy 1, 2100, .inl (fun _ => 0))), (q31, .inl (cy 1, 70, .inl (fun _ => 0)))]) := hD
  refine lv_aload_n hx hb dX5_init_39 rfl (lv_at hl 0 rfl) ?_
  refine lv_bipush (v := 64) hx hb dX5_init_40 (by decide) ?_
  refine nw_int hx hb (hT _ (tr_2 _ (List.mem_of_getElem? (i := 17) rfl))) hK hP hD hS hA (N' := 64) (by decide) (by decide) (by decide) (Nat.le_of_ble_eq_true rfl) (Nat.le_of_ble_eq_true rfl) dX5_init_42 (fun q39 H hP hD hS => ?_)
  have hP : va_P D vwCl ([(h0, .inr (5, [.null, .ref q4, .ref q13, .ref q22, .ref q31, .int 0, .null])), (q4, .inl (cy 1, 128, .inl (fun _ => 0))), (q13, .inl (cy 1, 2100, .inl (fun _ => 0))), (q22, .inl (cy 1, 2100, .inl (fun _ => 0))), (q31, .inl (cy 1, 70, .inl (fun _ => 0))), (q39, .inl (cy 1, 64, .inl (fun _ => 0)))]) H := hP
  have hD : va_D A ([(h0, .inr (5, [.null, .ref q4, .ref q13, .ref q22, .ref q31, .int 0, .null])), (q4, .inl (cy 1, 128, .inl (fun _ => 0))), (q13, .inl (cy 1, 2100, .inl (fun _ => 0))), (q22, .inl (cy 1, 2100, .inl (fun _ => 0))), (q31, .inl (cy 1, 70, .inl (fun _ => 0))), (q39, .inl (cy 1, 64, .inl (fun _ => 0)))]) := hD
  refine va_putF (D := D) (ci := 5) (v := .ref q39) (ty := .array .int) (C := RX5) (T := TX5) (N := 7) hx hb hT inlX5 tyX5 tyX5_ok nmX5 hown hK hP hD hS 0 rfl rfl 6 (by decide) (hT _ (tr_3 _ (List.mem_of_getElem? (i := 16) rfl))) (fun _ h9 => h9) rfl hin rfl (by decide +kernel) rfl rfl (Nat.le_of_ble_eq_true rfl) dX5_init_44 (fun H locs hP hD hS => ?_)
  have hP : va_P D vwCl ([(h0, .inr (5, [.null, .ref q4, .ref q13, .ref q22, .ref q31, .int 0, .ref q39])), (q4, .inl (cy 1, 128, .inl (fun _ => 0))), (q13, .inl (cy 1, 2100, .inl (fun _ => 0))), (q22, .inl (cy 1, 2100, .inl (fun _ => 0))), (q31, .inl (cy 1, 70, .inl (fun _ => 0))), (q39, .inl (cy 1, 64, .inl (fun _ => 0)))]) H := hP
  have hD : va_D A ([(h0, .inr (5, [.null, .ref q4, .ref q13, .ref q22, .ref q31, .int 0, .ref q39])), (q4, .inl (cy 1, 128, .inl (fun _ => 0))), (q13, .inl (cy 1, 2100, .inl (fun _ => 0))), (q22, .inl (cy 1, 2100, .inl (fun _ => 0))), (q31, .inl (cy 1, 70, .inl (fun _ => 0))), (q39, .inl (cy 1, 64, .inl (fun _ => 0)))]) := hD
  refine lv_aload_n hx hb dX5_init_47 rfl (lv_at hl 0 rfl) ?_
  refine lv_aload_n hx hb dX5_init_48 rfl (lv_at hl 1 rfl) ?_
  refine va_putF (D := D) (ci := 5) (v := .ref r) (ty := .object "TariffDesk$Tariffs") (C := RX5) (T := TX5) (N := 7) hx hb hT inlX5 tyX5 tyX5_ok nmX5 hown hK hP hD hS 0 rfl rfl 0 (by decide) (hT _ (tr_3 _ (List.mem_of_getElem? (i := 17) rfl))) (fun _ h9 => h9) rfl hin rfl (by decide +kernel) rfl rfl (Nat.le_of_ble_eq_true rfl) dX5_init_49 (fun H locs hP hD hS => ?_)
  have hP : va_P D vwCl ([(h0, .inr (5, [.ref r, .ref q4, .ref q13, .ref q22, .ref q31, .int 0, .ref q39])), (q4, .inl (cy 1, 128, .inl (fun _ => 0))), (q13, .inl (cy 1, 2100, .inl (fun _ => 0))), (q22, .inl (cy 1, 2100, .inl (fun _ => 0))), (q31, .inl (cy 1, 70, .inl (fun _ => 0))), (q39, .inl (cy 1, 64, .inl (fun _ => 0)))]) H := hP
  have hD : va_D A ([(h0, .inr (5, [.ref r, .ref q4, .ref q13, .ref q22, .ref q31, .int 0, .ref q39])), (q4, .inl (cy 1, 128, .inl (fun _ => 0))), (q13, .inl (cy 1, 2100, .inl (fun _ => 0))), (q22, .inl (cy 1, 2100, .inl (fun _ => 0))), (q31, .inl (cy 1, 70, .inl (fun _ => 0))), (q39, .inl (cy 1, 64, .inl (fun _ => 0)))]) := hD
  refine lv_aload_n hx hb dX5_init_52 rfl (lv_at hl 0 rfl) ?_
  refine va_get (D := D) (ci := 5) (v := .ref q4) (C := RX5) (T := TX5) (N := 7) hx hb hT inlX5 hown hK hP 0 rfl rfl 1 (by decide) (hT _ (tr_3 _ (List.mem_of_getElem? (i := 12) rfl))) (fun _ h9 => h9) rfl dX5_init_53 ?_
  refine lv_iconst (v := (-1)) hx hb dX5_init_56 (by decide) ?_
  have hPc := hP.sub (ws' := [(q4, .inl (cy 1, 128, .inl (fun _ => 0)))]) [1] rfl
  have hDc := hD.sub (ws' := [(q4, .inl (cy 1, 128, .inl (fun _ => 0)))]) [1] (by decide) rfl
  have hFc := va_free (wc := [(q4, .inl (cy 1, 128, .inl (fun _ => 0)))]) hD hS hA [1] rfl
  refine va_callv (va_runS (As := [.ref q4, .int (-1)]) (rest := []) ⟨hx, hb, hml, hown, hT⟩ (c_fill l D cy q4 H.size 128 (by decide) (fun _ => 0) (-1)) (va_cwS 2 hT (tb_S (fun _ h => h) (tr_3 _ (List.mem_of_getElem? (i := 18) rfl)) (tr_3 _ (List.mem_of_getElem? (i := 19) rfl)) (tr_3 _ (List.mem_of_getElem? (i := 20) rfl)) (tr_3 _ (List.mem_of_getElem? (i := 21) rfl))) rfl rfl rfl (by decide +kernel) ⟨Nat.le_of_ble_eq_true rfl, Nat.le_of_ble_eq_true rfl⟩) ⟨fun a U f mk q => ⟨q.1, q.2.1, q.2.2.1, va_K.moved (u := U) (U := U.calling f mk a) (Vm.Alike.refl U.vm) q.2.2.2.1, q.2.2.2.2⟩, fun U hU hW => ⟨rfl, by rw [hU], by rw [hU]; exact hPc, va_K.moved hW.alike hK, hDc.weaken (fun _ _ _ _ => trivial)⟩⟩ rfl rfl hl.1 rfl (lv_room (Nat.le_of_ble_eq_true rfl)) dX5_init_57 ⟨Nat.le_of_ble_eq_true rfl, Nat.le_of_ble_eq_true rfl⟩) hS (fun q _ h => hFc q h) hFc (fun f6 t H1 locs ht hvm hw hB hz1 hk1 hS => ?_)
  obtain ⟨hP1, hD1⟩ := hB
  rw [ht] at hP1
  obtain ⟨hP, hD⟩ := va_join (wr := [(h0, .inr (5, [.ref r, .ref q4, .ref q13, .ref q22, .ref q31, .int 0, .ref q39])), (q13, .inl (cy 1, 2100, .inl (fun _ => 0))), (q22, .inl (cy 1, 2100, .inl (fun _ => 0))), (q31, .inl (cy 1, 70, .inl (fun _ => 0))), (q39, .inl (cy 1, 64, .inl (fun _ => 0)))]) (w1 := [(q4, .inl (cy 1, 128, .inl f6))]) hP hD [1] [0, 2, 3, 4, 5] rfl rfl (by decide) (by decide) hk1 hFc hP1 hD1
  generalize H1 = H at hP hS ⊢
  have hP : va_P D vwCl ([(h0, .inr (5, [.ref r, .ref q4, .ref q13, .ref q22, .ref q31, .int 0, .ref q39])), (q13, .inl (cy 1, 2100, .inl (fun _ => 0))), (q22, .inl (cy 1, 2100, .inl (fun _ => 0))), (q31, .inl (cy 1, 70, .inl (fun _ => 0))), (q39, .inl (cy 1, 64, .inl (fun _ => 0))), (q4, .inl (cy 1, 128, .inl f6))]) H := hP
  have hD : va_D A ([(h0, .inr (5, [.ref r, .ref q4, .ref q13, .ref q22, .ref q31, .int 0, .ref q39])), (q13, .inl (cy 1, 2100, .inl (fun _ => 0))), (q22, .inl (cy 1, 2100, .inl (fun _ => 0))), (q31, .inl (cy 1, 70, .inl (fun _ => 0))), (q39, .inl (cy 1, 64, .inl (fun _ => 0))), (q4, .inl (cy 1, 128, .inl f6))]) := hD
  refine lv_aload_n hx hb dX5_init_60 rfl (lv_at hl 0 rfl) ?_
  refine va_get (D := D) (ci := 5) (v := .ref q39) (C := RX5) (T := TX5) (N := 7) hx hb hT inlX5 hown hK hP 0 rfl rfl 6 (by decide) (hT _ (tr_3 _ (List.mem_of_getElem? (i := 16) rfl))) (fun _ h9 => h9) rfl dX5_init_61 ?_
  refine lv_iconst (v := (-1)) hx hb dX5_init_64 (by decide) ?_
  have hPc := hP.sub (ws' := [(q39, .inl (cy 1, 64, .inl (fun _ => 0)))]) [4] rfl
  have hDc := hD.sub (ws' := [(q39, .inl (cy 1, 64, .inl (fun _ => 0)))]) [4] (by decide) rfl
  have hFc := va_free (wc := [(q39, .inl (cy 1, 64, .inl (fun _ => 0)))]) hD hS hA [4] rfl
  refine va_callv (va_runS (As := [.ref q39, .int (-1)]) (rest := []) ⟨hx, hb, hml, hown, hT⟩ (c_fill l D cy q39 H.size 64 (by decide) (fun _ => 0) (-1)) (va_cwS 2 hT (tb_S (fun _ h => h) (tr_3 _ (List.mem_of_getElem? (i := 18) rfl)) (tr_3 _ (List.mem_of_getElem? (i := 19) rfl)) (tr_3 _ (List.mem_of_getElem? (i := 20) rfl)) (tr_3 _ (List.mem_of_getElem? (i := 21) rfl))) rfl rfl rfl (by decide +kernel) ⟨Nat.le_of_ble_eq_true rfl, Nat.le_of_ble_eq_true rfl⟩) ⟨fun a U f mk q => ⟨q.1, q.2.1, q.2.2.1, va_K.moved (u := U) (U := U.calling f mk a) (Vm.Alike.refl U.vm) q.2.2.2.1, q.2.2.2.2⟩, fun U hU hW => ⟨rfl, by rw [hU], by rw [hU]; exact hPc, va_K.moved hW.alike hK, hDc.weaken (fun _ _ _ _ => trivial)⟩⟩ rfl rfl hl.1 rfl (lv_room (Nat.le_of_ble_eq_true rfl)) dX5_init_65 ⟨Nat.le_of_ble_eq_true rfl, Nat.le_of_ble_eq_true rfl⟩) hS (fun q _ h => hFc q h) hFc (fun f10 t H1 locs ht hvm hw hB hz1 hk1 hS => ?_)
  obtain ⟨hP1, hD1⟩ := hB
  rw [ht] at hP1
  obtain ⟨hP, hD⟩ := va_join (wr := [(h0, .inr (5, [.ref r, .ref q4, .ref q13, .ref q22, .ref q31, .int 0, .ref q39])), (q13, .inl (cy 1, 2100, .inl (fun _ => 0))), (q22, .inl (cy 1, 2100, .inl (fun _ => 0))), (q31, .inl (cy 1, 70, .inl (fun _ => 0))), (q4, .inl (cy 1, 128, .inl f6))]) (w1 := [(q39, .inl (cy 1, 64, .inl f10))]) hP hD [4] [0, 1, 2, 3, 5] rfl rfl (by decide) (by decide) hk1 hFc hP1 hD1
  generalize H1 = H at hP hS ⊢
  have hP : va_P D vwCl ([(h0, .inr (5, [.ref r, .ref q4, .ref q13, .ref q22, .ref q31, .int 0, .ref q39])), (q13, .inl (cy 1, 2100, .inl (fun _ => 0))), (q22, .inl (cy 1, 2100, .inl (fun _ => 0))), (q31, .inl (cy 1, 70, .inl (fun _ => 0))), (q4, .inl (cy 1, 128, .inl f6)), (q39, .inl (cy 1, 64, .inl f10))]) H := hP
  have hD : va_D A ([(h0, .inr (5, [.ref r, .ref q4, .ref q13, .ref q22, .ref q31, .int 0, .ref q39])), (q13, .inl (cy 1, 2100, .inl (fun _ => 0))), (q22, .inl (cy 1, 2100, .inl (fun _ => 0))), (q31, .inl (cy 1, 70, .inl (fun _ => 0))), (q4, .inl (cy 1, 128, .inl f6)), (q39, .inl (cy 1, 64, .inl f10))]) := hD
  have hP := hP.sub (ws' := [(h0, .inr (5, [.ref r, .ref q4, .ref q13, .ref q22, .ref q31, .int 0, .ref q39])), (q4, .inl (cy 1, 128, .inl f6)), (q13, .inl (cy 1, 2100, .inl (fun _ => 0))), (q22, .inl (cy 1, 2100, .inl (fun _ => 0))), (q31, .inl (cy 1, 70, .inl (fun _ => 0))), (q39, .inl (cy 1, 64, .inl f10))]) [0, 4, 1, 2, 3, 5] rfl
  have hD := hD.sub (ws' := [(h0, .inr (5, [.ref r, .ref q4, .ref q13, .ref q22, .ref q31, .int 0, .ref q39])), (q4, .inl (cy 1, 128, .inl f6)), (q13, .inl (cy 1, 2100, .inl (fun _ => 0))), (q22, .inl (cy 1, 2100, .inl (fun _ => 0))), (q31, .inl (cy 1, 70, .inl (fun _ => 0))), (q39, .inl (cy 1, 64, .inl f10))]) [0, 4, 1, 2, 3, 5] (by decide) rfl
  refine W.widen (k := 5) (n := 4462) (Nat.le_of_ble_eq_true rfl) (Nat.le_of_ble_eq_true rfl) ?_
  exact W.vret hx hb hr (fun t ht hW => ⟨⟨((fun i => ([q4, q13, q22, q31, q39] : List Nat).getD i 0), f6, f10), rfl, trivial, by show va_P D vwCl _ t.heap; rw [ht]; exact hP, hD⟩, hS.F ht⟩) hS.2.2 dX5_init_68
end
section
set_option maxHeartbeats 4000000 in
set_option maxRecDepth 100000 in
theorem c_X4_init_70 (l : Launch) (D : va_G) (cy : Nat → ClassId) (h0 : Nat) (sz : Nat)  : Met l yX4_init (Cond.code yX4_init cX4_init 3 none :: wsL_law) ({ frames := 2, cells := 71, slots := 420, locals := 40 } : Room) (va_Pc [.ref h0, .int 70] (fun U => U.heap.size = sz ∧ va_P D vwCl [(h0, .inr (4, [.null, .int 0]))] U.heap ∧ va_K D vwCl (cty cy) U ∧ va_D (fun _ => True) [(h0, .inr (4, [.null, .int 0]))] ∧ va_AO RX3 U ∧ va_Nw (.methodLinkNest RX4 21 yX3_init RX6) U)) (va_Qv (fun (u : Nat × (Nat → Option Nat) × List Nat) => (∀ j, j < 70 → ∃ a, a ∈ u.2.2 ∧ u.2.1 j = some a)) (fun u t => va_P D vwCl ([(h0, .inr (4, [.ref u.1, .int 0])), (u.1, .inl (cy 3, 70, .inr (.inr (.inr (.inr u.2.1)))))] ++ va_pl u.2.2 (tfF (fun _ _ => 0))) t.heap ∧ va_D (va_A [(h0, .inr (4, [.null, .int 0]))] sz) ([(h0, .inr (4, [.ref u.1, .int 0])), (u.1, .inl (cy 3, 70, .inr (.inr (.inr (.inr u.2.1)))))] ++ va_pl u.2.2 (tfF (fun _ _ => 0)))) (va_A [(h0, .inr (4, [.null, .int 0]))] sz)) 71 420 (va_A [(h0, .inr (4, [.null, .int 0]))] sz) := by
  refine Met.ofW (cc := cX4_init) (maxL := 3) (ret := none) (by decide) rfl ?_
  intro p e s m args below meth c s₁ B hml hv
  obtain ⟨rfl, hsz, hP, hK, hD0, hX⟩ := hv
  have hx := B.exec
  have hb := B.bytes
  have hr := B.returns
  have hT : ∀ w ∈ wsL_law, w.before ([.ref h0, .int 70] : List Value).toArray s = true := fun w h => atoms_spec (ws := (Cond.code yX4_init cX4_init 3 none :: wsL_law)) B.pre w (List.mem_cons_of_mem _ h)
  have hown : s.vm.findClass RX4 = some m.cls := findClass_of_methodNamed B.named
  have hlocks := B.notSynchronized
  have hin : meth.name = "<init>" := (name_of_methodNamed B.named B.method).1
  subst hsz
  have hD := hD0.self (sz := s.heap.size)
  generalize hAe : va_A [(h0, .inr (4, [.null, .int 0]))] s.heap.size = A at hD ⊢
  have hA : ∀ q : Nat, s.heap.size ≤ q → A q := fun q h => by rw [← hAe]; exact Or.inr h
  have hS : va_S A s.heap s.heap [] := va_S.rf
  have L18 : ∀ (k i : Nat) (q1 : Nat) (f : Nat → Option Nat) (LP : List Nat) (H : Heap) (locs : List Loc) (hP : va_P D vwCl ([(h0, .inr (4, [.ref q1, .int 0])), (q1, .inl (cy 3, 70, .inr (.inr (.inr (.inr f)))))] ++ va_pl LP (tfF (fun _ _ => 0))) H) (hD : va_D A ([(h0, .inr (4, [.ref q1, .int 0])), (q1, .inl (cy 3, 70, .inr (.inr (.inr (.inr f)))))] ++ va_pl LP (tfF (fun _ _ => 0)))) (hS : va_S A s.heap H locs) (hi : i ≤ 70) (hf : ∀ j, j < i → ∃ a, a ∈ LP ∧ f j = some a) (hn : 70 - i < k) (ls : Array Slot) (hl : lv_has ls 3 [(0, .ref h0), (1, .int 70), (2, .int (nI i))]), W p l e ({ frames := 2, cells := 71, slots := 420, locals := 40 } : Room) s m ([.ref h0, .int 70] : List Value).toArray below meth c H locs (1 + i) (70 + 5 * i) (MQ below (va_Qv (fun (u : Nat × (Nat → Option Nat) × List Nat) => (∀ j, j < 70 → ∃ a, a ∈ u.2.2 ∧ u.2.1 j = some a)) (fun u t => va_P D vwCl ([(h0, .inr (4, [.ref u.1, .int 0])), (u.1, .inl (cy 3, 70, .inr (.inr (.inr (.inr u.2.1)))))] ++ va_pl u.2.2 (tfF (fun _ _ => 0))) t.heap ∧ va_D A ([(h0, .inr (4, [.ref u.1, .int 0])), (u.1, .inl (cy 3, 70, .inr (.inr (.inr (.inr u.2.1)))))] ++ va_pl u.2.2 (tfF (fun _ _ => 0)))) A) ([.ref h0, .int 70] : List Value).toArray s 71 420 A) (F0 m 18 ls []) := by
    intro k
    induction k with
    | zero => intro i q1 f LP H locs hP hD hS hi hf hn; exact absurd hn (Nat.not_lt_zero _)
    | succ k ih =>
      intro i q1 f LP H locs hP hD hS hi hf hn ls hl
      refine lv_iload_n hx hb dX4_init_18 rfl (lv_at hl 2 rfl) ?_
      refine lv_aload_n hx hb dX4_init_19 rfl (lv_at hl 0 rfl) ?_
      refine va_get (D := D) (ci := 4) (v := .ref q1) (C := RX4) (T := TX4) (N := 2) hx hb hT inlX4 hown hK hP 0 rfl rfl 0 (by decide) (hT _ (tr_3 _ (List.mem_of_getElem? (i := 4) rfl))) (fun _ h9 => h9) rfl dX4_init_20 ?_
      refine va_alen hx hb hK hP 1 3 rfl rfl (v := 70) rfl dX4_init_23 ?_
      refine lv_icmp_ge (tgt := 46) hx hb dX4_init_24 (by decide) (fun c_24 => ?_) (fun c_24 => ?_)
      · have i_24 := ti_lek tk_70 (nI_toInt (by omega)) c_24
        have hiN : i = 70 := by omega
        subst hiN
        refine W.widen (k := 71) (n := 420) (by omega) (by omega) ?_
        exact W.vret hx hb hr (fun t ht hW => ⟨⟨(q1, f, LP), rfl, hf, by show va_P D vwCl _ t.heap; rw [ht]; exact hP, hD⟩, hS.F ht⟩) hS.2.2 dX4_init_46
      · have i_24 := ti_nlek tk_70 (nI_toInt (by omega)) c_24
        refine lv_aload_n hx hb dX4_init_27 rfl (lv_at hl 0 rfl) ?_
        refine va_get (D := D) (ci := 4) (v := .ref q1) (C := RX4) (T := TX4) (N := 2) hx hb hT inlX4 hown hK hP 0 rfl rfl 0 (by decide) (hT _ (tr_3 _ (List.mem_of_getElem? (i := 4) rfl))) (fun _ h9 => h9) rfl dX4_init_28 ?_
        refine lv_iload_n hx hb dX4_init_31 rfl (lv_at hl 2 rfl) ?_
        refine va_new (ci := 3) (fs := [.int 0, .int 0, .int 0, .int 0, .int 0]) (C := RX3) (T := TX3) (N := 5) hx hb hT inlX3 tyX3 tyX3_ok hown (hT _ (tr_3 _ (List.mem_of_getElem? (i := 3) rfl))) (hT _ (tr_2 _ (List.mem_of_getElem? (i := 9) rfl))) (hT _ (tr_2 _ (List.mem_of_getElem? (i := 10) rfl))) hK hP hD hS hA rfl (fun j hj => by rcases (show j = 0 ∨ j = 1 ∨ j = 2 ∨ j = 3 ∨ j = 4 by omega) with rfl | rfl | rfl | rfl | rfl <;> rfl) (show 1 + i + 1 ≤ 71 by omega) (show 70 + 5 * i + 5 ≤ 420 by omega) dX4_init_32 (fun q H hP hD hS => ?_)
        refine lv_dup hx hb dX4_init_35 rfl ?_
        have hFc := free2 hD hS hA
        refine va_callv (va_runIN (As := []) (rest := [.ref q, .int (nI i), .ref q1]) ⟨hx, hb, hml, hown, hT⟩ (c_X3_init l D cy q H.size) ⟨va_cnB 0 hT (tb_I (fun _ h => h) (tr_3 _ (List.mem_of_getElem? (i := 6) rfl))) rfl rfl rfl hX.2 (hT _ (tr_2 _ (List.mem_of_getElem? (i := 10) rfl))) (by decide +kernel) ⟨Nat.le_of_ble_eq_true rfl, Nat.le_of_ble_eq_true rfl⟩, rfl, hT _ (tr_3 _ (List.mem_of_getElem? (i := 5) rfl))⟩ ⟨fun a U f mk q => ⟨q.1, q.2.1, q.2.2.1, va_K.moved (u := U) (U := U.calling f mk a) (Vm.Alike.refl U.vm) q.2.2.2.1, q.2.2.2.2⟩, fun U hU hW => ⟨rfl, by rw [hU], by rw [hU]; exact part2 hP, va_K.moved hW.alike hK, partD hD⟩⟩ rfl rfl hl.1 rfl (lv_room (Nat.le_of_ble_eq_true rfl)) dX4_init_36 ⟨(show 1 + i + 1 + 0 ≤ 71 by omega), (show 70 + 5 * i + 5 + 0 ≤ 420 by omega)⟩) hS (fun q _ h => hFc q h) hFc (fun u t H1 locs ht hvm hw hB hz1 hk1 hS => ?_)
        obtain ⟨hP1, hD1⟩ := hB
        rw [ht] at hP1
        obtain ⟨hP, hD⟩ := join2 hP hD hk1 hFc hP1 hD1
        generalize H1 = H at hP hS ⊢
        have hin24 : vp_in (nI i) 70 := vp_in_nI (by omega) (by decide)
        refine va_astq (r := (RX3, TX3, 5)) hx hb hK hP hD hS 1 3 ([(h0, .inr (4, [.ref q1, .int 0])), (q1, .inl (cy 3, 70, .inr (.inr (.inr (.inr f)))))] ++ va_pl LP (tfF (fun _ _ => 0)) : va_W).length 3 rfl rfl (by rw [List.getElem?_append_right (Nat.le_refl _), Nat.sub_self]; rfl) rfl hin24 dX4_init_39 (fun H locs hP hD hS => ?_)
        rw [nI_clamp (show i < 2 ^ 31 by omega)] at hP hD
        have eW : va_pl (LP ++ [q]) (tfF (fun _ _ => 0)) = va_pl LP (tfF (fun _ _ => 0)) ++ [(q, .inr (3, [.int 0, .int 0, .int 0, .int 0, .int 0]))] := by simp [va_pl, tfF]
        have hP : va_P D vwCl ([(h0, .inr (4, [.ref q1, .int 0])), (q1, .inl (cy 3, 70, .inr (.inr (.inr (.inr (va_up f i (some q)))))))] ++ va_pl (LP ++ [q]) (tfF (fun _ _ => 0))) H := by rw [eW]; exact hP
        have hD : va_D A ([(h0, .inr (4, [.ref q1, .int 0])), (q1, .inl (cy 3, 70, .inr (.inr (.inr (.inr (va_up f i (some q)))))))] ++ va_pl (LP ++ [q]) (tfF (fun _ _ => 0))) := by rw [eW]; exact hD
        obtain ⟨v_40, e_40⟩ : ∃ y : Int32, y = nI i + 1 := ⟨_, rfl⟩
        refine lv_iinc (v := v_40) (lv' := [(2, .int v_40), (0, .ref h0), (1, .int 70)]) hx hb dX4_init_40 hl (k := 2) rfl (by rw [e_40]; rfl) (by decide) rfl (fun ls hl => ?_)
        refine lv_goto (tgt := 18) hx hb dX4_init_43 (by decide) ?_
        rw [nI_1] at e_40
        subst e_40
        refine W.widen (k := 1 + (i + 1)) (n := 70 + 5 * (i + 1)) (by omega) (by omega) ?_
        exact ih (i + 1) q1 _ _ _ _ hP hD hS (by omega) (fun j hj => by
          rcases Nat.lt_or_ge j i with z | z
          · obtain ⟨a, h1, h2⟩ := hf j z
            exact ⟨a, List.mem_append_left _ h1, by rw [va_up_ne _ _ (by omega)]; exact h2⟩
          · have zz : j = i := by omega
            subst zz
            exact ⟨q, List.mem_append_right _ List.mem_cons_self, va_up_self _ _ _⟩) (by omega) ls (lv_sub hl [1, 2, 0] rfl)
  have hl := lv_entry ([.ref h0, .int 70]) (n := 3) (Nat.le_of_ble_eq_true rfl)
  rw [lg_entry_eq]
  generalize (lg_sl ([.ref h0, .int 70]) ++ List.replicate (3 - (lg_sl ([.ref h0, .int 70])).length) Slot.unset).toArray = ls at hl ⊢
  have hl : lv_has ls 3 [(0, .ref h0), (1, .int 70)] := hl
  refine lv_aload_n hx hb dX4_init_0 rfl (lv_at hl 0 rfl) ?_
  refine W.objInit hx hb hown (hT _ (tr_2 _ (List.mem_of_getElem? (i := 22) rfl))) (hT _ (tr_1 _ (List.mem_of_getElem? (i := 10) rfl))) (hT _ (tr_1 _ (List.mem_of_getElem? (i := 11) rfl))) rfl (by rw [hml]; exact hl.1) rfl dX4_init_1 (Nat.le_of_ble_eq_true rfl) (Nat.le_of_ble_eq_true rfl) ?_
  refine W.eq (g2 := F0 m 4 ls []) rfl ?_
  refine lv_aload_n hx hb dX4_init_4 rfl (lv_at hl 0 rfl) ?_
  refine lv_iload_n hx hb dX4_init_5 rfl (lv_at hl 1 rfl) ?_
  refine lv_iconst (v := 1) hx hb dX4_init_6 (by decide) ?_
  refine va_mmax hx hb (hml.trans hl.1.symm) hown (hT _ (tr_2 _ (List.mem_of_getElem? (i := 23) rfl))) (hT _ (tr_3 _ (List.mem_of_getElem? (i := 0) rfl))) (hT _ (tr_3 _ (List.mem_of_getElem? (i := 1) rfl))) (hT _ (tr_3 _ (List.mem_of_getElem? (i := 2) rfl))) (Nat.le_of_ble_eq_true rfl) (Nat.le_of_ble_eq_true rfl) (Nat.zero_le _) (Nat.zero_le _) dX4_init_7 ?_
  refine lv_topi (fun v_7 e_7 => ?_)
  have e7 : v_7 = 70 := by rw [e_7]; decide
  subst e7
  refine nw_obj hx hb hown (hT _ (tr_3 _ (List.mem_of_getElem? (i := 3) rfl))) hX.1 hK hP hD hS hA (N' := 70) (by decide) (by decide) (by decide) (Nat.le_of_ble_eq_true rfl) (Nat.le_of_ble_eq_true rfl) dX4_init_10 (fun q10 H hP hD hS => ?_)
  have hP : va_P D vwCl ([(h0, .inr (4, [.null, .int 0])), (q10, .inl (cy 3, 70, .inr (.inr (.inr (.inr (fun _ => none))))))]) H := hP
  have hD : va_D A ([(h0, .inr (4, [.null, .int 0])), (q10, .inl (cy 3, 70, .inr (.inr (.inr (.inr (fun _ => none))))))]) := hD
  refine va_putF (D := D) (ci := 4) (v := .ref q10) (ty := .array (.object "TariffDesk$Tariff")) (C := RX4) (T := TX4) (N := 2) hx hb hT inlX4 tyX4 tyX4_ok nmX4 hown hK hP hD hS 0 rfl rfl 0 (by decide) (hT _ (tr_3 _ (List.mem_of_getElem? (i := 4) rfl))) (fun _ h9 => h9) rfl hin rfl (by decide +kernel) rfl rfl (Nat.le_of_ble_eq_true rfl) dX4_init_13 (fun H locs hP hD hS => ?_)
  have hP : va_P D vwCl ([(h0, .inr (4, [.ref q10, .int 0])), (q10, .inl (cy 3, 70, .inr (.inr (.inr (.inr (fun _ => none))))))] ++ va_pl [] (tfF (fun _ _ => 0))) H := hP
  have hD : va_D A ([(h0, .inr (4, [.ref q10, .int 0])), (q10, .inl (cy 3, 70, .inr (.inr (.inr (.inr (fun _ => none))))))] ++ va_pl [] (tfF (fun _ _ => 0))) := hD
  refine lv_iconst (v := 0) hx hb dX4_init_16 (by decide) ?_
  refine lv_istore_n (lv' := [(2, .int 0), (0, .ref h0), (1, .int 70)]) hx hb dX4_init_17 rfl hl (by decide) rfl (fun ls hl => ?_)
  refine W.widen (k := 1 + 0) (n := 70 + 5 * 0) (by omega) (by omega) ?_
  exact L18 (70 + 1) 0 q10 _ [] _ _ hP hD hS (by omega) (fun j hj => absurd hj (Nat.not_lt_zero _)) (by omega) ls (lv_sub hl [1, 2, 0] rfl)
set_option maxHeartbeats 4000000 in
set_option maxRecDepth 100000 in
theorem c_X4_init_40 (l : Launch) (D : va_G) (cy : Nat → ClassId) (h0 : Nat) (sz : Nat)  : Met l yX4_init (Cond.code yX4_init cX4_init 3 none :: wsL_law) ({ frames := 2, cells := 41, slots := 240, locals := 40 } : Room) (va_Pc [.ref h0, .int 40] (fun U => U.heap.size = sz ∧ va_P D vwCl [(h0, .inr (4, [.null, .int 0]))] U.heap ∧ va_K D vwCl (cty cy) U ∧ va_D (fun _ => True) [(h0, .inr (4, [.null, .int 0]))] ∧ va_AO RX3 U ∧ va_Nw (.methodLinkNest RX4 21 yX3_init RX6) U)) (va_Qv (fun (u : Nat × (Nat → Option Nat) × List Nat) => (∀ j, j < 40 → ∃ a, a ∈ u.2.2 ∧ u.2.1 j = some a)) (fun u t => va_P D vwCl ([(h0, .inr (4, [.ref u.1, .int 0])), (u.1, .inl (cy 3, 40, .inr (.inr (.inr (.inr u.2.1)))))] ++ va_pl u.2.2 (tfF (fun _ _ => 0))) t.heap ∧ va_D (va_A [(h0, .inr (4, [.null, .int 0]))] sz) ([(h0, .inr (4, [.ref u.1, .int 0])), (u.1, .inl (cy 3, 40, .inr (.inr (.inr (.inr u.2.1)))))] ++ va_pl u.2.2 (tfF (fun _ _ => 0)))) (va_A [(h0, .inr (4, [.null, .int 0]))] sz)) 41 240 (va_A [(h0, .inr (4, [.null, .int 0]))] sz) := by
  refine Met.ofW (cc := cX4_init) (maxL := 3) (ret := none) (by decide) rfl ?_
  intro p e s m args below meth c s₁ B hml hv
  obtain ⟨rfl, hsz, hP, hK, hD0, hX⟩ := hv
  have hx := B.exec
  have hb := B.bytes
  have hr := B.returns
  have hT : ∀ w ∈ wsL_law, w.before ([.ref h0, .int 40] : List Value).toArray s = true := fun w h => atoms_spec (ws := (Cond.code yX4_init cX4_init 3 none :: wsL_law)) B.pre w (List.mem_cons_of_mem _ h)
  have hown : s.vm.findClass RX4 = some m.cls := findClass_of_methodNamed B.named
  have hlocks := B.notSynchronized
  have hin : meth.name = "<init>" := (name_of_methodNamed B.named B.method).1
  subst hsz
  have hD := hD0.self (sz := s.heap.size)
  generalize hAe : va_A [(h0, .inr (4, [.null, .int 0]))] s.heap.size = A at hD ⊢
  have hA : ∀ q : Nat, s.heap.size ≤ q → A q := fun q h => by rw [← hAe]; exact Or.inr h
  have hS : va_S A s.heap s.heap [] := va_S.rf
  have L18 : ∀ (k i : Nat) (q1 : Nat) (f : Nat → Option Nat) (LP : List Nat) (H : Heap) (locs : List Loc) (hP : va_P D vwCl ([(h0, .inr (4, [.ref q1, .int 0])), (q1, .inl (cy 3, 40, .inr (.inr (.inr (.inr f)))))] ++ va_pl LP (tfF (fun _ _ => 0))) H) (hD : va_D A ([(h0, .inr (4, [.ref q1, .int 0])), (q1, .inl (cy 3, 40, .inr (.inr (.inr (.inr f)))))] ++ va_pl LP (tfF (fun _ _ => 0)))) (hS : va_S A s.heap H locs) (hi : i ≤ 40) (hf : ∀ j, j < i → ∃ a, a ∈ LP ∧ f j = some a) (hn : 40 - i < k) (ls : Array Slot) (hl : lv_has ls 3 [(0, .ref h0), (1, .int 40), (2, .int (nI i))]), W p l e ({ frames := 2, cells := 41, slots := 240, locals := 40 } : Room) s m ([.ref h0, .int 40] : List Value).toArray below meth c H locs (1 + i) (40 + 5 * i) (MQ below (va_Qv (fun (u : Nat × (Nat → Option Nat) × List Nat) => (∀ j, j < 40 → ∃ a, a ∈ u.2.2 ∧ u.2.1 j = some a)) (fun u t => va_P D vwCl ([(h0, .inr (4, [.ref u.1, .int 0])), (u.1, .inl (cy 3, 40, .inr (.inr (.inr (.inr u.2.1)))))] ++ va_pl u.2.2 (tfF (fun _ _ => 0))) t.heap ∧ va_D A ([(h0, .inr (4, [.ref u.1, .int 0])), (u.1, .inl (cy 3, 40, .inr (.inr (.inr (.inr u.2.1)))))] ++ va_pl u.2.2 (tfF (fun _ _ => 0)))) A) ([.ref h0, .int 40] : List Value).toArray s 41 240 A) (F0 m 18 ls []) := by
    intro k
    induction k with
    | zero => intro i q1 f LP H locs hP hD hS hi hf hn; exact absurd hn (Nat.not_lt_zero _)
    | succ k ih =>
      intro i q1 f LP H locs hP hD hS hi hf hn ls hl
      refine lv_iload_n hx hb dX4_init_18 rfl (lv_at hl 2 rfl) ?_
      refine lv_aload_n hx hb dX4_init_19 rfl (lv_at hl 0 rfl) ?_
      refine va_get (D := D) (ci := 4) (v := .ref q1) (C := RX4) (T := TX4) (N := 2) hx hb hT inlX4 hown hK hP 0 rfl rfl 0 (by decide) (hT _ (tr_3 _ (List.mem_of_getElem? (i := 4) rfl))) (fun _ h9 => h9) rfl dX4_init_20 ?_
      refine va_alen hx hb hK hP 1 3 rfl rfl (v := 40) rfl dX4_init_23 ?_
      refine lv_icmp_ge (tgt := 46) hx hb dX4_init_24 (by decide) (fun c_24 => ?_) (fun c_24 => ?_)
      · have i_24 := ti_lek tk_40 (nI_toInt (by omega)) c_24
        have hiN : i = 40 := by omega
        subst hiN
        refine W.widen (k := 41) (n := 240) (by omega) (by omega) ?_
        exact W.vret hx hb hr (fun t ht hW => ⟨⟨(q1, f, LP), rfl, hf, by show va_P D vwCl _ t.heap; rw [ht]; exact hP, hD⟩, hS.F ht⟩) hS.2.2 dX4_init_46
      · have i_24 := ti_nlek tk_40 (nI_toInt (by omega)) c_24
        refine lv_aload_n hx hb dX4_init_27 rfl (lv_at hl 0 rfl) ?_
        refine va_get (D := D) (ci := 4) (v := .ref q1) (C := RX4) (T := TX4) (N := 2) hx hb hT inlX4 hown hK hP 0 rfl rfl 0 (by decide) (hT _ (tr_3 _ (List.mem_of_getElem? (i := 4) rfl))) (fun _ h9 => h9) rfl dX4_init_28 ?_
        refine lv_iload_n hx hb dX4_init_31 rfl (lv_at hl 2 rfl) ?_
        refine va_new (ci := 3) (fs := [.int 0, .int 0, .int 0, .int 0, .int 0]) (C := RX3) (T := TX3) (N := 5) hx hb hT inlX3 tyX3 tyX3_ok hown (hT _ (tr_3 _ (List.mem_of_getElem? (i := 3) rfl))) (hT _ (tr_2 _ (List.mem_of_getElem? (i := 9) rfl))) (hT _ (tr_2 _ (List.mem_of_getElem? (i := 10) rfl))) hK hP hD hS hA rfl (fun j hj => by rcases (show j = 0 ∨ j = 1 ∨ j = 2 ∨ j = 3 ∨ j = 4 by omega) with rfl | rfl | rfl | rfl | rfl <;> rfl) (show 1 + i + 1 ≤ 41 by omega) (show 40 + 5 * i + 5 ≤ 240 by omega) dX4_init_32 (fun q H hP hD hS => ?_)
        refine lv_dup hx hb dX4_init_35 rfl ?_
        have hFc := free2 hD hS hA
        refine va_callv (va_runIN (As := []) (rest := [.ref q, .int (nI i), .ref q1]) ⟨hx, hb, hml, hown, hT⟩ (c_X3_init l D cy q H.size) ⟨va_cnB 0 hT (tb_I (fun _ h => h) (tr_3 _ (List.mem_of_getElem? (i := 6) rfl))) rfl rfl rfl hX.2 (hT _ (tr_2 _ (List.mem_of_getElem? (i := 10) rfl))) (by decide +kernel) ⟨Nat.le_of_ble_eq_true rfl, Nat.le_of_ble_eq_true rfl⟩, rfl, hT _ (tr_3 _ (List.mem_of_getElem? (i := 5) rfl))⟩ ⟨fun a U f mk q => ⟨q.1, q.2.1, q.2.2.1, va_K.moved (u := U) (U := U.calling f mk a) (Vm.Alike.refl U.vm) q.2.2.2.1, q.2.2.2.2⟩, fun U hU hW => ⟨rfl, by rw [hU], by rw [hU]; exact part2 hP, va_K.moved hW.alike hK, partD hD⟩⟩ rfl rfl hl.1 rfl (lv_room (Nat.le_of_ble_eq_true rfl)) dX4_init_36 ⟨(show 1 + i + 1 + 0 ≤ 41 by omega), (show 40 + 5 * i + 5 + 0 ≤ 240 by omega)⟩) hS (fun q _ h => hFc q h) hFc (fun u t H1 locs ht hvm hw hB hz1 hk1 hS => ?_)
        obtain ⟨hP1, hD1⟩ := hB
        rw [ht] at hP1
        obtain ⟨hP, hD⟩ := join2 hP hD hk1 hFc hP1 hD1
        generalize H1 = H at hP hS ⊢
        have hin24 : vp_in (nI i) 40 := vp_in_nI (by omega) (by decide)
        refine va_astq (r := (RX3, TX3, 5)) hx hb hK hP hD hS 1 3 ([(h0, .inr (4, [.ref q1, .int 0])), (q1, .inl (cy 3, 40, .inr (.inr (.inr (.inr f)))))] ++ va_pl LP (tfF (fun _ _ => 0)) : va_W).length 3 rfl rfl (by rw [List.getElem?_append_right (Nat.le_refl _), Nat.sub_self]; rfl) rfl hin24 dX4_init_39 (fun H locs hP hD hS => ?_)
        rw [nI_clamp (show i < 2 ^ 31 by omega)] at hP hD
        have eW : va_pl (LP ++ [q]) (tfF (fun _ _ => 0)) = va_pl LP (tfF (fun _ _ => 0)) ++ [(q, .inr (3, [.int 0, .int 0, .int 0, .int 0, .int 0]))] := by simp [va_pl, tfF]
        have hP : va_P D vwCl ([(h0, .inr (4, [.ref q1, .int 0])), (q1, .inl (cy 3, 40, .inr (.inr (.inr (.inr (va_up f i (some q)))))))] ++ va_pl (LP ++ [q]) (tfF (fun _ _ => 0))) H := by rw [eW]; exact hP
        have hD : va_D A ([(h0, .inr (4, [.ref q1, .int 0])), (q1, .inl (cy 3, 40, .inr (.inr (.inr (.inr (va_up f i (some q)))))))] ++ va_pl (LP ++ [q]) (tfF (fun _ _ => 0))) := by rw [eW]; exact hD
        obtain ⟨v_40, e_40⟩ : ∃ y : Int32, y = nI i + 1 := ⟨_, rfl⟩
        refine lv_iinc (v := v_40) (lv' := [(2, .int v_40), (0, .ref h0), (1, .int 40)]) hx hb dX4_init_40 hl (k := 2) rfl (by rw [e_40]; rfl) (by decide) rfl (fun ls hl => ?_)
        refine lv_goto (tgt := 18) hx hb dX4_init_43 (by decide) ?_
        rw [nI_1] at e_40
        subst e_40
        refine W.widen (k := 1 + (i + 1)) (n := 40 + 5 * (i + 1)) (by omega) (by omega) ?_
        exact ih (i + 1) q1 _ _ _ _ hP hD hS (by omega) (fun j hj => by
          rcases Nat.lt_or_ge j i with z | z
          · obtain ⟨a, h1, h2⟩ := hf j z
            exact ⟨a, List.mem_append_left _ h1, by rw [va_up_ne _ _ (by omega)]; exact h2⟩
          · have zz : j = i := by omega
            subst zz
            exact ⟨q, List.mem_append_right _ List.mem_cons_self, va_up_self _ _ _⟩) (by omega) ls (lv_sub hl [1, 2, 0] rfl)
  have hl := lv_entry ([.ref h0, .int 40]) (n := 3) (Nat.le_of_ble_eq_true rfl)
  rw [lg_entry_eq]
  generalize (lg_sl ([.ref h0, .int 40]) ++ List.replicate (3 - (lg_sl ([.ref h0, .int 40])).length) Slot.unset).toArray = ls at hl ⊢
  have hl : lv_has ls 3 [(0, .ref h0), (1, .int 40)] := hl
  refine lv_aload_n hx hb dX4_init_0 rfl (lv_at hl 0 rfl) ?_
  refine W.objInit hx hb hown (hT _ (tr_2 _ (List.mem_of_getElem? (i := 22) rfl))) (hT _ (tr_1 _ (List.mem_of_getElem? (i := 10) rfl))) (hT _ (tr_1 _ (List.mem_of_getElem? (i := 11) rfl))) rfl (by rw [hml]; exact hl.1) rfl dX4_init_1 (Nat.le_of_ble_eq_true rfl) (Nat.le_of_ble_eq_true rfl) ?_
  refine W.eq (g2 := F0 m 4 ls []) rfl ?_
  refine lv_aload_n hx hb dX4_init_4 rfl (lv_at hl 0 rfl) ?_
  refine lv_iload_n hx hb dX4_init_5 rfl (lv_at hl 1 rfl) ?_
  refine lv_iconst (v := 1) hx hb dX4_init_6 (by decide) ?_
  refine va_mmax hx hb (hml.trans hl.1.symm) hown (hT _ (tr_2 _ (List.mem_of_getElem? (i := 23) rfl))) (hT _ (tr_3 _ (List.mem_of_getElem? (i := 0) rfl))) (hT _ (tr_3 _ (List.mem_of_getElem? (i := 1) rfl))) (hT _ (tr_3 _ (List.mem_of_getElem? (i := 2) rfl))) (Nat.le_of_ble_eq_true rfl) (Nat.le_of_ble_eq_true rfl) (Nat.zero_le _) (Nat.zero_le _) dX4_init_7 ?_
  refine lv_topi (fun v_7 e_7 => ?_)
  have e7 : v_7 = 40 := by rw [e_7]; decide
  subst e7
  refine nw_obj hx hb hown (hT _ (tr_3 _ (List.mem_of_getElem? (i := 3) rfl))) hX.1 hK hP hD hS hA (N' := 40) (by decide) (by decide) (by decide) (Nat.le_of_ble_eq_true rfl) (Nat.le_of_ble_eq_true rfl) dX4_init_10 (fun q10 H hP hD hS => ?_)
  have hP : va_P D vwCl ([(h0, .inr (4, [.null, .int 0])), (q10, .inl (cy 3, 40, .inr (.inr (.inr (.inr (fun _ => none))))))]) H := hP
  have hD : va_D A ([(h0, .inr (4, [.null, .int 0])), (q10, .inl (cy 3, 40, .inr (.inr (.inr (.inr (fun _ => none))))))]) := hD
  refine va_putF (D := D) (ci := 4) (v := .ref q10) (ty := .array (.object "TariffDesk$Tariff")) (C := RX4) (T := TX4) (N := 2) hx hb hT inlX4 tyX4 tyX4_ok nmX4 hown hK hP hD hS 0 rfl rfl 0 (by decide) (hT _ (tr_3 _ (List.mem_of_getElem? (i := 4) rfl))) (fun _ h9 => h9) rfl hin rfl (by decide +kernel) rfl rfl (Nat.le_of_ble_eq_true rfl) dX4_init_13 (fun H locs hP hD hS => ?_)
  have hP : va_P D vwCl ([(h0, .inr (4, [.ref q10, .int 0])), (q10, .inl (cy 3, 40, .inr (.inr (.inr (.inr (fun _ => none))))))] ++ va_pl [] (tfF (fun _ _ => 0))) H := hP
  have hD : va_D A ([(h0, .inr (4, [.ref q10, .int 0])), (q10, .inl (cy 3, 40, .inr (.inr (.inr (.inr (fun _ => none))))))] ++ va_pl [] (tfF (fun _ _ => 0))) := hD
  refine lv_iconst (v := 0) hx hb dX4_init_16 (by decide) ?_
  refine lv_istore_n (lv' := [(2, .int 0), (0, .ref h0), (1, .int 40)]) hx hb dX4_init_17 rfl hl (by decide) rfl (fun ls hl => ?_)
  refine W.widen (k := 1 + 0) (n := 40 + 5 * 0) (by omega) (by omega) ?_
  exact L18 (40 + 1) 0 q10 _ [] _ _ hP hD hS (by omega) (fun j hj => absurd hj (Nat.not_lt_zero _)) (by omega) ls (lv_sub hl [1, 2, 0] rfl)
end
section
theorem nd_of {A : Nat → Prop} {w : va_W} (h : va_D A w) : (w.map Prod.fst).Nodup := by
  rw [List.nodup_iff_pairwise_ne, List.pairwise_iff_getElem]
  intro i j hi hj hij e
  have hi2 : i < w.length := by simpa using hi
  have hj2 : j < w.length := by simpa using hj
  have z := h.1 i j w[i] w[j] (List.getElem?_eq_getElem hi2) (List.getElem?_eq_getElem hj2) (by simpa using e)
  omega
theorem nd_to {A : Nat → Prop} {w : va_W} (h : (w.map Prod.fst).Nodup) (hA : ∀ q ∈ w, A q.1) : va_D A w := by
  refine ⟨fun i j p q hi hj e => ?_, fun k q hk => hA q (List.mem_of_getElem? hk)⟩
  have hl : i < (w.map Prod.fst).length := by rw [List.length_map]; exact (List.getElem?_eq_some_iff.mp hi).1
  exact (List.getElem?_inj hl h).mp (by rw [List.getElem?_map, List.getElem?_map, hi, hj]; show some p.1 = some q.1; rw [e])
theorem pm_D {A : Nat → Prop} {w w' : va_W} (hp : w.Perm w') (h : va_D A w) : va_D A w' := nd_to ((nd_of h).perm (hp.map _)) (fun q hq => by
  obtain ⟨k, hk⟩ := List.getElem?_of_mem (hp.mem_iff.mpr hq)
  exact h.2 k q hk)
theorem pm_P {D : va_G} {cl : List vw_C} {w w' : va_W} {H : Heap} (hp : w.Perm w') (h : va_P D cl w H) : va_P D cl w' H := fun k q hk => by
  obtain ⟨i, hi⟩ := List.getElem?_of_mem (hp.mem_iff.mpr (List.mem_of_getElem? hk))
  exact h i q hi
theorem mvP {α : Type} (a b s1 c d l1 l2 : List α) : (a ++ (l1 ++ (b ++ (s1 ++ (c ++ (l2 ++ d)))))).Perm ((a ++ (b ++ (c ++ d))) ++ (s1 ++ (l1 ++ l2))) := by
  classical
  exact List.perm_iff_count.mpr (fun x => by simp only [List.count_append]; omega)
set_option maxHeartbeats 4000000 in
set_option maxRecDepth 100000 in
theorem c_X6_init (l : Launch) (D : va_G) (cy : Nat → ClassId) (h0 : Nat) (sz : Nat)  : Met l yX6_init (Cond.code yX6_init cX6_init 1 none :: wsL_law) ({ frames := 3, cells := 134, slots := 5247, locals := 62 } : Room) (va_Pc [.ref h0] (fun U => U.heap.size = sz ∧ va_P D vwCl [(h0, .inr (6, [.null, .null, .null, .null, .null, .null, .null, .null, .int 0, .int 0, .int 0]))] U.heap ∧ va_K D vwCl (cty cy) U ∧ va_D (fun _ => True) [(h0, .inr (6, [.null, .null, .null, .null, .null, .null, .null, .null, .int 0, .int 0, .int 0]))] ∧ va_AO RX3 U ∧ va_Nw (.methodLinkNest RX4 21 yX3_init RX6) U ∧ va_Nw (.methodLinkNest RX6 9 yX1_init RX6) U ∧ va_Nw (.methodLinkNest RX6 36 yX2_init RX6) U ∧ va_Nw (.methodLinkNest RX6 43 yX0_init RX6) U ∧ va_Nw (.methodLinkNest RX6 50 yX3_init RX6) U)) (va_Qv (fun (u : (Nat → Nat) × (Nat → Nat → Option Nat) × List Nat × (Nat → Nat → Int32)) => u.1 0 = h0 ∧ (∀ j, j < 70 → ∃ a, a ∈ u.2.2.1 ∧ u.2.1 4 j = some a) ∧ (∀ j, j < 40 → ∃ a, a ∈ u.2.2.1 ∧ u.2.1 18 j = some a) ∧ u.1 24 ∈ u.2.2.1 ∧ u.2.2.2 1 1 = 0 ∧ (∀ i, u.2.2.2 2 i = 0)) (fun u t => va_P D vwCl (xw (D, cy, u.1, u.2.1, u.2.2.1, (fun _ => True), 0, 0) u.2.2.2 (fun _ _ => 0) (fun _ _ => 0)) t.heap ∧ va_D (va_A [(h0, .inr (6, [.null, .null, .null, .null, .null, .null, .null, .null, .int 0, .int 0, .int 0]))] sz) (xw (D, cy, u.1, u.2.1, u.2.2.1, (fun _ => True), 0, 0) u.2.2.2 (fun _ _ => 0) (fun _ _ => 0))) (va_A [(h0, .inr (6, [.null, .null, .null, .null, .null, .null, .null, .null, .int 0, .int 0, .int 0]))] sz)) 134 5247 (va_A [(h0, .inr (6, [.null, .null, .null, .null, .null, .null, .null, .null, .int 0, .int 0, .int 0]))] sz) := by
  refine Met.ofW (cc := cX6_init) (maxL := 1) (ret := none) (by decide) rfl ?_
  intro p e s m args below meth c s₁ B hml hv
  obtain ⟨rfl, hsz, hP, hK, hD0, hX⟩ := hv
  have hx := B.exec
  have hb := B.bytes
  have hr := B.returns
  have hT : ∀ w ∈ wsL_law, w.before ([.ref h0] : List Value).toArray s = true := fun w h => atoms_spec (ws := (Cond.code yX6_init cX6_init 1 none :: wsL_law)) B.pre w (List.mem_cons_of_mem _ h)
  have hown : s.vm.findClass RX6 = some m.cls := findClass_of_methodNamed B.named
  have hlocks := B.notSynchronized
  have hin : meth.name = "<init>" := (name_of_methodNamed B.named B.method).1
  subst hsz
  have hD := hD0.self (sz := s.heap.size)
  generalize hAe : va_A [(h0, .inr (6, [.null, .null, .null, .null, .null, .null, .null, .null, .int 0, .int 0, .int 0]))] s.heap.size = A at hD ⊢
  have hA : ∀ q : Nat, s.heap.size ≤ q → A q := fun q h => by rw [← hAe]; exact Or.inr h
  have hS : va_S A s.heap s.heap [] := va_S.rf
  have hl := lv_entry ([.ref h0]) (n := 1) (Nat.le_of_ble_eq_true rfl)
  rw [lg_entry_eq]
  generalize (lg_sl ([.ref h0]) ++ List.replicate (1 - (lg_sl ([.ref h0])).length) Slot.unset).toArray = ls at hl ⊢
  obtain ⟨hX0, hX1, hX2, hX3, hX4, hX5⟩ := hX
  have hl : lv_has ls 1 [(0, .ref h0)] := hl
  refine lv_aload_n hx hb dX6_init_0 rfl (lv_at hl 0 rfl) ?_
  refine W.objInit hx hb hown (hT _ (tr_1 _ (List.mem_of_getElem? (i := 9) rfl))) (hT _ (tr_1 _ (List.mem_of_getElem? (i := 10) rfl))) (hT _ (tr_1 _ (List.mem_of_getElem? (i := 11) rfl))) rfl (by rw [hml]; exact hl.1) rfl dX6_init_1 (Nat.le_of_ble_eq_true rfl) (Nat.le_of_ble_eq_true rfl) ?_
  refine W.eq (g2 := F0 m 4 ls []) rfl ?_
  refine lv_aload_n hx hb dX6_init_4 rfl (lv_at hl 0 rfl) ?_
  refine va_new (ci := 1) (fs := [.null, .int 0]) (C := RX1) (T := TX1) (N := 2) hx hb hT inlX1 tyX1 tyX1_ok hown (hT _ (tr_1 _ (List.mem_of_getElem? (i := 12) rfl))) (hT _ (tr_1 _ (List.mem_of_getElem? (i := 13) rfl))) (hT _ (tr_1 _ (List.mem_of_getElem? (i := 14) rfl))) hK hP hD hS hA rfl (fun j hj => by rcases (show j = 0 ∨ j = 1 by omega) with rfl | rfl <;> rfl) (Nat.le_of_ble_eq_true rfl) (Nat.le_of_ble_eq_true rfl) dX6_init_5 (fun q4 H hP hD hS => ?_)
  refine lv_dup hx hb dX6_init_8 rfl ?_
  have hFc := free2 (wc := [(q4, .inr (1, [.null, .int 0]))]) hD hS hA
  refine va_callv (va_runIN (As := []) (rest := [.ref q4, .ref h0]) ⟨hx, hb, hml, hown, hT⟩ (c_X1_init l D cy q4 H.size) ⟨va_cnB 0 hT (tb_I (fun _ h => h) (tr_2 _ (List.mem_of_getElem? (i := 15) rfl))) rfl rfl rfl hX2 (hT _ (tr_1 _ (List.mem_of_getElem? (i := 14) rfl))) (by decide +kernel) ⟨Nat.le_of_ble_eq_true rfl, Nat.le_of_ble_eq_true rfl⟩, rfl, hT _ (tr_2 _ (List.mem_of_getElem? (i := 14) rfl))⟩ ⟨fun a U f mk q => ⟨q.1, q.2.1, q.2.2.1, va_K.moved (u := U) (U := U.calling f mk a) (Vm.Alike.refl U.vm) q.2.2.2.1, q.2.2.2.2⟩, fun U hU hW => ⟨rfl, by rw [hU], by rw [hU]; exact part2 (rest := (h0, .inr (6, [.null, .null, .null, .null, .null, .null, .null, .null, .int 0, .int 0, .int 0])) :: ([])) hP, va_K.moved hW.alike hK, partD (rest := (h0, .inr (6, [.null, .null, .null, .null, .null, .null, .null, .null, .int 0, .int 0, .int 0])) :: ([])) hD⟩⟩ rfl rfl hl.1 rfl (lv_room (Nat.le_of_ble_eq_true rfl)) dX6_init_9 ⟨Nat.le_of_ble_eq_true rfl, Nat.le_of_ble_eq_true rfl⟩) hS (fun q _ h => hFc q h) hFc (fun up t H1 locs ht hvm hw4 hB hz1 hk1 hS => ?_)
  obtain ⟨hP1, hD1⟩ := hB
  rw [ht] at hP1
  obtain ⟨hP, hD⟩ := join2 (rest := (h0, .inr (6, [.null, .null, .null, .null, .null, .null, .null, .null, .int 0, .int 0, .int 0])) :: ([])) hP hD hk1 hFc hP1 hD1
  generalize H1 = H at hP hS ⊢
  have hP : va_P D vwCl ((h0, .inr (6, [.null, .null, .null, .null, .null, .null, .null, .null, .int 0, .int 0, .int 0])) :: ([(q4, .inr (1, [.ref (up 0), .int 0])), (up 0, .inl (cy 1, 50, .inl (fun _ => 0)))])) H := hP
  have hD : va_D A ((h0, .inr (6, [.null, .null, .null, .null, .null, .null, .null, .null, .int 0, .int 0, .int 0])) :: ([(q4, .inr (1, [.ref (up 0), .int 0])), (up 0, .inl (cy 1, 50, .inl (fun _ => 0)))])) := hD
  refine va_putF (D := D) (ci := 6) (v := .ref q4) (ty := .object "TariffDesk$Page") (C := RX6) (T := TX6) (N := 11) hx hb hT inlX6 tyX6 tyX6_ok nmX6 hown hK hP hD hS 0 rfl rfl 0 (by decide) (hT _ (tr_1 _ (List.mem_of_getElem? (i := 15) rfl))) (fun _ h9 => h9) rfl hin rfl (by decide +kernel) rfl rfl (Nat.le_of_ble_eq_true rfl) dX6_init_12 (fun H locs hP hD hS => ?_)
  have hP : va_P D vwCl ((h0, .inr (6, [.ref q4, .null, .null, .null, .null, .null, .null, .null, .int 0, .int 0, .int 0])) :: ([(q4, .inr (1, [.ref (up 0), .int 0])), (up 0, .inl (cy 1, 50, .inl (fun _ => 0)))])) H := hP
  have hD : va_D A ((h0, .inr (6, [.ref q4, .null, .null, .null, .null, .null, .null, .null, .int 0, .int 0, .int 0])) :: ([(q4, .inr (1, [.ref (up 0), .int 0])), (up 0, .inl (cy 1, 50, .inl (fun _ => 0)))])) := hD
  refine lv_aload_n hx hb dX6_init_15 rfl (lv_at hl 0 rfl) ?_
  refine va_new (ci := 4) (fs := [.null, .int 0]) (C := RX4) (T := TX4) (N := 2) hx hb hT inlX4 tyX4 tyX4_ok hown (hT _ (tr_1 _ (List.mem_of_getElem? (i := 16) rfl))) (hT _ (tr_1 _ (List.mem_of_getElem? (i := 17) rfl))) (hT _ (tr_1 _ (List.mem_of_getElem? (i := 18) rfl))) hK hP hD hS hA rfl (fun j hj => by rcases (show j = 0 ∨ j = 1 by omega) with rfl | rfl <;> rfl) (Nat.le_of_ble_eq_true rfl) (Nat.le_of_ble_eq_true rfl) dX6_init_16 (fun q15 H hP hD hS => ?_)
  refine lv_dup hx hb dX6_init_19 rfl ?_
  refine lv_bipush (v := 70) hx hb dX6_init_20 (by decide) ?_
  have hFc := free2 (wc := [(q15, .inr (4, [.null, .int 0]))]) hD hS hA
  refine va_callv (va_runI (As := [.int 70]) (rest := [.ref q15, .ref h0]) ⟨hx, hb, hml, hown, hT⟩ (c_X4_init_70 l D cy q15 H.size) (cwI 1 hT (tb_I (fun _ h => h) (tr_2 _ (List.mem_of_getElem? (i := 21) rfl))) rfl rfl rfl (hT _ (tr_1 _ (List.mem_of_getElem? (i := 18) rfl))) (hT _ (tr_2 _ (List.mem_of_getElem? (i := 19) rfl))) (hT _ (tr_2 _ (List.mem_of_getElem? (i := 20) rfl))) rfl (by decide +kernel) ⟨Nat.le_of_ble_eq_true rfl, Nat.le_of_ble_eq_true rfl⟩) ⟨fun a U f mk q => ⟨q.1, q.2.1, q.2.2.1, va_K.moved (u := U) (U := U.calling f mk a) (Vm.Alike.refl U.vm) q.2.2.2.1, q.2.2.2.2.1, va_AO.moved (u := U) (U := U.calling f mk a) (Vm.Alike.refl U.vm) q.2.2.2.2.2.1, va_Nw.same rfl (u := U) rfl q.2.2.2.2.2.2⟩, fun U hU hW => ⟨rfl, by rw [hU], by rw [hU]; exact part2 (rest := (h0, .inr (6, [.ref q4, .null, .null, .null, .null, .null, .null, .null, .int 0, .int 0, .int 0])) :: ([(q4, .inr (1, [.ref (up 0), .int 0])), (up 0, .inl (cy 1, 50, .inl (fun _ => 0)))])) hP, va_K.moved hW.alike hK, partD (rest := (h0, .inr (6, [.ref q4, .null, .null, .null, .null, .null, .null, .null, .int 0, .int 0, .int 0])) :: ([(q4, .inr (1, [.ref (up 0), .int 0])), (up 0, .inl (cy 1, 50, .inl (fun _ => 0)))])) hD, va_AO.moved hW.alike hX0, va_Nw.warmM hW hX1⟩⟩ rfl rfl hl.1 rfl (lv_room (Nat.le_of_ble_eq_true rfl)) dX6_init_22 ⟨Nat.le_of_ble_eq_true rfl, Nat.le_of_ble_eq_true rfl⟩) hS (fun q _ h => hFc q h) hFc (fun ut t H1 locs ht hvm hw15 hB hz1 hk1 hS => ?_)
  obtain ⟨hP1, hD1⟩ := hB
  rw [ht] at hP1
  obtain ⟨hP, hD⟩ := join2 (rest := (h0, .inr (6, [.ref q4, .null, .null, .null, .null, .null, .null, .null, .int 0, .int 0, .int 0])) :: ([(q4, .inr (1, [.ref (up 0), .int 0])), (up 0, .inl (cy 1, 50, .inl (fun _ => 0)))])) hP hD hk1 hFc hP1 hD1
  generalize H1 = H at hP hS ⊢
  have hP : va_P D vwCl ((h0, .inr (6, [.ref q4, .null, .null, .null, .null, .null, .null, .null, .int 0, .int 0, .int 0])) :: (([(q4, .inr (1, [.ref (up 0), .int 0])), (up 0, .inl (cy 1, 50, .inl (fun _ => 0)))]) ++ ([(q15, .inr (4, [.ref ut.1, .int 0])), (ut.1, .inl (cy 3, 70, .inr (.inr (.inr (.inr ut.2.1)))))] ++ va_pl ut.2.2 (tfF (fun _ _ => 0))))) H := hP
  have hD : va_D A ((h0, .inr (6, [.ref q4, .null, .null, .null, .null, .null, .null, .null, .int 0, .int 0, .int 0])) :: (([(q4, .inr (1, [.ref (up 0), .int 0])), (up 0, .inl (cy 1, 50, .inl (fun _ => 0)))]) ++ ([(q15, .inr (4, [.ref ut.1, .int 0])), (ut.1, .inl (cy 3, 70, .inr (.inr (.inr (.inr ut.2.1)))))] ++ va_pl ut.2.2 (tfF (fun _ _ => 0))))) := hD
  refine va_putF (D := D) (ci := 6) (v := .ref q15) (ty := .object "TariffDesk$Tariffs") (C := RX6) (T := TX6) (N := 11) hx hb hT inlX6 tyX6 tyX6_ok nmX6 hown hK hP hD hS 0 rfl rfl 1 (by decide) (hT _ (tr_1 _ (List.mem_of_getElem? (i := 19) rfl))) (fun _ h9 => h9) rfl hin rfl (by decide +kernel) rfl rfl (Nat.le_of_ble_eq_true rfl) dX6_init_25 (fun H locs hP hD hS => ?_)
  have hP : va_P D vwCl ((h0, .inr (6, [.ref q4, .ref q15, .null, .null, .null, .null, .null, .null, .int 0, .int 0, .int 0])) :: (([(q4, .inr (1, [.ref (up 0), .int 0])), (up 0, .inl (cy 1, 50, .inl (fun _ => 0)))]) ++ ([(q15, .inr (4, [.ref ut.1, .int 0])), (ut.1, .inl (cy 3, 70, .inr (.inr (.inr (.inr ut.2.1)))))] ++ va_pl ut.2.2 (tfF (fun _ _ => 0))))) H := hP
  have hD : va_D A ((h0, .inr (6, [.ref q4, .ref q15, .null, .null, .null, .null, .null, .null, .int 0, .int 0, .int 0])) :: (([(q4, .inr (1, [.ref (up 0), .int 0])), (up 0, .inl (cy 1, 50, .inl (fun _ => 0)))]) ++ ([(q15, .inr (4, [.ref ut.1, .int 0])), (ut.1, .inl (cy 3, 70, .inr (.inr (.inr (.inr ut.2.1)))))] ++ va_pl ut.2.2 (tfF (fun _ _ => 0))))) := hD
  refine lv_aload_n hx hb dX6_init_28 rfl (lv_at hl 0 rfl) ?_
  refine va_new (ci := 5) (fs := [.null, .null, .null, .null, .null, .int 0, .null]) (C := RX5) (T := TX5) (N := 7) hx hb hT inlX5 tyX5 tyX5_ok hown (hT _ (tr_1 _ (List.mem_of_getElem? (i := 20) rfl))) (hT _ (tr_1 _ (List.mem_of_getElem? (i := 21) rfl))) (hT _ (tr_1 _ (List.mem_of_getElem? (i := 22) rfl))) hK hP hD hS hA rfl (fun j hj => by rcases (show j = 0 ∨ j = 1 ∨ j = 2 ∨ j = 3 ∨ j = 4 ∨ j = 5 ∨ j = 6 by omega) with rfl | rfl | rfl | rfl | rfl | rfl | rfl <;> rfl) (Nat.le_of_ble_eq_true rfl) (Nat.le_of_ble_eq_true rfl) dX6_init_29 (fun q28 H hP hD hS => ?_)
  refine lv_dup hx hb dX6_init_32 rfl ?_
  refine lv_aload_n hx hb dX6_init_33 rfl (lv_at hl 0 rfl) ?_
  refine va_get (D := D) (ci := 6) (v := .ref q15) (C := RX6) (T := TX6) (N := 11) hx hb hT inlX6 hown hK hP 0 rfl rfl 1 (by decide) (hT _ (tr_1 _ (List.mem_of_getElem? (i := 19) rfl))) (fun _ h9 => h9) rfl dX6_init_34 ?_
  have hFc := free2 (wc := [(q28, .inr (5, [.null, .null, .null, .null, .null, .int 0, .null]))]) hD hS hA
  refine va_callv (va_runI (As := [.ref q15]) (rest := [.ref q28, .ref h0]) ⟨hx, hb, hml, hown, hT⟩ (c_X5_init l D cy q28 H.size q15) (cwI 1 hT (tb_I (fun _ h => h) (tr_3 _ (List.mem_of_getElem? (i := 10) rfl))) rfl rfl rfl (hT _ (tr_1 _ (List.mem_of_getElem? (i := 22) rfl))) (hT _ (tr_3 _ (List.mem_of_getElem? (i := 8) rfl))) (hT _ (tr_3 _ (List.mem_of_getElem? (i := 9) rfl))) rfl (by decide +kernel) ⟨Nat.le_of_ble_eq_true rfl, Nat.le_of_ble_eq_true rfl⟩) ⟨fun a U f mk q => ⟨q.1, q.2.1, q.2.2.1, va_K.moved (u := U) (U := U.calling f mk a) (Vm.Alike.refl U.vm) q.2.2.2.1, q.2.2.2.2⟩, fun U hU hW => ⟨rfl, by rw [hU], by rw [hU]; exact part2 (rest := (h0, .inr (6, [.ref q4, .ref q15, .null, .null, .null, .null, .null, .null, .int 0, .int 0, .int 0])) :: (([(q4, .inr (1, [.ref (up 0), .int 0])), (up 0, .inl (cy 1, 50, .inl (fun _ => 0)))]) ++ ([(q15, .inr (4, [.ref ut.1, .int 0])), (ut.1, .inl (cy 3, 70, .inr (.inr (.inr (.inr ut.2.1)))))] ++ va_pl ut.2.2 (tfF (fun _ _ => 0))))) hP, va_K.moved hW.alike hK, partD (rest := (h0, .inr (6, [.ref q4, .ref q15, .null, .null, .null, .null, .null, .null, .int 0, .int 0, .int 0])) :: (([(q4, .inr (1, [.ref (up 0), .int 0])), (up 0, .inl (cy 1, 50, .inl (fun _ => 0)))]) ++ ([(q15, .inr (4, [.ref ut.1, .int 0])), (ut.1, .inl (cy 3, 70, .inr (.inr (.inr (.inr ut.2.1)))))] ++ va_pl ut.2.2 (tfF (fun _ _ => 0))))) hD⟩⟩ rfl rfl hl.1 rfl (lv_room (Nat.le_of_ble_eq_true rfl)) dX6_init_37 ⟨Nat.le_of_ble_eq_true rfl, Nat.le_of_ble_eq_true rfl⟩) hS (fun q _ h => hFc q h) hFc (fun ur t H1 locs ht hvm hw28 hB hz1 hk1 hS => ?_)
  obtain ⟨hP1, hD1⟩ := hB
  rw [ht] at hP1
  obtain ⟨hP, hD⟩ := join2 (rest := (h0, .inr (6, [.ref q4, .ref q15, .null, .null, .null, .null, .null, .null, .int 0, .int 0, .int 0])) :: (([(q4, .inr (1, [.ref (up 0), .int 0])), (up 0, .inl (cy 1, 50, .inl (fun _ => 0)))]) ++ ([(q15, .inr (4, [.ref ut.1, .int 0])), (ut.1, .inl (cy 3, 70, .inr (.inr (.inr (.inr ut.2.1)))))] ++ va_pl ut.2.2 (tfF (fun _ _ => 0))))) hP hD hk1 hFc hP1 hD1
  generalize H1 = H at hP hS ⊢
  have hP : va_P D vwCl ((h0, .inr (6, [.ref q4, .ref q15, .null, .null, .null, .null, .null, .null, .int 0, .int 0, .int 0])) :: ((([(q4, .inr (1, [.ref (up 0), .int 0])), (up 0, .inl (cy 1, 50, .inl (fun _ => 0)))]) ++ ([(q15, .inr (4, [.ref ut.1, .int 0])), (ut.1, .inl (cy 3, 70, .inr (.inr (.inr (.inr ut.2.1)))))] ++ va_pl ut.2.2 (tfF (fun _ _ => 0)))) ++ ([(q28, .inr (5, [.ref q15, .ref (ur.1 0), .ref (ur.1 1), .ref (ur.1 2), .ref (ur.1 3), .int 0, .ref (ur.1 4)])), (ur.1 0, .inl (cy 1, 128, .inl ur.2.1)), (ur.1 1, .inl (cy 1, 2100, .inl (fun _ => 0))), (ur.1 2, .inl (cy 1, 2100, .inl (fun _ => 0))), (ur.1 3, .inl (cy 1, 70, .inl (fun _ => 0))), (ur.1 4, .inl (cy 1, 64, .inl ur.2.2))]))) H := hP
  have hD : va_D A ((h0, .inr (6, [.ref q4, .ref q15, .null, .null, .null, .null, .null, .null, .int 0, .int 0, .int 0])) :: ((([(q4, .inr (1, [.ref (up 0), .int 0])), (up 0, .inl (cy 1, 50, .inl (fun _ => 0)))]) ++ ([(q15, .inr (4, [.ref ut.1, .int 0])), (ut.1, .inl (cy 3, 70, .inr (.inr (.inr (.inr ut.2.1)))))] ++ va_pl ut.2.2 (tfF (fun _ _ => 0)))) ++ ([(q28, .inr (5, [.ref q15, .ref (ur.1 0), .ref (ur.1 1), .ref (ur.1 2), .ref (ur.1 3), .int 0, .ref (ur.1 4)])), (ur.1 0, .inl (cy 1, 128, .inl ur.2.1)), (ur.1 1, .inl (cy 1, 2100, .inl (fun _ => 0))), (ur.1 2, .inl (cy 1, 2100, .inl (fun _ => 0))), (ur.1 3, .inl (cy 1, 70, .inl (fun _ => 0))), (ur.1 4, .inl (cy 1, 64, .inl ur.2.2))]))) := hD
  refine va_putF (D := D) (ci := 6) (v := .ref q28) (ty := .object "TariffDesk$Tree") (C := RX6) (T := TX6) (N := 11) hx hb hT inlX6 tyX6 tyX6_ok nmX6 hown hK hP hD hS 0 rfl rfl 2 (by decide) (hT _ (tr_1 _ (List.mem_of_getElem? (i := 23) rfl))) (fun _ h9 => h9) rfl hin rfl (by decide +kernel) rfl rfl (Nat.le_of_ble_eq_true rfl) dX6_init_40 (fun H locs hP hD hS => ?_)
  have hP : va_P D vwCl ((h0, .inr (6, [.ref q4, .ref q15, .ref q28, .null, .null, .null, .null, .null, .int 0, .int 0, .int 0])) :: ((([(q4, .inr (1, [.ref (up 0), .int 0])), (up 0, .inl (cy 1, 50, .inl (fun _ => 0)))]) ++ ([(q15, .inr (4, [.ref ut.1, .int 0])), (ut.1, .inl (cy 3, 70, .inr (.inr (.inr (.inr ut.2.1)))))] ++ va_pl ut.2.2 (tfF (fun _ _ => 0)))) ++ ([(q28, .inr (5, [.ref q15, .ref (ur.1 0), .ref (ur.1 1), .ref (ur.1 2), .ref (ur.1 3), .int 0, .ref (ur.1 4)])), (ur.1 0, .inl (cy 1, 128, .inl ur.2.1)), (ur.1 1, .inl (cy 1, 2100, .inl (fun _ => 0))), (ur.1 2, .inl (cy 1, 2100, .inl (fun _ => 0))), (ur.1 3, .inl (cy 1, 70, .inl (fun _ => 0))), (ur.1 4, .inl (cy 1, 64, .inl ur.2.2))]))) H := hP
  have hD : va_D A ((h0, .inr (6, [.ref q4, .ref q15, .ref q28, .null, .null, .null, .null, .null, .int 0, .int 0, .int 0])) :: ((([(q4, .inr (1, [.ref (up 0), .int 0])), (up 0, .inl (cy 1, 50, .inl (fun _ => 0)))]) ++ ([(q15, .inr (4, [.ref ut.1, .int 0])), (ut.1, .inl (cy 3, 70, .inr (.inr (.inr (.inr ut.2.1)))))] ++ va_pl ut.2.2 (tfF (fun _ _ => 0)))) ++ ([(q28, .inr (5, [.ref q15, .ref (ur.1 0), .ref (ur.1 1), .ref (ur.1 2), .ref (ur.1 3), .int 0, .ref (ur.1 4)])), (ur.1 0, .inl (cy 1, 128, .inl ur.2.1)), (ur.1 1, .inl (cy 1, 2100, .inl (fun _ => 0))), (ur.1 2, .inl (cy 1, 2100, .inl (fun _ => 0))), (ur.1 3, .inl (cy 1, 70, .inl (fun _ => 0))), (ur.1 4, .inl (cy 1, 64, .inl ur.2.2))]))) := hD
  refine lv_aload_n hx hb dX6_init_43 rfl (lv_at hl 0 rfl) ?_
  refine va_new (ci := 2) (fs := [.null, .null, .null, .null, .int 0]) (C := RX2) (T := TX2) (N := 5) hx hb hT inlX2 tyX2 tyX2_ok hown (hT _ (tr_2 _ (List.mem_of_getElem? (i := 0) rfl))) (hT _ (tr_2 _ (List.mem_of_getElem? (i := 1) rfl))) (hT _ (tr_2 _ (List.mem_of_getElem? (i := 2) rfl))) hK hP hD hS hA rfl (fun j hj => by rcases (show j = 0 ∨ j = 1 ∨ j = 2 ∨ j = 3 ∨ j = 4 by omega) with rfl | rfl | rfl | rfl | rfl <;> rfl) (Nat.le_of_ble_eq_true rfl) (Nat.le_of_ble_eq_true rfl) dX6_init_44 (fun q43 H hP hD hS => ?_)
  refine lv_dup hx hb dX6_init_47 rfl ?_
  have hFc := free2 (wc := [(q43, .inr (2, [.null, .null, .null, .null, .int 0]))]) hD hS hA
  refine va_callv (va_runIN (As := []) (rest := [.ref q43, .ref h0]) ⟨hx, hb, hml, hown, hT⟩ (c_X2_init l D cy q43 H.size) ⟨va_cnB 0 hT (tb_I (fun _ h => h) (tr_3 _ (List.mem_of_getElem? (i := 23) rfl))) rfl rfl rfl hX3 (hT _ (tr_2 _ (List.mem_of_getElem? (i := 2) rfl))) (by decide +kernel) ⟨Nat.le_of_ble_eq_true rfl, Nat.le_of_ble_eq_true rfl⟩, rfl, hT _ (tr_3 _ (List.mem_of_getElem? (i := 22) rfl))⟩ ⟨fun a U f mk q => ⟨q.1, q.2.1, q.2.2.1, va_K.moved (u := U) (U := U.calling f mk a) (Vm.Alike.refl U.vm) q.2.2.2.1, q.2.2.2.2⟩, fun U hU hW => ⟨rfl, by rw [hU], by rw [hU]; exact part2 (rest := (h0, .inr (6, [.ref q4, .ref q15, .ref q28, .null, .null, .null, .null, .null, .int 0, .int 0, .int 0])) :: ((([(q4, .inr (1, [.ref (up 0), .int 0])), (up 0, .inl (cy 1, 50, .inl (fun _ => 0)))]) ++ ([(q15, .inr (4, [.ref ut.1, .int 0])), (ut.1, .inl (cy 3, 70, .inr (.inr (.inr (.inr ut.2.1)))))] ++ va_pl ut.2.2 (tfF (fun _ _ => 0)))) ++ ([(q28, .inr (5, [.ref q15, .ref (ur.1 0), .ref (ur.1 1), .ref (ur.1 2), .ref (ur.1 3), .int 0, .ref (ur.1 4)])), (ur.1 0, .inl (cy 1, 128, .inl ur.2.1)), (ur.1 1, .inl (cy 1, 2100, .inl (fun _ => 0))), (ur.1 2, .inl (cy 1, 2100, .inl (fun _ => 0))), (ur.1 3, .inl (cy 1, 70, .inl (fun _ => 0))), (ur.1 4, .inl (cy 1, 64, .inl ur.2.2))]))) hP, va_K.moved hW.alike hK, partD (rest := (h0, .inr (6, [.ref q4, .ref q15, .ref q28, .null, .null, .null, .null, .null, .int 0, .int 0, .int 0])) :: ((([(q4, .inr (1, [.ref (up 0), .int 0])), (up 0, .inl (cy 1, 50, .inl (fun _ => 0)))]) ++ ([(q15, .inr (4, [.ref ut.1, .int 0])), (ut.1, .inl (cy 3, 70, .inr (.inr (.inr (.inr ut.2.1)))))] ++ va_pl ut.2.2 (tfF (fun _ _ => 0)))) ++ ([(q28, .inr (5, [.ref q15, .ref (ur.1 0), .ref (ur.1 1), .ref (ur.1 2), .ref (ur.1 3), .int 0, .ref (ur.1 4)])), (ur.1 0, .inl (cy 1, 128, .inl ur.2.1)), (ur.1 1, .inl (cy 1, 2100, .inl (fun _ => 0))), (ur.1 2, .inl (cy 1, 2100, .inl (fun _ => 0))), (ur.1 3, .inl (cy 1, 70, .inl (fun _ => 0))), (ur.1 4, .inl (cy 1, 64, .inl ur.2.2))]))) hD⟩⟩ rfl rfl hl.1 rfl (lv_room (Nat.le_of_ble_eq_true rfl)) dX6_init_48 ⟨Nat.le_of_ble_eq_true rfl, Nat.le_of_ble_eq_true rfl⟩) hS (fun q _ h => hFc q h) hFc (fun us t H1 locs ht hvm hw43 hB hz1 hk1 hS => ?_)
  obtain ⟨hP1, hD1⟩ := hB
  rw [ht] at hP1
  obtain ⟨hP, hD⟩ := join2 (rest := (h0, .inr (6, [.ref q4, .ref q15, .ref q28, .null, .null, .null, .null, .null, .int 0, .int 0, .int 0])) :: ((([(q4, .inr (1, [.ref (up 0), .int 0])), (up 0, .inl (cy 1, 50, .inl (fun _ => 0)))]) ++ ([(q15, .inr (4, [.ref ut.1, .int 0])), (ut.1, .inl (cy 3, 70, .inr (.inr (.inr (.inr ut.2.1)))))] ++ va_pl ut.2.2 (tfF (fun _ _ => 0)))) ++ ([(q28, .inr (5, [.ref q15, .ref (ur.1 0), .ref (ur.1 1), .ref (ur.1 2), .ref (ur.1 3), .int 0, .ref (ur.1 4)])), (ur.1 0, .inl (cy 1, 128, .inl ur.2.1)), (ur.1 1, .inl (cy 1, 2100, .inl (fun _ => 0))), (ur.1 2, .inl (cy 1, 2100, .inl (fun _ => 0))), (ur.1 3, .inl (cy 1, 70, .inl (fun _ => 0))), (ur.1 4, .inl (cy 1, 64, .inl ur.2.2))]))) hP hD hk1 hFc hP1 hD1
  generalize H1 = H at hP hS ⊢
  have hP : va_P D vwCl ((h0, .inr (6, [.ref q4, .ref q15, .ref q28, .null, .null, .null, .null, .null, .int 0, .int 0, .int 0])) :: (((([(q4, .inr (1, [.ref (up 0), .int 0])), (up 0, .inl (cy 1, 50, .inl (fun _ => 0)))]) ++ ([(q15, .inr (4, [.ref ut.1, .int 0])), (ut.1, .inl (cy 3, 70, .inr (.inr (.inr (.inr ut.2.1)))))] ++ va_pl ut.2.2 (tfF (fun _ _ => 0)))) ++ ([(q28, .inr (5, [.ref q15, .ref (ur.1 0), .ref (ur.1 1), .ref (ur.1 2), .ref (ur.1 3), .int 0, .ref (ur.1 4)])), (ur.1 0, .inl (cy 1, 128, .inl ur.2.1)), (ur.1 1, .inl (cy 1, 2100, .inl (fun _ => 0))), (ur.1 2, .inl (cy 1, 2100, .inl (fun _ => 0))), (ur.1 3, .inl (cy 1, 70, .inl (fun _ => 0))), (ur.1 4, .inl (cy 1, 64, .inl ur.2.2))])) ++ ([(q43, .inr (2, [.ref (us 0), .ref (us 1), .ref (us 2), .ref (us 3), .int 0])), (us 0, .inl (cy 1, 6, .inl (fun _ => 0))), (us 1, .inl (cy 1, 6, .inl (fun _ => 0))), (us 2, .inl (cy 1, 6, .inl (fun _ => 0))), (us 3, .inl (cy 2, 5, .inr (.inl (fun _ => 0))))]))) H := hP
  have hD : va_D A ((h0, .inr (6, [.ref q4, .ref q15, .ref q28, .null, .null, .null, .null, .null, .int 0, .int 0, .int 0])) :: (((([(q4, .inr (1, [.ref (up 0), .int 0])), (up 0, .inl (cy 1, 50, .inl (fun _ => 0)))]) ++ ([(q15, .inr (4, [.ref ut.1, .int 0])), (ut.1, .inl (cy 3, 70, .inr (.inr (.inr (.inr ut.2.1)))))] ++ va_pl ut.2.2 (tfF (fun _ _ => 0)))) ++ ([(q28, .inr (5, [.ref q15, .ref (ur.1 0), .ref (ur.1 1), .ref (ur.1 2), .ref (ur.1 3), .int 0, .ref (ur.1 4)])), (ur.1 0, .inl (cy 1, 128, .inl ur.2.1)), (ur.1 1, .inl (cy 1, 2100, .inl (fun _ => 0))), (ur.1 2, .inl (cy 1, 2100, .inl (fun _ => 0))), (ur.1 3, .inl (cy 1, 70, .inl (fun _ => 0))), (ur.1 4, .inl (cy 1, 64, .inl ur.2.2))])) ++ ([(q43, .inr (2, [.ref (us 0), .ref (us 1), .ref (us 2), .ref (us 3), .int 0])), (us 0, .inl (cy 1, 6, .inl (fun _ => 0))), (us 1, .inl (cy 1, 6, .inl (fun _ => 0))), (us 2, .inl (cy 1, 6, .inl (fun _ => 0))), (us 3, .inl (cy 2, 5, .inr (.inl (fun _ => 0))))]))) := hD
  refine va_putF (D := D) (ci := 6) (v := .ref q43) (ty := .object "TariffDesk$Seen") (C := RX6) (T := TX6) (N := 11) hx hb hT inlX6 tyX6 tyX6_ok nmX6 hown hK hP hD hS 0 rfl rfl 3 (by decide) (hT _ (tr_2 _ (List.mem_of_getElem? (i := 3) rfl))) (fun _ h9 => h9) rfl hin rfl (by decide +kernel) rfl rfl (Nat.le_of_ble_eq_true rfl) dX6_init_51 (fun H locs hP hD hS => ?_)
  have hP : va_P D vwCl ((h0, .inr (6, [.ref q4, .ref q15, .ref q28, .ref q43, .null, .null, .null, .null, .int 0, .int 0, .int 0])) :: (((([(q4, .inr (1, [.ref (up 0), .int 0])), (up 0, .inl (cy 1, 50, .inl (fun _ => 0)))]) ++ ([(q15, .inr (4, [.ref ut.1, .int 0])), (ut.1, .inl (cy 3, 70, .inr (.inr (.inr (.inr ut.2.1)))))] ++ va_pl ut.2.2 (tfF (fun _ _ => 0)))) ++ ([(q28, .inr (5, [.ref q15, .ref (ur.1 0), .ref (ur.1 1), .ref (ur.1 2), .ref (ur.1 3), .int 0, .ref (ur.1 4)])), (ur.1 0, .inl (cy 1, 128, .inl ur.2.1)), (ur.1 1, .inl (cy 1, 2100, .inl (fun _ => 0))), (ur.1 2, .inl (cy 1, 2100, .inl (fun _ => 0))), (ur.1 3, .inl (cy 1, 70, .inl (fun _ => 0))), (ur.1 4, .inl (cy 1, 64, .inl ur.2.2))])) ++ ([(q43, .inr (2, [.ref (us 0), .ref (us 1), .ref (us 2), .ref (us 3), .int 0])), (us 0, .inl (cy 1, 6, .inl (fun _ => 0))), (us 1, .inl (cy 1, 6, .inl (fun _ => 0))), (us 2, .inl (cy 1, 6, .inl (fun _ => 0))), (us 3, .inl (cy 2, 5, .inr (.inl (fun _ => 0))))]))) H := hP
  have hD : va_D A ((h0, .inr (6, [.ref q4, .ref q15, .ref q28, .ref q43, .null, .null, .null, .null, .int 0, .int 0, .int 0])) :: (((([(q4, .inr (1, [.ref (up 0), .int 0])), (up 0, .inl (cy 1, 50, .inl (fun _ => 0)))]) ++ ([(q15, .inr (4, [.ref ut.1, .int 0])), (ut.1, .inl (cy 3, 70, .inr (.inr (.inr (.inr ut.2.1)))))] ++ va_pl ut.2.2 (tfF (fun _ _ => 0)))) ++ ([(q28, .inr (5, [.ref q15, .ref (ur.1 0), .ref (ur.1 1), .ref (ur.1 2), .ref (ur.1 3), .int 0, .ref (ur.1 4)])), (ur.1 0, .inl (cy 1, 128, .inl ur.2.1)), (ur.1 1, .inl (cy 1, 2100, .inl (fun _ => 0))), (ur.1 2, .inl (cy 1, 2100, .inl (fun _ => 0))), (ur.1 3, .inl (cy 1, 70, .inl (fun _ => 0))), (ur.1 4, .inl (cy 1, 64, .inl ur.2.2))])) ++ ([(q43, .inr (2, [.ref (us 0), .ref (us 1), .ref (us 2), .ref (us 3), .int 0])), (us 0, .inl (cy 1, 6, .inl (fun _ => 0))), (us 1, .inl (cy 1, 6, .inl (fun _ => 0))), (us 2, .inl (cy 1, 6, .inl (fun _ => 0))), (us 3, .inl (cy 2, 5, .inr (.inl (fun _ => 0))))]))) := hD
  refine lv_aload_n hx hb dX6_init_54 rfl (lv_at hl 0 rfl) ?_
  refine va_new (ci := 0) (fs := [.int 0]) (C := RX0) (T := TX0) (N := 1) hx hb hT inlX0 tyX0 tyX0_ok hown (hT _ (tr_2 _ (List.mem_of_getElem? (i := 4) rfl))) (hT _ (tr_2 _ (List.mem_of_getElem? (i := 5) rfl))) (hT _ (tr_2 _ (List.mem_of_getElem? (i := 6) rfl))) hK hP hD hS hA rfl (fun j hj => by rcases (show j = 0 by omega) with rfl <;> rfl) (Nat.le_of_ble_eq_true rfl) (Nat.le_of_ble_eq_true rfl) dX6_init_55 (fun q54 H hP hD hS => ?_)
  refine lv_dup hx hb dX6_init_58 rfl ?_
  have hFc := free2 (wc := [(q54, .inr (0, [.int 0]))]) hD hS hA
  refine va_callv (va_runIN (As := []) (rest := [.ref q54, .ref h0]) ⟨hx, hb, hml, hown, hT⟩ (c_X0_init l D cy q54 H.size) ⟨va_cnB 0 hT (tb_I (fun _ h => h) (tr_4 _ (List.mem_of_getElem? (i := 7) rfl))) rfl rfl rfl hX4 (hT _ (tr_2 _ (List.mem_of_getElem? (i := 6) rfl))) (by decide +kernel) ⟨Nat.le_of_ble_eq_true rfl, Nat.le_of_ble_eq_true rfl⟩, rfl, hT _ (tr_4 _ (List.mem_of_getElem? (i := 6) rfl))⟩ ⟨fun a U f mk q => ⟨q.1, q.2.1, q.2.2.1, va_K.moved (u := U) (U := U.calling f mk a) (Vm.Alike.refl U.vm) q.2.2.2.1, q.2.2.2.2⟩, fun U hU hW => ⟨rfl, by rw [hU], by rw [hU]; exact part2 (rest := (h0, .inr (6, [.ref q4, .ref q15, .ref q28, .ref q43, .null, .null, .null, .null, .int 0, .int 0, .int 0])) :: (((([(q4, .inr (1, [.ref (up 0), .int 0])), (up 0, .inl (cy 1, 50, .inl (fun _ => 0)))]) ++ ([(q15, .inr (4, [.ref ut.1, .int 0])), (ut.1, .inl (cy 3, 70, .inr (.inr (.inr (.inr ut.2.1)))))] ++ va_pl ut.2.2 (tfF (fun _ _ => 0)))) ++ ([(q28, .inr (5, [.ref q15, .ref (ur.1 0), .ref (ur.1 1), .ref (ur.1 2), .ref (ur.1 3), .int 0, .ref (ur.1 4)])), (ur.1 0, .inl (cy 1, 128, .inl ur.2.1)), (ur.1 1, .inl (cy 1, 2100, .inl (fun _ => 0))), (ur.1 2, .inl (cy 1, 2100, .inl (fun _ => 0))), (ur.1 3, .inl (cy 1, 70, .inl (fun _ => 0))), (ur.1 4, .inl (cy 1, 64, .inl ur.2.2))])) ++ ([(q43, .inr (2, [.ref (us 0), .ref (us 1), .ref (us 2), .ref (us 3), .int 0])), (us 0, .inl (cy 1, 6, .inl (fun _ => 0))), (us 1, .inl (cy 1, 6, .inl (fun _ => 0))), (us 2, .inl (cy 1, 6, .inl (fun _ => 0))), (us 3, .inl (cy 2, 5, .inr (.inl (fun _ => 0))))]))) hP, va_K.moved hW.alike hK, partD (rest := (h0, .inr (6, [.ref q4, .ref q15, .ref q28, .ref q43, .null, .null, .null, .null, .int 0, .int 0, .int 0])) :: (((([(q4, .inr (1, [.ref (up 0), .int 0])), (up 0, .inl (cy 1, 50, .inl (fun _ => 0)))]) ++ ([(q15, .inr (4, [.ref ut.1, .int 0])), (ut.1, .inl (cy 3, 70, .inr (.inr (.inr (.inr ut.2.1)))))] ++ va_pl ut.2.2 (tfF (fun _ _ => 0)))) ++ ([(q28, .inr (5, [.ref q15, .ref (ur.1 0), .ref (ur.1 1), .ref (ur.1 2), .ref (ur.1 3), .int 0, .ref (ur.1 4)])), (ur.1 0, .inl (cy 1, 128, .inl ur.2.1)), (ur.1 1, .inl (cy 1, 2100, .inl (fun _ => 0))), (ur.1 2, .inl (cy 1, 2100, .inl (fun _ => 0))), (ur.1 3, .inl (cy 1, 70, .inl (fun _ => 0))), (ur.1 4, .inl (cy 1, 64, .inl ur.2.2))])) ++ ([(q43, .inr (2, [.ref (us 0), .ref (us 1), .ref (us 2), .ref (us 3), .int 0])), (us 0, .inl (cy 1, 6, .inl (fun _ => 0))), (us 1, .inl (cy 1, 6, .inl (fun _ => 0))), (us 2, .inl (cy 1, 6, .inl (fun _ => 0))), (us 3, .inl (cy 2, 5, .inr (.inl (fun _ => 0))))]))) hD⟩⟩ rfl rfl hl.1 rfl (lv_room (Nat.le_of_ble_eq_true rfl)) dX6_init_59 ⟨Nat.le_of_ble_eq_true rfl, Nat.le_of_ble_eq_true rfl⟩) hS (fun q _ h => hFc q h) hFc (fun ud t H1 locs ht hvm hw54 hB hz1 hk1 hS => ?_)
  obtain ⟨hP1, hD1⟩ := hB
  rw [ht] at hP1
  obtain ⟨hP, hD⟩ := join2 (rest := (h0, .inr (6, [.ref q4, .ref q15, .ref q28, .ref q43, .null, .null, .null, .null, .int 0, .int 0, .int 0])) :: (((([(q4, .inr (1, [.ref (up 0), .int 0])), (up 0, .inl (cy 1, 50, .inl (fun _ => 0)))]) ++ ([(q15, .inr (4, [.ref ut.1, .int 0])), (ut.1, .inl (cy 3, 70, .inr (.inr (.inr (.inr ut.2.1)))))] ++ va_pl ut.2.2 (tfF (fun _ _ => 0)))) ++ ([(q28, .inr (5, [.ref q15, .ref (ur.1 0), .ref (ur.1 1), .ref (ur.1 2), .ref (ur.1 3), .int 0, .ref (ur.1 4)])), (ur.1 0, .inl (cy 1, 128, .inl ur.2.1)), (ur.1 1, .inl (cy 1, 2100, .inl (fun _ => 0))), (ur.1 2, .inl (cy 1, 2100, .inl (fun _ => 0))), (ur.1 3, .inl (cy 1, 70, .inl (fun _ => 0))), (ur.1 4, .inl (cy 1, 64, .inl ur.2.2))])) ++ ([(q43, .inr (2, [.ref (us 0), .ref (us 1), .ref (us 2), .ref (us 3), .int 0])), (us 0, .inl (cy 1, 6, .inl (fun _ => 0))), (us 1, .inl (cy 1, 6, .inl (fun _ => 0))), (us 2, .inl (cy 1, 6, .inl (fun _ => 0))), (us 3, .inl (cy 2, 5, .inr (.inl (fun _ => 0))))]))) hP hD hk1 hFc hP1 hD1
  generalize H1 = H at hP hS ⊢
  have hP : va_P D vwCl ((h0, .inr (6, [.ref q4, .ref q15, .ref q28, .ref q43, .null, .null, .null, .null, .int 0, .int 0, .int 0])) :: ((((([(q4, .inr (1, [.ref (up 0), .int 0])), (up 0, .inl (cy 1, 50, .inl (fun _ => 0)))]) ++ ([(q15, .inr (4, [.ref ut.1, .int 0])), (ut.1, .inl (cy 3, 70, .inr (.inr (.inr (.inr ut.2.1)))))] ++ va_pl ut.2.2 (tfF (fun _ _ => 0)))) ++ ([(q28, .inr (5, [.ref q15, .ref (ur.1 0), .ref (ur.1 1), .ref (ur.1 2), .ref (ur.1 3), .int 0, .ref (ur.1 4)])), (ur.1 0, .inl (cy 1, 128, .inl ur.2.1)), (ur.1 1, .inl (cy 1, 2100, .inl (fun _ => 0))), (ur.1 2, .inl (cy 1, 2100, .inl (fun _ => 0))), (ur.1 3, .inl (cy 1, 70, .inl (fun _ => 0))), (ur.1 4, .inl (cy 1, 64, .inl ur.2.2))])) ++ ([(q43, .inr (2, [.ref (us 0), .ref (us 1), .ref (us 2), .ref (us 3), .int 0])), (us 0, .inl (cy 1, 6, .inl (fun _ => 0))), (us 1, .inl (cy 1, 6, .inl (fun _ => 0))), (us 2, .inl (cy 1, 6, .inl (fun _ => 0))), (us 3, .inl (cy 2, 5, .inr (.inl (fun _ => 0))))])) ++ ([(q54, .inr (0, [.int 0]))]))) H := hP
  have hD : va_D A ((h0, .inr (6, [.ref q4, .ref q15, .ref q28, .ref q43, .null, .null, .null, .null, .int 0, .int 0, .int 0])) :: ((((([(q4, .inr (1, [.ref (up 0), .int 0])), (up 0, .inl (cy 1, 50, .inl (fun _ => 0)))]) ++ ([(q15, .inr (4, [.ref ut.1, .int 0])), (ut.1, .inl (cy 3, 70, .inr (.inr (.inr (.inr ut.2.1)))))] ++ va_pl ut.2.2 (tfF (fun _ _ => 0)))) ++ ([(q28, .inr (5, [.ref q15, .ref (ur.1 0), .ref (ur.1 1), .ref (ur.1 2), .ref (ur.1 3), .int 0, .ref (ur.1 4)])), (ur.1 0, .inl (cy 1, 128, .inl ur.2.1)), (ur.1 1, .inl (cy 1, 2100, .inl (fun _ => 0))), (ur.1 2, .inl (cy 1, 2100, .inl (fun _ => 0))), (ur.1 3, .inl (cy 1, 70, .inl (fun _ => 0))), (ur.1 4, .inl (cy 1, 64, .inl ur.2.2))])) ++ ([(q43, .inr (2, [.ref (us 0), .ref (us 1), .ref (us 2), .ref (us 3), .int 0])), (us 0, .inl (cy 1, 6, .inl (fun _ => 0))), (us 1, .inl (cy 1, 6, .inl (fun _ => 0))), (us 2, .inl (cy 1, 6, .inl (fun _ => 0))), (us 3, .inl (cy 2, 5, .inr (.inl (fun _ => 0))))])) ++ ([(q54, .inr (0, [.int 0]))]))) := hD
  refine va_putF (D := D) (ci := 6) (v := .ref q54) (ty := .object "TariffDesk$Draws") (C := RX6) (T := TX6) (N := 11) hx hb hT inlX6 tyX6 tyX6_ok nmX6 hown hK hP hD hS 0 rfl rfl 4 (by decide) (hT _ (tr_2 _ (List.mem_of_getElem? (i := 7) rfl))) (fun _ h9 => h9) rfl hin rfl (by decide +kernel) rfl rfl (Nat.le_of_ble_eq_true rfl) dX6_init_62 (fun H locs hP hD hS => ?_)
  have hP : va_P D vwCl ((h0, .inr (6, [.ref q4, .ref q15, .ref q28, .ref q43, .ref q54, .null, .null, .null, .int 0, .int 0, .int 0])) :: ((((([(q4, .inr (1, [.ref (up 0), .int 0])), (up 0, .inl (cy 1, 50, .inl (fun _ => 0)))]) ++ ([(q15, .inr (4, [.ref ut.1, .int 0])), (ut.1, .inl (cy 3, 70, .inr (.inr (.inr (.inr ut.2.1)))))] ++ va_pl ut.2.2 (tfF (fun _ _ => 0)))) ++ ([(q28, .inr (5, [.ref q15, .ref (ur.1 0), .ref (ur.1 1), .ref (ur.1 2), .ref (ur.1 3), .int 0, .ref (ur.1 4)])), (ur.1 0, .inl (cy 1, 128, .inl ur.2.1)), (ur.1 1, .inl (cy 1, 2100, .inl (fun _ => 0))), (ur.1 2, .inl (cy 1, 2100, .inl (fun _ => 0))), (ur.1 3, .inl (cy 1, 70, .inl (fun _ => 0))), (ur.1 4, .inl (cy 1, 64, .inl ur.2.2))])) ++ ([(q43, .inr (2, [.ref (us 0), .ref (us 1), .ref (us 2), .ref (us 3), .int 0])), (us 0, .inl (cy 1, 6, .inl (fun _ => 0))), (us 1, .inl (cy 1, 6, .inl (fun _ => 0))), (us 2, .inl (cy 1, 6, .inl (fun _ => 0))), (us 3, .inl (cy 2, 5, .inr (.inl (fun _ => 0))))])) ++ ([(q54, .inr (0, [.int 0]))]))) H := hP
  have hD : va_D A ((h0, .inr (6, [.ref q4, .ref q15, .ref q28, .ref q43, .ref q54, .null, .null, .null, .int 0, .int 0, .int 0])) :: ((((([(q4, .inr (1, [.ref (up 0), .int 0])), (up 0, .inl (cy 1, 50, .inl (fun _ => 0)))]) ++ ([(q15, .inr (4, [.ref ut.1, .int 0])), (ut.1, .inl (cy 3, 70, .inr (.inr (.inr (.inr ut.2.1)))))] ++ va_pl ut.2.2 (tfF (fun _ _ => 0)))) ++ ([(q28, .inr (5, [.ref q15, .ref (ur.1 0), .ref (ur.1 1), .ref (ur.1 2), .ref (ur.1 3), .int 0, .ref (ur.1 4)])), (ur.1 0, .inl (cy 1, 128, .inl ur.2.1)), (ur.1 1, .inl (cy 1, 2100, .inl (fun _ => 0))), (ur.1 2, .inl (cy 1, 2100, .inl (fun _ => 0))), (ur.1 3, .inl (cy 1, 70, .inl (fun _ => 0))), (ur.1 4, .inl (cy 1, 64, .inl ur.2.2))])) ++ ([(q43, .inr (2, [.ref (us 0), .ref (us 1), .ref (us 2), .ref (us 3), .int 0])), (us 0, .inl (cy 1, 6, .inl (fun _ => 0))), (us 1, .inl (cy 1, 6, .inl (fun _ => 0))), (us 2, .inl (cy 1, 6, .inl (fun _ => 0))), (us 3, .inl (cy 2, 5, .inr (.inl (fun _ => 0))))])) ++ ([(q54, .inr (0, [.int 0]))]))) := hD
  refine lv_aload_n hx hb dX6_init_65 rfl (lv_at hl 0 rfl) ?_
  refine va_new (ci := 3) (fs := [.int 0, .int 0, .int 0, .int 0, .int 0]) (C := RX3) (T := TX3) (N := 5) hx hb hT inlX3 tyX3 tyX3_ok hown (hT _ (tr_2 _ (List.mem_of_getElem? (i := 8) rfl))) (hT _ (tr_2 _ (List.mem_of_getElem? (i := 9) rfl))) (hT _ (tr_2 _ (List.mem_of_getElem? (i := 10) rfl))) hK hP hD hS hA rfl (fun j hj => by rcases (show j = 0 ∨ j = 1 ∨ j = 2 ∨ j = 3 ∨ j = 4 by omega) with rfl | rfl | rfl | rfl | rfl <;> rfl) (Nat.le_of_ble_eq_true rfl) (Nat.le_of_ble_eq_true rfl) dX6_init_66 (fun q65 H hP hD hS => ?_)
  refine lv_dup hx hb dX6_init_69 rfl ?_
  have hFc := free2 (wc := [(q65, .inr (3, [.int 0, .int 0, .int 0, .int 0, .int 0]))]) hD hS hA
  refine va_callv (va_runIN (As := []) (rest := [.ref q65, .ref h0]) ⟨hx, hb, hml, hown, hT⟩ (c_X3_init l D cy q65 H.size) ⟨va_cnB 0 hT (tb_I (fun _ h => h) (tr_3 _ (List.mem_of_getElem? (i := 6) rfl))) rfl rfl rfl hX5 (hT _ (tr_2 _ (List.mem_of_getElem? (i := 10) rfl))) (by decide +kernel) ⟨Nat.le_of_ble_eq_true rfl, Nat.le_of_ble_eq_true rfl⟩, rfl, hT _ (tr_3 _ (List.mem_of_getElem? (i := 5) rfl))⟩ ⟨fun a U f mk q => ⟨q.1, q.2.1, q.2.2.1, va_K.moved (u := U) (U := U.calling f mk a) (Vm.Alike.refl U.vm) q.2.2.2.1, q.2.2.2.2⟩, fun U hU hW => ⟨rfl, by rw [hU], by rw [hU]; exact part2 (rest := (h0, .inr (6, [.ref q4, .ref q15, .ref q28, .ref q43, .ref q54, .null, .null, .null, .int 0, .int 0, .int 0])) :: ((((([(q4, .inr (1, [.ref (up 0), .int 0])), (up 0, .inl (cy 1, 50, .inl (fun _ => 0)))]) ++ ([(q15, .inr (4, [.ref ut.1, .int 0])), (ut.1, .inl (cy 3, 70, .inr (.inr (.inr (.inr ut.2.1)))))] ++ va_pl ut.2.2 (tfF (fun _ _ => 0)))) ++ ([(q28, .inr (5, [.ref q15, .ref (ur.1 0), .ref (ur.1 1), .ref (ur.1 2), .ref (ur.1 3), .int 0, .ref (ur.1 4)])), (ur.1 0, .inl (cy 1, 128, .inl ur.2.1)), (ur.1 1, .inl (cy 1, 2100, .inl (fun _ => 0))), (ur.1 2, .inl (cy 1, 2100, .inl (fun _ => 0))), (ur.1 3, .inl (cy 1, 70, .inl (fun _ => 0))), (ur.1 4, .inl (cy 1, 64, .inl ur.2.2))])) ++ ([(q43, .inr (2, [.ref (us 0), .ref (us 1), .ref (us 2), .ref (us 3), .int 0])), (us 0, .inl (cy 1, 6, .inl (fun _ => 0))), (us 1, .inl (cy 1, 6, .inl (fun _ => 0))), (us 2, .inl (cy 1, 6, .inl (fun _ => 0))), (us 3, .inl (cy 2, 5, .inr (.inl (fun _ => 0))))])) ++ ([(q54, .inr (0, [.int 0]))]))) hP, va_K.moved hW.alike hK, partD (rest := (h0, .inr (6, [.ref q4, .ref q15, .ref q28, .ref q43, .ref q54, .null, .null, .null, .int 0, .int 0, .int 0])) :: ((((([(q4, .inr (1, [.ref (up 0), .int 0])), (up 0, .inl (cy 1, 50, .inl (fun _ => 0)))]) ++ ([(q15, .inr (4, [.ref ut.1, .int 0])), (ut.1, .inl (cy 3, 70, .inr (.inr (.inr (.inr ut.2.1)))))] ++ va_pl ut.2.2 (tfF (fun _ _ => 0)))) ++ ([(q28, .inr (5, [.ref q15, .ref (ur.1 0), .ref (ur.1 1), .ref (ur.1 2), .ref (ur.1 3), .int 0, .ref (ur.1 4)])), (ur.1 0, .inl (cy 1, 128, .inl ur.2.1)), (ur.1 1, .inl (cy 1, 2100, .inl (fun _ => 0))), (ur.1 2, .inl (cy 1, 2100, .inl (fun _ => 0))), (ur.1 3, .inl (cy 1, 70, .inl (fun _ => 0))), (ur.1 4, .inl (cy 1, 64, .inl ur.2.2))])) ++ ([(q43, .inr (2, [.ref (us 0), .ref (us 1), .ref (us 2), .ref (us 3), .int 0])), (us 0, .inl (cy 1, 6, .inl (fun _ => 0))), (us 1, .inl (cy 1, 6, .inl (fun _ => 0))), (us 2, .inl (cy 1, 6, .inl (fun _ => 0))), (us 3, .inl (cy 2, 5, .inr (.inl (fun _ => 0))))])) ++ ([(q54, .inr (0, [.int 0]))]))) hD⟩⟩ rfl rfl hl.1 rfl (lv_room (Nat.le_of_ble_eq_true rfl)) dX6_init_70 ⟨Nat.le_of_ble_eq_true rfl, Nat.le_of_ble_eq_true rfl⟩) hS (fun q _ h => hFc q h) hFc (fun ua t H1 locs ht hvm hw65 hB hz1 hk1 hS => ?_)
  obtain ⟨hP1, hD1⟩ := hB
  rw [ht] at hP1
  obtain ⟨hP, hD⟩ := join2 (rest := (h0, .inr (6, [.ref q4, .ref q15, .ref q28, .ref q43, .ref q54, .null, .null, .null, .int 0, .int 0, .int 0])) :: ((((([(q4, .inr (1, [.ref (up 0), .int 0])), (up 0, .inl (cy 1, 50, .inl (fun _ => 0)))]) ++ ([(q15, .inr (4, [.ref ut.1, .int 0])), (ut.1, .inl (cy 3, 70, .inr (.inr (.inr (.inr ut.2.1)))))] ++ va_pl ut.2.2 (tfF (fun _ _ => 0)))) ++ ([(q28, .inr (5, [.ref q15, .ref (ur.1 0), .ref (ur.1 1), .ref (ur.1 2), .ref (ur.1 3), .int 0, .ref (ur.1 4)])), (ur.1 0, .inl (cy 1, 128, .inl ur.2.1)), (ur.1 1, .inl (cy 1, 2100, .inl (fun _ => 0))), (ur.1 2, .inl (cy 1, 2100, .inl (fun _ => 0))), (ur.1 3, .inl (cy 1, 70, .inl (fun _ => 0))), (ur.1 4, .inl (cy 1, 64, .inl ur.2.2))])) ++ ([(q43, .inr (2, [.ref (us 0), .ref (us 1), .ref (us 2), .ref (us 3), .int 0])), (us 0, .inl (cy 1, 6, .inl (fun _ => 0))), (us 1, .inl (cy 1, 6, .inl (fun _ => 0))), (us 2, .inl (cy 1, 6, .inl (fun _ => 0))), (us 3, .inl (cy 2, 5, .inr (.inl (fun _ => 0))))])) ++ ([(q54, .inr (0, [.int 0]))]))) hP hD hk1 hFc hP1 hD1
  generalize H1 = H at hP hS ⊢
  have hP : va_P D vwCl ((h0, .inr (6, [.ref q4, .ref q15, .ref q28, .ref q43, .ref q54, .null, .null, .null, .int 0, .int 0, .int 0])) :: (((((([(q4, .inr (1, [.ref (up 0), .int 0])), (up 0, .inl (cy 1, 50, .inl (fun _ => 0)))]) ++ ([(q15, .inr (4, [.ref ut.1, .int 0])), (ut.1, .inl (cy 3, 70, .inr (.inr (.inr (.inr ut.2.1)))))] ++ va_pl ut.2.2 (tfF (fun _ _ => 0)))) ++ ([(q28, .inr (5, [.ref q15, .ref (ur.1 0), .ref (ur.1 1), .ref (ur.1 2), .ref (ur.1 3), .int 0, .ref (ur.1 4)])), (ur.1 0, .inl (cy 1, 128, .inl ur.2.1)), (ur.1 1, .inl (cy 1, 2100, .inl (fun _ => 0))), (ur.1 2, .inl (cy 1, 2100, .inl (fun _ => 0))), (ur.1 3, .inl (cy 1, 70, .inl (fun _ => 0))), (ur.1 4, .inl (cy 1, 64, .inl ur.2.2))])) ++ ([(q43, .inr (2, [.ref (us 0), .ref (us 1), .ref (us 2), .ref (us 3), .int 0])), (us 0, .inl (cy 1, 6, .inl (fun _ => 0))), (us 1, .inl (cy 1, 6, .inl (fun _ => 0))), (us 2, .inl (cy 1, 6, .inl (fun _ => 0))), (us 3, .inl (cy 2, 5, .inr (.inl (fun _ => 0))))])) ++ ([(q54, .inr (0, [.int 0]))])) ++ ([(q65, .inr (3, [.int 0, .int 0, .int 0, .int 0, .int 0]))]))) H := hP
  have hD : va_D A ((h0, .inr (6, [.ref q4, .ref q15, .ref q28, .ref q43, .ref q54, .null, .null, .null, .int 0, .int 0, .int 0])) :: (((((([(q4, .inr (1, [.ref (up 0), .int 0])), (up 0, .inl (cy 1, 50, .inl (fun _ => 0)))]) ++ ([(q15, .inr (4, [.ref ut.1, .int 0])), (ut.1, .inl (cy 3, 70, .inr (.inr (.inr (.inr ut.2.1)))))] ++ va_pl ut.2.2 (tfF (fun _ _ => 0)))) ++ ([(q28, .inr (5, [.ref q15, .ref (ur.1 0), .ref (ur.1 1), .ref (ur.1 2), .ref (ur.1 3), .int 0, .ref (ur.1 4)])), (ur.1 0, .inl (cy 1, 128, .inl ur.2.1)), (ur.1 1, .inl (cy 1, 2100, .inl (fun _ => 0))), (ur.1 2, .inl (cy 1, 2100, .inl (fun _ => 0))), (ur.1 3, .inl (cy 1, 70, .inl (fun _ => 0))), (ur.1 4, .inl (cy 1, 64, .inl ur.2.2))])) ++ ([(q43, .inr (2, [.ref (us 0), .ref (us 1), .ref (us 2), .ref (us 3), .int 0])), (us 0, .inl (cy 1, 6, .inl (fun _ => 0))), (us 1, .inl (cy 1, 6, .inl (fun _ => 0))), (us 2, .inl (cy 1, 6, .inl (fun _ => 0))), (us 3, .inl (cy 2, 5, .inr (.inl (fun _ => 0))))])) ++ ([(q54, .inr (0, [.int 0]))])) ++ ([(q65, .inr (3, [.int 0, .int 0, .int 0, .int 0, .int 0]))]))) := hD
  refine va_putF (D := D) (ci := 6) (v := .ref q65) (ty := .object "TariffDesk$Tariff") (C := RX6) (T := TX6) (N := 11) hx hb hT inlX6 tyX6 tyX6_ok nmX6 hown hK hP hD hS 0 rfl rfl 5 (by decide) (hT _ (tr_2 _ (List.mem_of_getElem? (i := 11) rfl))) (fun _ h9 => h9) rfl hin rfl (by decide +kernel) rfl rfl (Nat.le_of_ble_eq_true rfl) dX6_init_73 (fun H locs hP hD hS => ?_)
  have hP : va_P D vwCl ((h0, .inr (6, [.ref q4, .ref q15, .ref q28, .ref q43, .ref q54, .ref q65, .null, .null, .int 0, .int 0, .int 0])) :: (((((([(q4, .inr (1, [.ref (up 0), .int 0])), (up 0, .inl (cy 1, 50, .inl (fun _ => 0)))]) ++ ([(q15, .inr (4, [.ref ut.1, .int 0])), (ut.1, .inl (cy 3, 70, .inr (.inr (.inr (.inr ut.2.1)))))] ++ va_pl ut.2.2 (tfF (fun _ _ => 0)))) ++ ([(q28, .inr (5, [.ref q15, .ref (ur.1 0), .ref (ur.1 1), .ref (ur.1 2), .ref (ur.1 3), .int 0, .ref (ur.1 4)])), (ur.1 0, .inl (cy 1, 128, .inl ur.2.1)), (ur.1 1, .inl (cy 1, 2100, .inl (fun _ => 0))), (ur.1 2, .inl (cy 1, 2100, .inl (fun _ => 0))), (ur.1 3, .inl (cy 1, 70, .inl (fun _ => 0))), (ur.1 4, .inl (cy 1, 64, .inl ur.2.2))])) ++ ([(q43, .inr (2, [.ref (us 0), .ref (us 1), .ref (us 2), .ref (us 3), .int 0])), (us 0, .inl (cy 1, 6, .inl (fun _ => 0))), (us 1, .inl (cy 1, 6, .inl (fun _ => 0))), (us 2, .inl (cy 1, 6, .inl (fun _ => 0))), (us 3, .inl (cy 2, 5, .inr (.inl (fun _ => 0))))])) ++ ([(q54, .inr (0, [.int 0]))])) ++ ([(q65, .inr (3, [.int 0, .int 0, .int 0, .int 0, .int 0]))]))) H := hP
  have hD : va_D A ((h0, .inr (6, [.ref q4, .ref q15, .ref q28, .ref q43, .ref q54, .ref q65, .null, .null, .int 0, .int 0, .int 0])) :: (((((([(q4, .inr (1, [.ref (up 0), .int 0])), (up 0, .inl (cy 1, 50, .inl (fun _ => 0)))]) ++ ([(q15, .inr (4, [.ref ut.1, .int 0])), (ut.1, .inl (cy 3, 70, .inr (.inr (.inr (.inr ut.2.1)))))] ++ va_pl ut.2.2 (tfF (fun _ _ => 0)))) ++ ([(q28, .inr (5, [.ref q15, .ref (ur.1 0), .ref (ur.1 1), .ref (ur.1 2), .ref (ur.1 3), .int 0, .ref (ur.1 4)])), (ur.1 0, .inl (cy 1, 128, .inl ur.2.1)), (ur.1 1, .inl (cy 1, 2100, .inl (fun _ => 0))), (ur.1 2, .inl (cy 1, 2100, .inl (fun _ => 0))), (ur.1 3, .inl (cy 1, 70, .inl (fun _ => 0))), (ur.1 4, .inl (cy 1, 64, .inl ur.2.2))])) ++ ([(q43, .inr (2, [.ref (us 0), .ref (us 1), .ref (us 2), .ref (us 3), .int 0])), (us 0, .inl (cy 1, 6, .inl (fun _ => 0))), (us 1, .inl (cy 1, 6, .inl (fun _ => 0))), (us 2, .inl (cy 1, 6, .inl (fun _ => 0))), (us 3, .inl (cy 2, 5, .inr (.inl (fun _ => 0))))])) ++ ([(q54, .inr (0, [.int 0]))])) ++ ([(q65, .inr (3, [.int 0, .int 0, .int 0, .int 0, .int 0]))]))) := hD
  refine lv_aload_n hx hb dX6_init_76 rfl (lv_at hl 0 rfl) ?_
  refine va_new (ci := 4) (fs := [.null, .int 0]) (C := RX4) (T := TX4) (N := 2) hx hb hT inlX4 tyX4 tyX4_ok hown (hT _ (tr_1 _ (List.mem_of_getElem? (i := 16) rfl))) (hT _ (tr_1 _ (List.mem_of_getElem? (i := 17) rfl))) (hT _ (tr_1 _ (List.mem_of_getElem? (i := 18) rfl))) hK hP hD hS hA rfl (fun j hj => by rcases (show j = 0 ∨ j = 1 by omega) with rfl | rfl <;> rfl) (Nat.le_of_ble_eq_true rfl) (Nat.le_of_ble_eq_true rfl) dX6_init_77 (fun q76 H hP hD hS => ?_)
  refine lv_dup hx hb dX6_init_80 rfl ?_
  refine lv_bipush (v := 40) hx hb dX6_init_81 (by decide) ?_
  have hFc := free2 (wc := [(q76, .inr (4, [.null, .int 0]))]) hD hS hA
  refine va_callv (va_runI (As := [.int 40]) (rest := [.ref q76, .ref h0]) ⟨hx, hb, hml, hown, hT⟩ (c_X4_init_40 l D cy q76 H.size) (cwI 1 hT (tb_I (fun _ h => h) (tr_2 _ (List.mem_of_getElem? (i := 21) rfl))) rfl rfl rfl (hT _ (tr_1 _ (List.mem_of_getElem? (i := 18) rfl))) (hT _ (tr_2 _ (List.mem_of_getElem? (i := 19) rfl))) (hT _ (tr_2 _ (List.mem_of_getElem? (i := 20) rfl))) rfl (by decide +kernel) ⟨Nat.le_of_ble_eq_true rfl, Nat.le_of_ble_eq_true rfl⟩) ⟨fun a U f mk q => ⟨q.1, q.2.1, q.2.2.1, va_K.moved (u := U) (U := U.calling f mk a) (Vm.Alike.refl U.vm) q.2.2.2.1, q.2.2.2.2.1, va_AO.moved (u := U) (U := U.calling f mk a) (Vm.Alike.refl U.vm) q.2.2.2.2.2.1, va_Nw.same rfl (u := U) rfl q.2.2.2.2.2.2⟩, fun U hU hW => ⟨rfl, by rw [hU], by rw [hU]; exact part2 (rest := (h0, .inr (6, [.ref q4, .ref q15, .ref q28, .ref q43, .ref q54, .ref q65, .null, .null, .int 0, .int 0, .int 0])) :: (((((([(q4, .inr (1, [.ref (up 0), .int 0])), (up 0, .inl (cy 1, 50, .inl (fun _ => 0)))]) ++ ([(q15, .inr (4, [.ref ut.1, .int 0])), (ut.1, .inl (cy 3, 70, .inr (.inr (.inr (.inr ut.2.1)))))] ++ va_pl ut.2.2 (tfF (fun _ _ => 0)))) ++ ([(q28, .inr (5, [.ref q15, .ref (ur.1 0), .ref (ur.1 1), .ref (ur.1 2), .ref (ur.1 3), .int 0, .ref (ur.1 4)])), (ur.1 0, .inl (cy 1, 128, .inl ur.2.1)), (ur.1 1, .inl (cy 1, 2100, .inl (fun _ => 0))), (ur.1 2, .inl (cy 1, 2100, .inl (fun _ => 0))), (ur.1 3, .inl (cy 1, 70, .inl (fun _ => 0))), (ur.1 4, .inl (cy 1, 64, .inl ur.2.2))])) ++ ([(q43, .inr (2, [.ref (us 0), .ref (us 1), .ref (us 2), .ref (us 3), .int 0])), (us 0, .inl (cy 1, 6, .inl (fun _ => 0))), (us 1, .inl (cy 1, 6, .inl (fun _ => 0))), (us 2, .inl (cy 1, 6, .inl (fun _ => 0))), (us 3, .inl (cy 2, 5, .inr (.inl (fun _ => 0))))])) ++ ([(q54, .inr (0, [.int 0]))])) ++ ([(q65, .inr (3, [.int 0, .int 0, .int 0, .int 0, .int 0]))]))) hP, va_K.moved hW.alike hK, partD (rest := (h0, .inr (6, [.ref q4, .ref q15, .ref q28, .ref q43, .ref q54, .ref q65, .null, .null, .int 0, .int 0, .int 0])) :: (((((([(q4, .inr (1, [.ref (up 0), .int 0])), (up 0, .inl (cy 1, 50, .inl (fun _ => 0)))]) ++ ([(q15, .inr (4, [.ref ut.1, .int 0])), (ut.1, .inl (cy 3, 70, .inr (.inr (.inr (.inr ut.2.1)))))] ++ va_pl ut.2.2 (tfF (fun _ _ => 0)))) ++ ([(q28, .inr (5, [.ref q15, .ref (ur.1 0), .ref (ur.1 1), .ref (ur.1 2), .ref (ur.1 3), .int 0, .ref (ur.1 4)])), (ur.1 0, .inl (cy 1, 128, .inl ur.2.1)), (ur.1 1, .inl (cy 1, 2100, .inl (fun _ => 0))), (ur.1 2, .inl (cy 1, 2100, .inl (fun _ => 0))), (ur.1 3, .inl (cy 1, 70, .inl (fun _ => 0))), (ur.1 4, .inl (cy 1, 64, .inl ur.2.2))])) ++ ([(q43, .inr (2, [.ref (us 0), .ref (us 1), .ref (us 2), .ref (us 3), .int 0])), (us 0, .inl (cy 1, 6, .inl (fun _ => 0))), (us 1, .inl (cy 1, 6, .inl (fun _ => 0))), (us 2, .inl (cy 1, 6, .inl (fun _ => 0))), (us 3, .inl (cy 2, 5, .inr (.inl (fun _ => 0))))])) ++ ([(q54, .inr (0, [.int 0]))])) ++ ([(q65, .inr (3, [.int 0, .int 0, .int 0, .int 0, .int 0]))]))) hD, va_AO.moved hW.alike hX0, va_Nw.warmM hW hX1⟩⟩ rfl rfl hl.1 rfl (lv_room (Nat.le_of_ble_eq_true rfl)) dX6_init_83 ⟨Nat.le_of_ble_eq_true rfl, Nat.le_of_ble_eq_true rfl⟩) hS (fun q _ h => hFc q h) hFc (fun uk t H1 locs ht hvm hw76 hB hz1 hk1 hS => ?_)
  obtain ⟨hP1, hD1⟩ := hB
  rw [ht] at hP1
  obtain ⟨hP, hD⟩ := join2 (rest := (h0, .inr (6, [.ref q4, .ref q15, .ref q28, .ref q43, .ref q54, .ref q65, .null, .null, .int 0, .int 0, .int 0])) :: (((((([(q4, .inr (1, [.ref (up 0), .int 0])), (up 0, .inl (cy 1, 50, .inl (fun _ => 0)))]) ++ ([(q15, .inr (4, [.ref ut.1, .int 0])), (ut.1, .inl (cy 3, 70, .inr (.inr (.inr (.inr ut.2.1)))))] ++ va_pl ut.2.2 (tfF (fun _ _ => 0)))) ++ ([(q28, .inr (5, [.ref q15, .ref (ur.1 0), .ref (ur.1 1), .ref (ur.1 2), .ref (ur.1 3), .int 0, .ref (ur.1 4)])), (ur.1 0, .inl (cy 1, 128, .inl ur.2.1)), (ur.1 1, .inl (cy 1, 2100, .inl (fun _ => 0))), (ur.1 2, .inl (cy 1, 2100, .inl (fun _ => 0))), (ur.1 3, .inl (cy 1, 70, .inl (fun _ => 0))), (ur.1 4, .inl (cy 1, 64, .inl ur.2.2))])) ++ ([(q43, .inr (2, [.ref (us 0), .ref (us 1), .ref (us 2), .ref (us 3), .int 0])), (us 0, .inl (cy 1, 6, .inl (fun _ => 0))), (us 1, .inl (cy 1, 6, .inl (fun _ => 0))), (us 2, .inl (cy 1, 6, .inl (fun _ => 0))), (us 3, .inl (cy 2, 5, .inr (.inl (fun _ => 0))))])) ++ ([(q54, .inr (0, [.int 0]))])) ++ ([(q65, .inr (3, [.int 0, .int 0, .int 0, .int 0, .int 0]))]))) hP hD hk1 hFc hP1 hD1
  generalize H1 = H at hP hS ⊢
  have hP : va_P D vwCl ((h0, .inr (6, [.ref q4, .ref q15, .ref q28, .ref q43, .ref q54, .ref q65, .null, .null, .int 0, .int 0, .int 0])) :: ((((((([(q4, .inr (1, [.ref (up 0), .int 0])), (up 0, .inl (cy 1, 50, .inl (fun _ => 0)))]) ++ ([(q15, .inr (4, [.ref ut.1, .int 0])), (ut.1, .inl (cy 3, 70, .inr (.inr (.inr (.inr ut.2.1)))))] ++ va_pl ut.2.2 (tfF (fun _ _ => 0)))) ++ ([(q28, .inr (5, [.ref q15, .ref (ur.1 0), .ref (ur.1 1), .ref (ur.1 2), .ref (ur.1 3), .int 0, .ref (ur.1 4)])), (ur.1 0, .inl (cy 1, 128, .inl ur.2.1)), (ur.1 1, .inl (cy 1, 2100, .inl (fun _ => 0))), (ur.1 2, .inl (cy 1, 2100, .inl (fun _ => 0))), (ur.1 3, .inl (cy 1, 70, .inl (fun _ => 0))), (ur.1 4, .inl (cy 1, 64, .inl ur.2.2))])) ++ ([(q43, .inr (2, [.ref (us 0), .ref (us 1), .ref (us 2), .ref (us 3), .int 0])), (us 0, .inl (cy 1, 6, .inl (fun _ => 0))), (us 1, .inl (cy 1, 6, .inl (fun _ => 0))), (us 2, .inl (cy 1, 6, .inl (fun _ => 0))), (us 3, .inl (cy 2, 5, .inr (.inl (fun _ => 0))))])) ++ ([(q54, .inr (0, [.int 0]))])) ++ ([(q65, .inr (3, [.int 0, .int 0, .int 0, .int 0, .int 0]))])) ++ ([(q76, .inr (4, [.ref uk.1, .int 0])), (uk.1, .inl (cy 3, 40, .inr (.inr (.inr (.inr uk.2.1)))))] ++ va_pl uk.2.2 (tfF (fun _ _ => 0))))) H := hP
  have hD : va_D A ((h0, .inr (6, [.ref q4, .ref q15, .ref q28, .ref q43, .ref q54, .ref q65, .null, .null, .int 0, .int 0, .int 0])) :: ((((((([(q4, .inr (1, [.ref (up 0), .int 0])), (up 0, .inl (cy 1, 50, .inl (fun _ => 0)))]) ++ ([(q15, .inr (4, [.ref ut.1, .int 0])), (ut.1, .inl (cy 3, 70, .inr (.inr (.inr (.inr ut.2.1)))))] ++ va_pl ut.2.2 (tfF (fun _ _ => 0)))) ++ ([(q28, .inr (5, [.ref q15, .ref (ur.1 0), .ref (ur.1 1), .ref (ur.1 2), .ref (ur.1 3), .int 0, .ref (ur.1 4)])), (ur.1 0, .inl (cy 1, 128, .inl ur.2.1)), (ur.1 1, .inl (cy 1, 2100, .inl (fun _ => 0))), (ur.1 2, .inl (cy 1, 2100, .inl (fun _ => 0))), (ur.1 3, .inl (cy 1, 70, .inl (fun _ => 0))), (ur.1 4, .inl (cy 1, 64, .inl ur.2.2))])) ++ ([(q43, .inr (2, [.ref (us 0), .ref (us 1), .ref (us 2), .ref (us 3), .int 0])), (us 0, .inl (cy 1, 6, .inl (fun _ => 0))), (us 1, .inl (cy 1, 6, .inl (fun _ => 0))), (us 2, .inl (cy 1, 6, .inl (fun _ => 0))), (us 3, .inl (cy 2, 5, .inr (.inl (fun _ => 0))))])) ++ ([(q54, .inr (0, [.int 0]))])) ++ ([(q65, .inr (3, [.int 0, .int 0, .int 0, .int 0, .int 0]))])) ++ ([(q76, .inr (4, [.ref uk.1, .int 0])), (uk.1, .inl (cy 3, 40, .inr (.inr (.inr (.inr uk.2.1)))))] ++ va_pl uk.2.2 (tfF (fun _ _ => 0))))) := hD
  refine va_putF (D := D) (ci := 6) (v := .ref q76) (ty := .object "TariffDesk$Tariffs") (C := RX6) (T := TX6) (N := 11) hx hb hT inlX6 tyX6 tyX6_ok nmX6 hown hK hP hD hS 0 rfl rfl 6 (by decide) (hT _ (tr_2 _ (List.mem_of_getElem? (i := 12) rfl))) (fun _ h9 => h9) rfl hin rfl (by decide +kernel) rfl rfl (Nat.le_of_ble_eq_true rfl) dX6_init_86 (fun H locs hP hD hS => ?_)
  have hP : va_P D vwCl ((h0, .inr (6, [.ref q4, .ref q15, .ref q28, .ref q43, .ref q54, .ref q65, .ref q76, .null, .int 0, .int 0, .int 0])) :: ((((((([(q4, .inr (1, [.ref (up 0), .int 0])), (up 0, .inl (cy 1, 50, .inl (fun _ => 0)))]) ++ ([(q15, .inr (4, [.ref ut.1, .int 0])), (ut.1, .inl (cy 3, 70, .inr (.inr (.inr (.inr ut.2.1)))))] ++ va_pl ut.2.2 (tfF (fun _ _ => 0)))) ++ ([(q28, .inr (5, [.ref q15, .ref (ur.1 0), .ref (ur.1 1), .ref (ur.1 2), .ref (ur.1 3), .int 0, .ref (ur.1 4)])), (ur.1 0, .inl (cy 1, 128, .inl ur.2.1)), (ur.1 1, .inl (cy 1, 2100, .inl (fun _ => 0))), (ur.1 2, .inl (cy 1, 2100, .inl (fun _ => 0))), (ur.1 3, .inl (cy 1, 70, .inl (fun _ => 0))), (ur.1 4, .inl (cy 1, 64, .inl ur.2.2))])) ++ ([(q43, .inr (2, [.ref (us 0), .ref (us 1), .ref (us 2), .ref (us 3), .int 0])), (us 0, .inl (cy 1, 6, .inl (fun _ => 0))), (us 1, .inl (cy 1, 6, .inl (fun _ => 0))), (us 2, .inl (cy 1, 6, .inl (fun _ => 0))), (us 3, .inl (cy 2, 5, .inr (.inl (fun _ => 0))))])) ++ ([(q54, .inr (0, [.int 0]))])) ++ ([(q65, .inr (3, [.int 0, .int 0, .int 0, .int 0, .int 0]))])) ++ ([(q76, .inr (4, [.ref uk.1, .int 0])), (uk.1, .inl (cy 3, 40, .inr (.inr (.inr (.inr uk.2.1)))))] ++ va_pl uk.2.2 (tfF (fun _ _ => 0))))) H := hP
  have hD : va_D A ((h0, .inr (6, [.ref q4, .ref q15, .ref q28, .ref q43, .ref q54, .ref q65, .ref q76, .null, .int 0, .int 0, .int 0])) :: ((((((([(q4, .inr (1, [.ref (up 0), .int 0])), (up 0, .inl (cy 1, 50, .inl (fun _ => 0)))]) ++ ([(q15, .inr (4, [.ref ut.1, .int 0])), (ut.1, .inl (cy 3, 70, .inr (.inr (.inr (.inr ut.2.1)))))] ++ va_pl ut.2.2 (tfF (fun _ _ => 0)))) ++ ([(q28, .inr (5, [.ref q15, .ref (ur.1 0), .ref (ur.1 1), .ref (ur.1 2), .ref (ur.1 3), .int 0, .ref (ur.1 4)])), (ur.1 0, .inl (cy 1, 128, .inl ur.2.1)), (ur.1 1, .inl (cy 1, 2100, .inl (fun _ => 0))), (ur.1 2, .inl (cy 1, 2100, .inl (fun _ => 0))), (ur.1 3, .inl (cy 1, 70, .inl (fun _ => 0))), (ur.1 4, .inl (cy 1, 64, .inl ur.2.2))])) ++ ([(q43, .inr (2, [.ref (us 0), .ref (us 1), .ref (us 2), .ref (us 3), .int 0])), (us 0, .inl (cy 1, 6, .inl (fun _ => 0))), (us 1, .inl (cy 1, 6, .inl (fun _ => 0))), (us 2, .inl (cy 1, 6, .inl (fun _ => 0))), (us 3, .inl (cy 2, 5, .inr (.inl (fun _ => 0))))])) ++ ([(q54, .inr (0, [.int 0]))])) ++ ([(q65, .inr (3, [.int 0, .int 0, .int 0, .int 0, .int 0]))])) ++ ([(q76, .inr (4, [.ref uk.1, .int 0])), (uk.1, .inl (cy 3, 40, .inr (.inr (.inr (.inr uk.2.1)))))] ++ va_pl uk.2.2 (tfF (fun _ _ => 0))))) := hD
  refine lv_aload_n hx hb dX6_init_89 rfl (lv_at hl 0 rfl) ?_
  refine va_new (ci := 2) (fs := [.null, .null, .null, .null, .int 0]) (C := RX2) (T := TX2) (N := 5) hx hb hT inlX2 tyX2 tyX2_ok hown (hT _ (tr_2 _ (List.mem_of_getElem? (i := 0) rfl))) (hT _ (tr_2 _ (List.mem_of_getElem? (i := 1) rfl))) (hT _ (tr_2 _ (List.mem_of_getElem? (i := 2) rfl))) hK hP hD hS hA rfl (fun j hj => by rcases (show j = 0 ∨ j = 1 ∨ j = 2 ∨ j = 3 ∨ j = 4 by omega) with rfl | rfl | rfl | rfl | rfl <;> rfl) (Nat.le_of_ble_eq_true rfl) (Nat.le_of_ble_eq_true rfl) dX6_init_90 (fun q89 H hP hD hS => ?_)
  refine lv_dup hx hb dX6_init_93 rfl ?_
  have hFc := free2 (wc := [(q89, .inr (2, [.null, .null, .null, .null, .int 0]))]) hD hS hA
  refine va_callv (va_runIN (As := []) (rest := [.ref q89, .ref h0]) ⟨hx, hb, hml, hown, hT⟩ (c_X2_init l D cy q89 H.size) ⟨va_cnB 0 hT (tb_I (fun _ h => h) (tr_3 _ (List.mem_of_getElem? (i := 23) rfl))) rfl rfl rfl hX3 (hT _ (tr_2 _ (List.mem_of_getElem? (i := 2) rfl))) (by decide +kernel) ⟨Nat.le_of_ble_eq_true rfl, Nat.le_of_ble_eq_true rfl⟩, rfl, hT _ (tr_3 _ (List.mem_of_getElem? (i := 22) rfl))⟩ ⟨fun a U f mk q => ⟨q.1, q.2.1, q.2.2.1, va_K.moved (u := U) (U := U.calling f mk a) (Vm.Alike.refl U.vm) q.2.2.2.1, q.2.2.2.2⟩, fun U hU hW => ⟨rfl, by rw [hU], by rw [hU]; exact part2 (rest := (h0, .inr (6, [.ref q4, .ref q15, .ref q28, .ref q43, .ref q54, .ref q65, .ref q76, .null, .int 0, .int 0, .int 0])) :: ((((((([(q4, .inr (1, [.ref (up 0), .int 0])), (up 0, .inl (cy 1, 50, .inl (fun _ => 0)))]) ++ ([(q15, .inr (4, [.ref ut.1, .int 0])), (ut.1, .inl (cy 3, 70, .inr (.inr (.inr (.inr ut.2.1)))))] ++ va_pl ut.2.2 (tfF (fun _ _ => 0)))) ++ ([(q28, .inr (5, [.ref q15, .ref (ur.1 0), .ref (ur.1 1), .ref (ur.1 2), .ref (ur.1 3), .int 0, .ref (ur.1 4)])), (ur.1 0, .inl (cy 1, 128, .inl ur.2.1)), (ur.1 1, .inl (cy 1, 2100, .inl (fun _ => 0))), (ur.1 2, .inl (cy 1, 2100, .inl (fun _ => 0))), (ur.1 3, .inl (cy 1, 70, .inl (fun _ => 0))), (ur.1 4, .inl (cy 1, 64, .inl ur.2.2))])) ++ ([(q43, .inr (2, [.ref (us 0), .ref (us 1), .ref (us 2), .ref (us 3), .int 0])), (us 0, .inl (cy 1, 6, .inl (fun _ => 0))), (us 1, .inl (cy 1, 6, .inl (fun _ => 0))), (us 2, .inl (cy 1, 6, .inl (fun _ => 0))), (us 3, .inl (cy 2, 5, .inr (.inl (fun _ => 0))))])) ++ ([(q54, .inr (0, [.int 0]))])) ++ ([(q65, .inr (3, [.int 0, .int 0, .int 0, .int 0, .int 0]))])) ++ ([(q76, .inr (4, [.ref uk.1, .int 0])), (uk.1, .inl (cy 3, 40, .inr (.inr (.inr (.inr uk.2.1)))))] ++ va_pl uk.2.2 (tfF (fun _ _ => 0))))) hP, va_K.moved hW.alike hK, partD (rest := (h0, .inr (6, [.ref q4, .ref q15, .ref q28, .ref q43, .ref q54, .ref q65, .ref q76, .null, .int 0, .int 0, .int 0])) :: ((((((([(q4, .inr (1, [.ref (up 0), .int 0])), (up 0, .inl (cy 1, 50, .inl (fun _ => 0)))]) ++ ([(q15, .inr (4, [.ref ut.1, .int 0])), (ut.1, .inl (cy 3, 70, .inr (.inr (.inr (.inr ut.2.1)))))] ++ va_pl ut.2.2 (tfF (fun _ _ => 0)))) ++ ([(q28, .inr (5, [.ref q15, .ref (ur.1 0), .ref (ur.1 1), .ref (ur.1 2), .ref (ur.1 3), .int 0, .ref (ur.1 4)])), (ur.1 0, .inl (cy 1, 128, .inl ur.2.1)), (ur.1 1, .inl (cy 1, 2100, .inl (fun _ => 0))), (ur.1 2, .inl (cy 1, 2100, .inl (fun _ => 0))), (ur.1 3, .inl (cy 1, 70, .inl (fun _ => 0))), (ur.1 4, .inl (cy 1, 64, .inl ur.2.2))])) ++ ([(q43, .inr (2, [.ref (us 0), .ref (us 1), .ref (us 2), .ref (us 3), .int 0])), (us 0, .inl (cy 1, 6, .inl (fun _ => 0))), (us 1, .inl (cy 1, 6, .inl (fun _ => 0))), (us 2, .inl (cy 1, 6, .inl (fun _ => 0))), (us 3, .inl (cy 2, 5, .inr (.inl (fun _ => 0))))])) ++ ([(q54, .inr (0, [.int 0]))])) ++ ([(q65, .inr (3, [.int 0, .int 0, .int 0, .int 0, .int 0]))])) ++ ([(q76, .inr (4, [.ref uk.1, .int 0])), (uk.1, .inl (cy 3, 40, .inr (.inr (.inr (.inr uk.2.1)))))] ++ va_pl uk.2.2 (tfF (fun _ _ => 0))))) hD⟩⟩ rfl rfl hl.1 rfl (lv_room (Nat.le_of_ble_eq_true rfl)) dX6_init_94 ⟨Nat.le_of_ble_eq_true rfl, Nat.le_of_ble_eq_true rfl⟩) hS (fun q _ h => hFc q h) hFc (fun uz t H1 locs ht hvm hw89 hB hz1 hk1 hS => ?_)
  obtain ⟨hP1, hD1⟩ := hB
  rw [ht] at hP1
  obtain ⟨hP, hD⟩ := join2 (rest := (h0, .inr (6, [.ref q4, .ref q15, .ref q28, .ref q43, .ref q54, .ref q65, .ref q76, .null, .int 0, .int 0, .int 0])) :: ((((((([(q4, .inr (1, [.ref (up 0), .int 0])), (up 0, .inl (cy 1, 50, .inl (fun _ => 0)))]) ++ ([(q15, .inr (4, [.ref ut.1, .int 0])), (ut.1, .inl (cy 3, 70, .inr (.inr (.inr (.inr ut.2.1)))))] ++ va_pl ut.2.2 (tfF (fun _ _ => 0)))) ++ ([(q28, .inr (5, [.ref q15, .ref (ur.1 0), .ref (ur.1 1), .ref (ur.1 2), .ref (ur.1 3), .int 0, .ref (ur.1 4)])), (ur.1 0, .inl (cy 1, 128, .inl ur.2.1)), (ur.1 1, .inl (cy 1, 2100, .inl (fun _ => 0))), (ur.1 2, .inl (cy 1, 2100, .inl (fun _ => 0))), (ur.1 3, .inl (cy 1, 70, .inl (fun _ => 0))), (ur.1 4, .inl (cy 1, 64, .inl ur.2.2))])) ++ ([(q43, .inr (2, [.ref (us 0), .ref (us 1), .ref (us 2), .ref (us 3), .int 0])), (us 0, .inl (cy 1, 6, .inl (fun _ => 0))), (us 1, .inl (cy 1, 6, .inl (fun _ => 0))), (us 2, .inl (cy 1, 6, .inl (fun _ => 0))), (us 3, .inl (cy 2, 5, .inr (.inl (fun _ => 0))))])) ++ ([(q54, .inr (0, [.int 0]))])) ++ ([(q65, .inr (3, [.int 0, .int 0, .int 0, .int 0, .int 0]))])) ++ ([(q76, .inr (4, [.ref uk.1, .int 0])), (uk.1, .inl (cy 3, 40, .inr (.inr (.inr (.inr uk.2.1)))))] ++ va_pl uk.2.2 (tfF (fun _ _ => 0))))) hP hD hk1 hFc hP1 hD1
  generalize H1 = H at hP hS ⊢
  have hP : va_P D vwCl ((h0, .inr (6, [.ref q4, .ref q15, .ref q28, .ref q43, .ref q54, .ref q65, .ref q76, .null, .int 0, .int 0, .int 0])) :: (((((((([(q4, .inr (1, [.ref (up 0), .int 0])), (up 0, .inl (cy 1, 50, .inl (fun _ => 0)))]) ++ ([(q15, .inr (4, [.ref ut.1, .int 0])), (ut.1, .inl (cy 3, 70, .inr (.inr (.inr (.inr ut.2.1)))))] ++ va_pl ut.2.2 (tfF (fun _ _ => 0)))) ++ ([(q28, .inr (5, [.ref q15, .ref (ur.1 0), .ref (ur.1 1), .ref (ur.1 2), .ref (ur.1 3), .int 0, .ref (ur.1 4)])), (ur.1 0, .inl (cy 1, 128, .inl ur.2.1)), (ur.1 1, .inl (cy 1, 2100, .inl (fun _ => 0))), (ur.1 2, .inl (cy 1, 2100, .inl (fun _ => 0))), (ur.1 3, .inl (cy 1, 70, .inl (fun _ => 0))), (ur.1 4, .inl (cy 1, 64, .inl ur.2.2))])) ++ ([(q43, .inr (2, [.ref (us 0), .ref (us 1), .ref (us 2), .ref (us 3), .int 0])), (us 0, .inl (cy 1, 6, .inl (fun _ => 0))), (us 1, .inl (cy 1, 6, .inl (fun _ => 0))), (us 2, .inl (cy 1, 6, .inl (fun _ => 0))), (us 3, .inl (cy 2, 5, .inr (.inl (fun _ => 0))))])) ++ ([(q54, .inr (0, [.int 0]))])) ++ ([(q65, .inr (3, [.int 0, .int 0, .int 0, .int 0, .int 0]))])) ++ ([(q76, .inr (4, [.ref uk.1, .int 0])), (uk.1, .inl (cy 3, 40, .inr (.inr (.inr (.inr uk.2.1)))))] ++ va_pl uk.2.2 (tfF (fun _ _ => 0)))) ++ ([(q89, .inr (2, [.ref (uz 0), .ref (uz 1), .ref (uz 2), .ref (uz 3), .int 0])), (uz 0, .inl (cy 1, 6, .inl (fun _ => 0))), (uz 1, .inl (cy 1, 6, .inl (fun _ => 0))), (uz 2, .inl (cy 1, 6, .inl (fun _ => 0))), (uz 3, .inl (cy 2, 5, .inr (.inl (fun _ => 0))))]))) H := hP
  have hD : va_D A ((h0, .inr (6, [.ref q4, .ref q15, .ref q28, .ref q43, .ref q54, .ref q65, .ref q76, .null, .int 0, .int 0, .int 0])) :: (((((((([(q4, .inr (1, [.ref (up 0), .int 0])), (up 0, .inl (cy 1, 50, .inl (fun _ => 0)))]) ++ ([(q15, .inr (4, [.ref ut.1, .int 0])), (ut.1, .inl (cy 3, 70, .inr (.inr (.inr (.inr ut.2.1)))))] ++ va_pl ut.2.2 (tfF (fun _ _ => 0)))) ++ ([(q28, .inr (5, [.ref q15, .ref (ur.1 0), .ref (ur.1 1), .ref (ur.1 2), .ref (ur.1 3), .int 0, .ref (ur.1 4)])), (ur.1 0, .inl (cy 1, 128, .inl ur.2.1)), (ur.1 1, .inl (cy 1, 2100, .inl (fun _ => 0))), (ur.1 2, .inl (cy 1, 2100, .inl (fun _ => 0))), (ur.1 3, .inl (cy 1, 70, .inl (fun _ => 0))), (ur.1 4, .inl (cy 1, 64, .inl ur.2.2))])) ++ ([(q43, .inr (2, [.ref (us 0), .ref (us 1), .ref (us 2), .ref (us 3), .int 0])), (us 0, .inl (cy 1, 6, .inl (fun _ => 0))), (us 1, .inl (cy 1, 6, .inl (fun _ => 0))), (us 2, .inl (cy 1, 6, .inl (fun _ => 0))), (us 3, .inl (cy 2, 5, .inr (.inl (fun _ => 0))))])) ++ ([(q54, .inr (0, [.int 0]))])) ++ ([(q65, .inr (3, [.int 0, .int 0, .int 0, .int 0, .int 0]))])) ++ ([(q76, .inr (4, [.ref uk.1, .int 0])), (uk.1, .inl (cy 3, 40, .inr (.inr (.inr (.inr uk.2.1)))))] ++ va_pl uk.2.2 (tfF (fun _ _ => 0)))) ++ ([(q89, .inr (2, [.ref (uz 0), .ref (uz 1), .ref (uz 2), .ref (uz 3), .int 0])), (uz 0, .inl (cy 1, 6, .inl (fun _ => 0))), (uz 1, .inl (cy 1, 6, .inl (fun _ => 0))), (uz 2, .inl (cy 1, 6, .inl (fun _ => 0))), (uz 3, .inl (cy 2, 5, .inr (.inl (fun _ => 0))))]))) := hD
  refine va_putF (D := D) (ci := 6) (v := .ref q89) (ty := .object "TariffDesk$Seen") (C := RX6) (T := TX6) (N := 11) hx hb hT inlX6 tyX6 tyX6_ok nmX6 hown hK hP hD hS 0 rfl rfl 7 (by decide) (hT _ (tr_2 _ (List.mem_of_getElem? (i := 13) rfl))) (fun _ h9 => h9) rfl hin rfl (by decide +kernel) rfl rfl (Nat.le_of_ble_eq_true rfl) dX6_init_97 (fun H locs hP hD hS => ?_)
  have hP : va_P D vwCl ((h0, .inr (6, [.ref q4, .ref q15, .ref q28, .ref q43, .ref q54, .ref q65, .ref q76, .ref q89, .int 0, .int 0, .int 0])) :: (((((((([(q4, .inr (1, [.ref (up 0), .int 0])), (up 0, .inl (cy 1, 50, .inl (fun _ => 0)))]) ++ ([(q15, .inr (4, [.ref ut.1, .int 0])), (ut.1, .inl (cy 3, 70, .inr (.inr (.inr (.inr ut.2.1)))))] ++ va_pl ut.2.2 (tfF (fun _ _ => 0)))) ++ ([(q28, .inr (5, [.ref q15, .ref (ur.1 0), .ref (ur.1 1), .ref (ur.1 2), .ref (ur.1 3), .int 0, .ref (ur.1 4)])), (ur.1 0, .inl (cy 1, 128, .inl ur.2.1)), (ur.1 1, .inl (cy 1, 2100, .inl (fun _ => 0))), (ur.1 2, .inl (cy 1, 2100, .inl (fun _ => 0))), (ur.1 3, .inl (cy 1, 70, .inl (fun _ => 0))), (ur.1 4, .inl (cy 1, 64, .inl ur.2.2))])) ++ ([(q43, .inr (2, [.ref (us 0), .ref (us 1), .ref (us 2), .ref (us 3), .int 0])), (us 0, .inl (cy 1, 6, .inl (fun _ => 0))), (us 1, .inl (cy 1, 6, .inl (fun _ => 0))), (us 2, .inl (cy 1, 6, .inl (fun _ => 0))), (us 3, .inl (cy 2, 5, .inr (.inl (fun _ => 0))))])) ++ ([(q54, .inr (0, [.int 0]))])) ++ ([(q65, .inr (3, [.int 0, .int 0, .int 0, .int 0, .int 0]))])) ++ ([(q76, .inr (4, [.ref uk.1, .int 0])), (uk.1, .inl (cy 3, 40, .inr (.inr (.inr (.inr uk.2.1)))))] ++ va_pl uk.2.2 (tfF (fun _ _ => 0)))) ++ ([(q89, .inr (2, [.ref (uz 0), .ref (uz 1), .ref (uz 2), .ref (uz 3), .int 0])), (uz 0, .inl (cy 1, 6, .inl (fun _ => 0))), (uz 1, .inl (cy 1, 6, .inl (fun _ => 0))), (uz 2, .inl (cy 1, 6, .inl (fun _ => 0))), (uz 3, .inl (cy 2, 5, .inr (.inl (fun _ => 0))))]))) H := hP
  have hD : va_D A ((h0, .inr (6, [.ref q4, .ref q15, .ref q28, .ref q43, .ref q54, .ref q65, .ref q76, .ref q89, .int 0, .int 0, .int 0])) :: (((((((([(q4, .inr (1, [.ref (up 0), .int 0])), (up 0, .inl (cy 1, 50, .inl (fun _ => 0)))]) ++ ([(q15, .inr (4, [.ref ut.1, .int 0])), (ut.1, .inl (cy 3, 70, .inr (.inr (.inr (.inr ut.2.1)))))] ++ va_pl ut.2.2 (tfF (fun _ _ => 0)))) ++ ([(q28, .inr (5, [.ref q15, .ref (ur.1 0), .ref (ur.1 1), .ref (ur.1 2), .ref (ur.1 3), .int 0, .ref (ur.1 4)])), (ur.1 0, .inl (cy 1, 128, .inl ur.2.1)), (ur.1 1, .inl (cy 1, 2100, .inl (fun _ => 0))), (ur.1 2, .inl (cy 1, 2100, .inl (fun _ => 0))), (ur.1 3, .inl (cy 1, 70, .inl (fun _ => 0))), (ur.1 4, .inl (cy 1, 64, .inl ur.2.2))])) ++ ([(q43, .inr (2, [.ref (us 0), .ref (us 1), .ref (us 2), .ref (us 3), .int 0])), (us 0, .inl (cy 1, 6, .inl (fun _ => 0))), (us 1, .inl (cy 1, 6, .inl (fun _ => 0))), (us 2, .inl (cy 1, 6, .inl (fun _ => 0))), (us 3, .inl (cy 2, 5, .inr (.inl (fun _ => 0))))])) ++ ([(q54, .inr (0, [.int 0]))])) ++ ([(q65, .inr (3, [.int 0, .int 0, .int 0, .int 0, .int 0]))])) ++ ([(q76, .inr (4, [.ref uk.1, .int 0])), (uk.1, .inl (cy 3, 40, .inr (.inr (.inr (.inr uk.2.1)))))] ++ va_pl uk.2.2 (tfF (fun _ _ => 0)))) ++ ([(q89, .inr (2, [.ref (uz 0), .ref (uz 1), .ref (uz 2), .ref (uz 3), .int 0])), (uz 0, .inl (cy 1, 6, .inl (fun _ => 0))), (uz 1, .inl (cy 1, 6, .inl (fun _ => 0))), (uz 2, .inl (cy 1, 6, .inl (fun _ => 0))), (uz 3, .inl (cy 2, 5, .inr (.inl (fun _ => 0))))]))) := hD
  have eW : ((h0, .inr (6, [.ref q4, .ref q15, .ref q28, .ref q43, .ref q54, .ref q65, .ref q76, .ref q89, .int 0, .int 0, .int 0])) :: (((((((([(q4, .inr (1, [.ref (up 0), .int 0])), (up 0, .inl (cy 1, 50, .inl (fun _ => 0)))]) ++ ([(q15, .inr (4, [.ref ut.1, .int 0])), (ut.1, .inl (cy 3, 70, .inr (.inr (.inr (.inr ut.2.1)))))] ++ va_pl ut.2.2 (tfF (fun _ _ => 0)))) ++ ([(q28, .inr (5, [.ref q15, .ref (ur.1 0), .ref (ur.1 1), .ref (ur.1 2), .ref (ur.1 3), .int 0, .ref (ur.1 4)])), (ur.1 0, .inl (cy 1, 128, .inl ur.2.1)), (ur.1 1, .inl (cy 1, 2100, .inl (fun _ => 0))), (ur.1 2, .inl (cy 1, 2100, .inl (fun _ => 0))), (ur.1 3, .inl (cy 1, 70, .inl (fun _ => 0))), (ur.1 4, .inl (cy 1, 64, .inl ur.2.2))])) ++ ([(q43, .inr (2, [.ref (us 0), .ref (us 1), .ref (us 2), .ref (us 3), .int 0])), (us 0, .inl (cy 1, 6, .inl (fun _ => 0))), (us 1, .inl (cy 1, 6, .inl (fun _ => 0))), (us 2, .inl (cy 1, 6, .inl (fun _ => 0))), (us 3, .inl (cy 2, 5, .inr (.inl (fun _ => 0))))])) ++ ([(q54, .inr (0, [.int 0]))])) ++ ([(q65, .inr (3, [.int 0, .int 0, .int 0, .int 0, .int 0]))])) ++ ([(q76, .inr (4, [.ref uk.1, .int 0])), (uk.1, .inl (cy 3, 40, .inr (.inr (.inr (.inr uk.2.1)))))] ++ va_pl uk.2.2 (tfF (fun _ _ => 0)))) ++ ([(q89, .inr (2, [.ref (uz 0), .ref (uz 1), .ref (uz 2), .ref (uz 3), .int 0])), (uz 0, .inl (cy 1, 6, .inl (fun _ => 0))), (uz 1, .inl (cy 1, 6, .inl (fun _ => 0))), (uz 2, .inl (cy 1, 6, .inl (fun _ => 0))), (uz 3, .inl (cy 2, 5, .inr (.inl (fun _ => 0))))])) : va_W) = [(h0, .inr (6, [.ref q4, .ref q15, .ref q28, .ref q43, .ref q54, .ref q65, .ref q76, .ref q89, .int 0, .int 0, .int 0])), (q4, .inr (1, [.ref (up 0), .int 0])), (up 0, .inl (cy 1, 50, .inl (fun _ => 0))), (q15, .inr (4, [.ref ut.1, .int 0])), (ut.1, .inl (cy 3, 70, .inr (.inr (.inr (.inr ut.2.1)))))] ++ (va_pl ut.2.2 (tfF (fun _ _ => 0)) ++ ([(q28, .inr (5, [.ref q15, .ref (ur.1 0), .ref (ur.1 1), .ref (ur.1 2), .ref (ur.1 3), .int 0, .ref (ur.1 4)])), (ur.1 0, .inl (cy 1, 128, .inl ur.2.1)), (ur.1 1, .inl (cy 1, 2100, .inl (fun _ => 0))), (ur.1 2, .inl (cy 1, 2100, .inl (fun _ => 0))), (ur.1 3, .inl (cy 1, 70, .inl (fun _ => 0))), (ur.1 4, .inl (cy 1, 64, .inl ur.2.2)), (q43, .inr (2, [.ref (us 0), .ref (us 1), .ref (us 2), .ref (us 3), .int 0])), (us 0, .inl (cy 1, 6, .inl (fun _ => 0))), (us 1, .inl (cy 1, 6, .inl (fun _ => 0))), (us 2, .inl (cy 1, 6, .inl (fun _ => 0))), (us 3, .inl (cy 2, 5, .inr (.inl (fun _ => 0)))), (q54, .inr (0, [.int 0]))] ++ ([(q65, .inr (3, [.int 0, .int 0, .int 0, .int 0, .int 0]))] ++ ([(q76, .inr (4, [.ref uk.1, .int 0])), (uk.1, .inl (cy 3, 40, .inr (.inr (.inr (.inr uk.2.1)))))] ++ (va_pl uk.2.2 (tfF (fun _ _ => 0)) ++ [(q89, .inr (2, [.ref (uz 0), .ref (uz 1), .ref (uz 2), .ref (uz 3), .int 0])), (uz 0, .inl (cy 1, 6, .inl (fun _ => 0))), (uz 1, .inl (cy 1, 6, .inl (fun _ => 0))), (uz 2, .inl (cy 1, 6, .inl (fun _ => 0))), (uz 3, .inl (cy 2, 5, .inr (.inl (fun _ => 0))))]))))) := by simp only [List.append_assoc, List.cons_append, List.nil_append]
  rw [eW] at hP hD
  have pm := mvP ([(h0, .inr (6, [.ref q4, .ref q15, .ref q28, .ref q43, .ref q54, .ref q65, .ref q76, .ref q89, .int 0, .int 0, .int 0])), (q4, .inr (1, [.ref (up 0), .int 0])), (up 0, .inl (cy 1, 50, .inl (fun _ => 0))), (q15, .inr (4, [.ref ut.1, .int 0])), (ut.1, .inl (cy 3, 70, .inr (.inr (.inr (.inr ut.2.1)))))]) ([(q28, .inr (5, [.ref q15, .ref (ur.1 0), .ref (ur.1 1), .ref (ur.1 2), .ref (ur.1 3), .int 0, .ref (ur.1 4)])), (ur.1 0, .inl (cy 1, 128, .inl ur.2.1)), (ur.1 1, .inl (cy 1, 2100, .inl (fun _ => 0))), (ur.1 2, .inl (cy 1, 2100, .inl (fun _ => 0))), (ur.1 3, .inl (cy 1, 70, .inl (fun _ => 0))), (ur.1 4, .inl (cy 1, 64, .inl ur.2.2)), (q43, .inr (2, [.ref (us 0), .ref (us 1), .ref (us 2), .ref (us 3), .int 0])), (us 0, .inl (cy 1, 6, .inl (fun _ => 0))), (us 1, .inl (cy 1, 6, .inl (fun _ => 0))), (us 2, .inl (cy 1, 6, .inl (fun _ => 0))), (us 3, .inl (cy 2, 5, .inr (.inl (fun _ => 0)))), (q54, .inr (0, [.int 0]))]) ([(q65, .inr (3, [.int 0, .int 0, .int 0, .int 0, .int 0]))]) ([(q76, .inr (4, [.ref uk.1, .int 0])), (uk.1, .inl (cy 3, 40, .inr (.inr (.inr (.inr uk.2.1)))))]) ([(q89, .inr (2, [.ref (uz 0), .ref (uz 1), .ref (uz 2), .ref (uz 3), .int 0])), (uz 0, .inl (cy 1, 6, .inl (fun _ => 0))), (uz 1, .inl (cy 1, 6, .inl (fun _ => 0))), (uz 2, .inl (cy 1, 6, .inl (fun _ => 0))), (uz 3, .inl (cy 2, 5, .inr (.inl (fun _ => 0))))]) (va_pl ut.2.2 (tfF (fun _ _ => 0))) (va_pl uk.2.2 (tfF (fun _ _ => 0)))
  have hP := pm_P pm hP
  have hD := pm_D pm hD
  have eP : va_pl ([q65] ++ (ut.2.2 ++ uk.2.2)) (tfF (fun _ _ => 0)) = [(q65, .inr (3, [.int 0, .int 0, .int 0, .int 0, .int 0]))] ++ (va_pl ut.2.2 (tfF (fun _ _ => 0)) ++ va_pl uk.2.2 (tfF (fun _ _ => 0))) := by simp only [va_pl, List.map_append]; rfl
  have hP9 : va_P D vwCl (xw (D, cy, (fun i => ([h0, q4, up 0, q15, ut.1, q28, ur.1 0, ur.1 1, ur.1 2, ur.1 3, ur.1 4, q43, us 0, us 1, us 2, us 3, q54, q76, uk.1, q89, uz 0, uz 1, uz 2, uz 3, q65] : List Nat).getD i 0), (fun i => if i = 4 then ut.2.1 else if i = 18 then uk.2.1 else fun _ => none), ([q65] ++ (ut.2.2 ++ uk.2.2)), (fun _ => True), 0, 0) (fun i => if i = 6 then ur.2.1 else if i = 10 then ur.2.2 else fun _ => 0) (fun _ _ => 0) (fun _ _ => 0)) H := by show va_P D vwCl (xw0 (D, cy, (fun i => ([h0, q4, up 0, q15, ut.1, q28, ur.1 0, ur.1 1, ur.1 2, ur.1 3, ur.1 4, q43, us 0, us 1, us 2, us 3, q54, q76, uk.1, q89, uz 0, uz 1, uz 2, uz 3, q65] : List Nat).getD i 0), (fun i => if i = 4 then ut.2.1 else if i = 18 then uk.2.1 else fun _ => none), ([q65] ++ (ut.2.2 ++ uk.2.2)), (fun _ => True), 0, 0) (fun i => if i = 6 then ur.2.1 else if i = 10 then ur.2.2 else fun _ => 0) (fun _ _ => 0) ++ va_pl ([q65] ++ (ut.2.2 ++ uk.2.2)) (tfF (fun _ _ => 0))) H; rw [eP]; exact hP
  have hD9 : va_D A (xw (D, cy, (fun i => ([h0, q4, up 0, q15, ut.1, q28, ur.1 0, ur.1 1, ur.1 2, ur.1 3, ur.1 4, q43, us 0, us 1, us 2, us 3, q54, q76, uk.1, q89, uz 0, uz 1, uz 2, uz 3, q65] : List Nat).getD i 0), (fun i => if i = 4 then ut.2.1 else if i = 18 then uk.2.1 else fun _ => none), ([q65] ++ (ut.2.2 ++ uk.2.2)), (fun _ => True), 0, 0) (fun i => if i = 6 then ur.2.1 else if i = 10 then ur.2.2 else fun _ => 0) (fun _ _ => 0) (fun _ _ => 0)) := by show va_D A (xw0 (D, cy, (fun i => ([h0, q4, up 0, q15, ut.1, q28, ur.1 0, ur.1 1, ur.1 2, ur.1 3, ur.1 4, q43, us 0, us 1, us 2, us 3, q54, q76, uk.1, q89, uz 0, uz 1, uz 2, uz 3, q65] : List Nat).getD i 0), (fun i => if i = 4 then ut.2.1 else if i = 18 then uk.2.1 else fun _ => none), ([q65] ++ (ut.2.2 ++ uk.2.2)), (fun _ => True), 0, 0) (fun i => if i = 6 then ur.2.1 else if i = 10 then ur.2.2 else fun _ => 0) (fun _ _ => 0) ++ va_pl ([q65] ++ (ut.2.2 ++ uk.2.2)) (tfF (fun _ _ => 0))); rw [eP]; exact hD
  refine W.widen (k := 134) (n := 5247) (Nat.le_of_ble_eq_true rfl) (Nat.le_of_ble_eq_true rfl) ?_
  have pr4 : ∀ j, j < 70 → ∃ a, a ∈ ([q65] ++ (ut.2.2 ++ uk.2.2)) ∧ ut.2.1 j = some a := fun j hj => by obtain ⟨a, h1, h2⟩ := hw15 j hj; exact ⟨a, List.mem_append_right _ (List.mem_append_left _ h1), h2⟩
  have pr18 : ∀ j, j < 40 → ∃ a, a ∈ ([q65] ++ (ut.2.2 ++ uk.2.2)) ∧ uk.2.1 j = some a := fun j hj => by obtain ⟨a, h1, h2⟩ := hw76 j hj; exact ⟨a, List.mem_append_right _ (List.mem_append_right _ h1), h2⟩
  exact W.vret hx hb hr (fun t ht hW => ⟨⟨((fun i => ([h0, q4, up 0, q15, ut.1, q28, ur.1 0, ur.1 1, ur.1 2, ur.1 3, ur.1 4, q43, us 0, us 1, us 2, us 3, q54, q76, uk.1, q89, uz 0, uz 1, uz 2, uz 3, q65] : List Nat).getD i 0), (fun i => if i = 4 then ut.2.1 else if i = 18 then uk.2.1 else fun _ => none), ([q65] ++ (ut.2.2 ++ uk.2.2)), (fun i => if i = 6 then ur.2.1 else if i = 10 then ur.2.2 else fun _ => 0)), rfl, ⟨rfl, pr4, pr18, List.mem_append_left _ List.mem_cons_self, rfl, fun _ => rfl⟩, by show va_P D vwCl _ t.heap; rw [ht]; exact hP9, hD9⟩, hS.F ht⟩) hS.2.2 dX6_init_100
end
