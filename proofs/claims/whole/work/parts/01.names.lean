-- ===== PART A: goes FIRST, ahead of the names: the tables' words, and 'selects' of the private methods out of them =====
/-- a private method of a class that the tables say can be made, by its rows of tables_1 -/
def lw_okq (q : MethodName × Nat) : Prop := (q.1.cls ≠ "java/lang/invoke/MethodHandle" ∧ q.1.cls ≠ "java/lang/invoke/VarHandle") ∧ Cond.instantiable q.1.cls q.2 ∈ tables_1 ∧ Cond.privateMethod q.1 ∈ tables_1 ∧ Cond.instanceMethod q.1 ∈ tables_1
theorem lw_p0 : lw_okq (⟨"RockingRiders", "sheetAt", "(I)LRockingRiders$Sheet;"⟩, 8) := ⟨⟨by decide +kernel, by decide +kernel⟩, List.mem_of_getElem? (i := 14) (by decide +kernel), List.mem_of_getElem? (i := 204) (by decide +kernel), List.mem_of_getElem? (i := 205) (by decide +kernel)⟩
theorem lw_p1 : lw_okq (⟨"RockingRiders", "faulted", "(I)I"⟩, 8) := ⟨⟨by decide +kernel, by decide +kernel⟩, List.mem_of_getElem? (i := 14) (by decide +kernel), List.mem_of_getElem? (i := 222) (by decide +kernel), List.mem_of_getElem? (i := 223) (by decide +kernel)⟩
theorem lw_p2 : lw_okq (⟨"RockingRiders$Text", "takes", "(I)Z"⟩, 4) := ⟨⟨by decide +kernel, by decide +kernel⟩, List.mem_of_getElem? (i := 226) (by decide +kernel), List.mem_of_getElem? (i := 250) (by decide +kernel), List.mem_of_getElem? (i := 251) (by decide +kernel)⟩
theorem lw_p3 : lw_okq (⟨"RockingRiders$Text", "next", "()I"⟩, 4) := ⟨⟨by decide +kernel, by decide +kernel⟩, List.mem_of_getElem? (i := 226) (by decide +kernel), List.mem_of_getElem? (i := 254) (by decide +kernel), List.mem_of_getElem? (i := 255) (by decide +kernel)⟩
theorem lw_p4 : lw_okq (⟨"RockingRiders$Text", "takesDigit", "(I)I"⟩, 4) := ⟨⟨by decide +kernel, by decide +kernel⟩, List.mem_of_getElem? (i := 226) (by decide +kernel), List.mem_of_getElem? (i := 266) (by decide +kernel), List.mem_of_getElem? (i := 267) (by decide +kernel)⟩
theorem lw_p5 : lw_okq (⟨"RockingRiders$Text", "fillsLand", "(LRockingRiders$Nursery;)Z"⟩, 4) := ⟨⟨by decide +kernel, by decide +kernel⟩, List.mem_of_getElem? (i := 226) (by decide +kernel), List.mem_of_getElem? (i := 274) (by decide +kernel), List.mem_of_getElem? (i := 275) (by decide +kernel)⟩
theorem lw_p6 : lw_okq (⟨"RockingRiders$Text", "fillsRider", "(LRockingRiders$Nursery;)Z"⟩, 4) := ⟨⟨by decide +kernel, by decide +kernel⟩, List.mem_of_getElem? (i := 226) (by decide +kernel), List.mem_of_getElem? (i := 282) (by decide +kernel), List.mem_of_getElem? (i := 283) (by decide +kernel)⟩
theorem lw_p7 : lw_okq (⟨"RockingRiders$Text", "takesKind", "()I"⟩, 4) := ⟨⟨by decide +kernel, by decide +kernel⟩, List.mem_of_getElem? (i := 226) (by decide +kernel), List.mem_of_getElem? (i := 286) (by decide +kernel), List.mem_of_getElem? (i := 287) (by decide +kernel)⟩
theorem lw_p8 : lw_okq (⟨"RockingRiders", "refusalOfPairs", "(LRockingRiders$Sheet;II)I"⟩, 8) := ⟨⟨by decide +kernel, by decide +kernel⟩, List.mem_of_getElem? (i := 14) (by decide +kernel), List.mem_of_getElem? (i := 412) (by decide +kernel), List.mem_of_getElem? (i := 413) (by decide +kernel)⟩
theorem lw_p9 : lw_okq (⟨"RockingRiders", "refusalOfPair", "(II)I"⟩, 8) := ⟨⟨by decide +kernel, by decide +kernel⟩, List.mem_of_getElem? (i := 14) (by decide +kernel), List.mem_of_getElem? (i := 417) (by decide +kernel), List.mem_of_getElem? (i := 418) (by decide +kernel)⟩
theorem lw_p10 : lw_okq (⟨"RockingRiders$Tale", "acts", "(II)Z"⟩, 3) := ⟨⟨by decide +kernel, by decide +kernel⟩, List.mem_of_getElem? (i := 92) (by decide +kernel), List.mem_of_getElem? (i := 427) (by decide +kernel), List.mem_of_getElem? (i := 428) (by decide +kernel)⟩
theorem lw_p11 : lw_okq (⟨"RockingRiders$Tale", "passMinutes", "(I)V"⟩, 3) := ⟨⟨by decide +kernel, by decide +kernel⟩, List.mem_of_getElem? (i := 92) (by decide +kernel), List.mem_of_getElem? (i := 431) (by decide +kernel), List.mem_of_getElem? (i := 432) (by decide +kernel)⟩
theorem lw_p12 : lw_okq (⟨"RockingRiders", "answerOfTale", "(II)I"⟩, 8) := ⟨⟨by decide +kernel, by decide +kernel⟩, List.mem_of_getElem? (i := 14) (by decide +kernel), List.mem_of_getElem? (i := 443) (by decide +kernel), List.mem_of_getElem? (i := 444) (by decide +kernel)⟩
theorem lw_p13 : lw_okq (⟨"RockingRiders", "milesTold", "(I)I"⟩, 8) := ⟨⟨by decide +kernel, by decide +kernel⟩, List.mem_of_getElem? (i := 14) (by decide +kernel), List.mem_of_getElem? (i := 452) (by decide +kernel), List.mem_of_getElem? (i := 453) (by decide +kernel)⟩
theorem lw_p14 : lw_okq (⟨"RockingRiders$Nursery", "milesBehind", "(LRockingRiders$Rider;I)I"⟩, 6) := ⟨⟨by decide +kernel, by decide +kernel⟩, List.mem_of_getElem? (i := 22) (by decide +kernel), List.mem_of_getElem? (i := 464) (by decide +kernel), List.mem_of_getElem? (i := 465) (by decide +kernel)⟩
theorem lw_p15 : lw_okq (⟨"RockingRiders$Nursery", "landsReachedBy", "(LRockingRiders$Rider;)I"⟩, 6) := ⟨⟨by decide +kernel, by decide +kernel⟩, List.mem_of_getElem? (i := 22) (by decide +kernel), List.mem_of_getElem? (i := 498) (by decide +kernel), List.mem_of_getElem? (i := 499) (by decide +kernel)⟩
def lw_privs_1 : List (MethodName × Nat) := [(⟨"RockingRiders", "sheetAt", "(I)LRockingRiders$Sheet;"⟩, 8), (⟨"RockingRiders", "faulted", "(I)I"⟩, 8), (⟨"RockingRiders$Text", "takes", "(I)Z"⟩, 4), (⟨"RockingRiders$Text", "next", "()I"⟩, 4), (⟨"RockingRiders$Text", "takesDigit", "(I)I"⟩, 4), (⟨"RockingRiders$Text", "fillsLand", "(LRockingRiders$Nursery;)Z"⟩, 4), (⟨"RockingRiders$Text", "fillsRider", "(LRockingRiders$Nursery;)Z"⟩, 4), (⟨"RockingRiders$Text", "takesKind", "()I"⟩, 4), (⟨"RockingRiders", "refusalOfPairs", "(LRockingRiders$Sheet;II)I"⟩, 8), (⟨"RockingRiders", "refusalOfPair", "(II)I"⟩, 8), (⟨"RockingRiders$Tale", "acts", "(II)Z"⟩, 3), (⟨"RockingRiders$Tale", "passMinutes", "(I)V"⟩, 3), (⟨"RockingRiders", "answerOfTale", "(II)I"⟩, 8), (⟨"RockingRiders", "milesTold", "(I)I"⟩, 8), (⟨"RockingRiders$Nursery", "milesBehind", "(LRockingRiders$Rider;I)I"⟩, 6), (⟨"RockingRiders$Nursery", "landsReachedBy", "(LRockingRiders$Rider;)I"⟩, 6)]
theorem lw_r1 : ∀ q ∈ lw_privs_1, lw_okq q := List.forall_mem_cons.mpr ⟨lw_p0, List.forall_mem_cons.mpr ⟨lw_p1, List.forall_mem_cons.mpr ⟨lw_p2, List.forall_mem_cons.mpr ⟨lw_p3, List.forall_mem_cons.mpr ⟨lw_p4, List.forall_mem_cons.mpr ⟨lw_p5, List.forall_mem_cons.mpr ⟨lw_p6, List.forall_mem_cons.mpr ⟨lw_p7, List.forall_mem_cons.mpr ⟨lw_p8, List.forall_mem_cons.mpr ⟨lw_p9, List.forall_mem_cons.mpr ⟨lw_p10, List.forall_mem_cons.mpr ⟨lw_p11, List.forall_mem_cons.mpr ⟨lw_p12, List.forall_mem_cons.mpr ⟨lw_p13, List.forall_mem_cons.mpr ⟨lw_p14, List.forall_mem_cons.mpr ⟨lw_p15, fun _ h => absurd h List.not_mem_nil⟩⟩⟩⟩⟩⟩⟩⟩⟩⟩⟩⟩⟩⟩⟩⟩
theorem lw_p16 : lw_okq (⟨"RockingRiders$Guiding", "readComings", "(LRockingRiders$Nursery;)V"⟩, 5) := ⟨⟨by decide +kernel, by decide +kernel⟩, List.mem_of_getElem? (i := 133) (by decide +kernel), List.mem_of_getElem? (i := 510) (by decide +kernel), List.mem_of_getElem? (i := 511) (by decide +kernel)⟩
theorem lw_p17 : lw_okq (⟨"RockingRiders$Guiding", "choice", "(II)I"⟩, 5) := ⟨⟨by decide +kernel, by decide +kernel⟩, List.mem_of_getElem? (i := 133) (by decide +kernel), List.mem_of_getElem? (i := 517) (by decide +kernel), List.mem_of_getElem? (i := 518) (by decide +kernel)⟩
theorem lw_p18 : lw_okq (⟨"RockingRiders$Guiding", "worthOf", "(III)I"⟩, 5) := ⟨⟨by decide +kernel, by decide +kernel⟩, List.mem_of_getElem? (i := 133) (by decide +kernel), List.mem_of_getElem? (i := 521) (by decide +kernel), List.mem_of_getElem? (i := 522) (by decide +kernel)⟩
theorem lw_p19 : lw_okq (⟨"RockingRiders$Guiding", "bestFrom", "(II)I"⟩, 5) := ⟨⟨by decide +kernel, by decide +kernel⟩, List.mem_of_getElem? (i := 133) (by decide +kernel), List.mem_of_getElem? (i := 525) (by decide +kernel), List.mem_of_getElem? (i := 526) (by decide +kernel)⟩
theorem lw_p20 : lw_okq (⟨"RockingRiders$Guiding", "comingOf", "(II)I"⟩, 5) := ⟨⟨by decide +kernel, by decide +kernel⟩, List.mem_of_getElem? (i := 133) (by decide +kernel), List.mem_of_getElem? (i := 529) (by decide +kernel), List.mem_of_getElem? (i := 530) (by decide +kernel)⟩
theorem lw_p21 : lw_okq (⟨"RockingRiders$Guiding", "setBest", "(III)V"⟩, 5) := ⟨⟨by decide +kernel, by decide +kernel⟩, List.mem_of_getElem? (i := 133) (by decide +kernel), List.mem_of_getElem? (i := 533) (by decide +kernel), List.mem_of_getElem? (i := 534) (by decide +kernel)⟩
theorem lw_p22 : lw_okq (⟨"RockingRiders$Guiding", "gives", "()V"⟩, 5) := ⟨⟨by decide +kernel, by decide +kernel⟩, List.mem_of_getElem? (i := 133) (by decide +kernel), List.mem_of_getElem? (i := 537) (by decide +kernel), List.mem_of_getElem? (i := 538) (by decide +kernel)⟩
theorem lw_p23 : lw_okq (⟨"RockingRiders$Readings", "has", "(I)Z"⟩, 4) := ⟨⟨by decide +kernel, by decide +kernel⟩, List.mem_of_getElem? (i := 113) (by decide +kernel), List.mem_of_getElem? (i := 553) (by decide +kernel), List.mem_of_getElem? (i := 554) (by decide +kernel)⟩
theorem lw_p24 : lw_okq (⟨"RockingRiders$Sheet", "cutToLane", "(I)I"⟩, 3) := ⟨⟨by decide +kernel, by decide +kernel⟩, List.mem_of_getElem? (i := 158) (by decide +kernel), List.mem_of_getElem? (i := 625) (by decide +kernel), List.mem_of_getElem? (i := 626) (by decide +kernel)⟩
theorem lw_p25 : lw_okq (⟨"RockingRiders", "uncleTells", "(LRockingRiders$Rider;)I"⟩, 8) := ⟨⟨by decide +kernel, by decide +kernel⟩, List.mem_of_getElem? (i := 14) (by decide +kernel), List.mem_of_getElem? (i := 649) (by decide +kernel), List.mem_of_getElem? (i := 650) (by decide +kernel)⟩
theorem lw_p26 : lw_okq (⟨"RockingRiders", "leaveInTrace", "(I)V"⟩, 8) := ⟨⟨by decide +kernel, by decide +kernel⟩, List.mem_of_getElem? (i := 14) (by decide +kernel), List.mem_of_getElem? (i := 653) (by decide +kernel), List.mem_of_getElem? (i := 654) (by decide +kernel)⟩
theorem lw_p27 : lw_okq (⟨"RockingRiders", "maidTells", "(LRockingRiders$Rider;)I"⟩, 8) := ⟨⟨by decide +kernel, by decide +kernel⟩, List.mem_of_getElem? (i := 14) (by decide +kernel), List.mem_of_getElem? (i := 657) (by decide +kernel), List.mem_of_getElem? (i := 658) (by decide +kernel)⟩
theorem lw_p28 : lw_okq (⟨"RockingRiders", "childTells", "(LRockingRiders$Rider;)I"⟩, 8) := ⟨⟨by decide +kernel, by decide +kernel⟩, List.mem_of_getElem? (i := 14) (by decide +kernel), List.mem_of_getElem? (i := 661) (by decide +kernel), List.mem_of_getElem? (i := 662) (by decide +kernel)⟩
theorem lw_p29 : lw_okq (⟨"RockingRiders", "uncleIsCalled", "()I"⟩, 8) := ⟨⟨by decide +kernel, by decide +kernel⟩, List.mem_of_getElem? (i := 14) (by decide +kernel), List.mem_of_getElem? (i := 669) (by decide +kernel), List.mem_of_getElem? (i := 670) (by decide +kernel)⟩
theorem lw_p30 : lw_okq (⟨"RockingRiders", "isCalledByLentBody", "(I)I"⟩, 8) := ⟨⟨by decide +kernel, by decide +kernel⟩, List.mem_of_getElem? (i := 14) (by decide +kernel), List.mem_of_getElem? (i := 673) (by decide +kernel), List.mem_of_getElem? (i := 674) (by decide +kernel)⟩
theorem lw_p31 : lw_okq (⟨"RockingRidersModel", "refused", "(I)I"⟩, 39) := ⟨⟨by decide +kernel, by decide +kernel⟩, List.mem_of_getElem? (i := 693) (by decide +kernel), List.mem_of_getElem? (i := 828) (by decide +kernel), List.mem_of_getElem? (i := 829) (by decide +kernel)⟩
def lw_privs_2 : List (MethodName × Nat) := [(⟨"RockingRiders$Guiding", "readComings", "(LRockingRiders$Nursery;)V"⟩, 5), (⟨"RockingRiders$Guiding", "choice", "(II)I"⟩, 5), (⟨"RockingRiders$Guiding", "worthOf", "(III)I"⟩, 5), (⟨"RockingRiders$Guiding", "bestFrom", "(II)I"⟩, 5), (⟨"RockingRiders$Guiding", "comingOf", "(II)I"⟩, 5), (⟨"RockingRiders$Guiding", "setBest", "(III)V"⟩, 5), (⟨"RockingRiders$Guiding", "gives", "()V"⟩, 5), (⟨"RockingRiders$Readings", "has", "(I)Z"⟩, 4), (⟨"RockingRiders$Sheet", "cutToLane", "(I)I"⟩, 3), (⟨"RockingRiders", "uncleTells", "(LRockingRiders$Rider;)I"⟩, 8), (⟨"RockingRiders", "leaveInTrace", "(I)V"⟩, 8), (⟨"RockingRiders", "maidTells", "(LRockingRiders$Rider;)I"⟩, 8), (⟨"RockingRiders", "childTells", "(LRockingRiders$Rider;)I"⟩, 8), (⟨"RockingRiders", "uncleIsCalled", "()I"⟩, 8), (⟨"RockingRiders", "isCalledByLentBody", "(I)I"⟩, 8), (⟨"RockingRidersModel", "refused", "(I)I"⟩, 39)]
theorem lw_r2 : ∀ q ∈ lw_privs_2, lw_okq q := List.forall_mem_cons.mpr ⟨lw_p16, List.forall_mem_cons.mpr ⟨lw_p17, List.forall_mem_cons.mpr ⟨lw_p18, List.forall_mem_cons.mpr ⟨lw_p19, List.forall_mem_cons.mpr ⟨lw_p20, List.forall_mem_cons.mpr ⟨lw_p21, List.forall_mem_cons.mpr ⟨lw_p22, List.forall_mem_cons.mpr ⟨lw_p23, List.forall_mem_cons.mpr ⟨lw_p24, List.forall_mem_cons.mpr ⟨lw_p25, List.forall_mem_cons.mpr ⟨lw_p26, List.forall_mem_cons.mpr ⟨lw_p27, List.forall_mem_cons.mpr ⟨lw_p28, List.forall_mem_cons.mpr ⟨lw_p29, List.forall_mem_cons.mpr ⟨lw_p30, List.forall_mem_cons.mpr ⟨lw_p31, fun _ h => absurd h List.not_mem_nil⟩⟩⟩⟩⟩⟩⟩⟩⟩⟩⟩⟩⟩⟩⟩⟩
theorem lw_p32 : lw_okq (⟨"RockingRidersModel", "cellsBarred", "(IIIJ)I"⟩, 39) := ⟨⟨by decide +kernel, by decide +kernel⟩, List.mem_of_getElem? (i := 693) (by decide +kernel), List.mem_of_getElem? (i := 833) (by decide +kernel), List.mem_of_getElem? (i := 834) (by decide +kernel)⟩
theorem lw_p33 : lw_okq (⟨"RockingRidersModel", "failed", "(I)I"⟩, 39) := ⟨⟨by decide +kernel, by decide +kernel⟩, List.mem_of_getElem? (i := 693) (by decide +kernel), List.mem_of_getElem? (i := 837) (by decide +kernel), List.mem_of_getElem? (i := 838) (by decide +kernel)⟩
theorem lw_p34 : lw_okq (⟨"RockingRidersModel", "readsNursery", "(II)Z"⟩, 39) := ⟨⟨by decide +kernel, by decide +kernel⟩, List.mem_of_getElem? (i := 693) (by decide +kernel), List.mem_of_getElem? (i := 844) (by decide +kernel), List.mem_of_getElem? (i := 845) (by decide +kernel)⟩
theorem lw_p35 : lw_okq (⟨"RockingRidersModel", "codeAt", "(II)I"⟩, 39) := ⟨⟨by decide +kernel, by decide +kernel⟩, List.mem_of_getElem? (i := 693) (by decide +kernel), List.mem_of_getElem? (i := 848) (by decide +kernel), List.mem_of_getElem? (i := 849) (by decide +kernel)⟩
theorem lw_p36 : lw_okq (⟨"RockingRidersModel", "figure", "(IIII)I"⟩, 39) := ⟨⟨by decide +kernel, by decide +kernel⟩, List.mem_of_getElem? (i := 693) (by decide +kernel), List.mem_of_getElem? (i := 852) (by decide +kernel), List.mem_of_getElem? (i := 853) (by decide +kernel)⟩
theorem lw_p37 : lw_okq (⟨"RockingRidersModel", "readsLands", "(II)Z"⟩, 39) := ⟨⟨by decide +kernel, by decide +kernel⟩, List.mem_of_getElem? (i := 693) (by decide +kernel), List.mem_of_getElem? (i := 857) (by decide +kernel), List.mem_of_getElem? (i := 858) (by decide +kernel)⟩
theorem lw_p38 : lw_okq (⟨"RockingRidersModel", "readsRider", "(II)Z"⟩, 39) := ⟨⟨by decide +kernel, by decide +kernel⟩, List.mem_of_getElem? (i := 693) (by decide +kernel), List.mem_of_getElem? (i := 861) (by decide +kernel), List.mem_of_getElem? (i := 862) (by decide +kernel)⟩
theorem lw_p39 : lw_okq (⟨"RockingRidersModel", "noRider", "(I)Z"⟩, 39) := ⟨⟨by decide +kernel, by decide +kernel⟩, List.mem_of_getElem? (i := 693) (by decide +kernel), List.mem_of_getElem? (i := 869) (by decide +kernel), List.mem_of_getElem? (i := 870) (by decide +kernel)⟩
theorem lw_p40 : lw_okq (⟨"RockingRidersModel", "paceOf", "(I)I"⟩, 39) := ⟨⟨by decide +kernel, by decide +kernel⟩, List.mem_of_getElem? (i := 693) (by decide +kernel), List.mem_of_getElem? (i := 873) (by decide +kernel), List.mem_of_getElem? (i := 874) (by decide +kernel)⟩
theorem lw_p41 : lw_okq (⟨"RockingRidersModel", "landBy", "(I)I"⟩, 39) := ⟨⟨by decide +kernel, by decide +kernel⟩, List.mem_of_getElem? (i := 693) (by decide +kernel), List.mem_of_getElem? (i := 877) (by decide +kernel), List.mem_of_getElem? (i := 878) (by decide +kernel)⟩
theorem lw_p42 : lw_okq (⟨"RockingRidersModel", "noLand", "(I)Z"⟩, 39) := ⟨⟨by decide +kernel, by decide +kernel⟩, List.mem_of_getElem? (i := 693) (by decide +kernel), List.mem_of_getElem? (i := 885) (by decide +kernel), List.mem_of_getElem? (i := 886) (by decide +kernel)⟩
theorem lw_p43 : lw_okq (⟨"RockingRidersModel", "passes", "()V"⟩, 39) := ⟨⟨by decide +kernel, by decide +kernel⟩, List.mem_of_getElem? (i := 693) (by decide +kernel), List.mem_of_getElem? (i := 902) (by decide +kernel), List.mem_of_getElem? (i := 903) (by decide +kernel)⟩
theorem lw_p44 : lw_okq (⟨"RockingRidersModel", "looked", "(I)V"⟩, 39) := ⟨⟨by decide +kernel, by decide +kernel⟩, List.mem_of_getElem? (i := 693) (by decide +kernel), List.mem_of_getElem? (i := 909) (by decide +kernel), List.mem_of_getElem? (i := 910) (by decide +kernel)⟩
theorem lw_p45 : lw_okq (⟨"RockingRidersModel", "shuts", "(I)Z"⟩, 39) := ⟨⟨by decide +kernel, by decide +kernel⟩, List.mem_of_getElem? (i := 693) (by decide +kernel), List.mem_of_getElem? (i := 917) (by decide +kernel), List.mem_of_getElem? (i := 918) (by decide +kernel)⟩
theorem lw_p46 : lw_okq (⟨"RockingRidersModel", "pairsBarred", "(II)I"⟩, 39) := ⟨⟨by decide +kernel, by decide +kernel⟩, List.mem_of_getElem? (i := 693) (by decide +kernel), List.mem_of_getElem? (i := 936) (by decide +kernel), List.mem_of_getElem? (i := 937) (by decide +kernel)⟩
theorem lw_p47 : lw_okq (⟨"RockingRidersModel", "keepAll", "()V"⟩, 39) := ⟨⟨by decide +kernel, by decide +kernel⟩, List.mem_of_getElem? (i := 693) (by decide +kernel), List.mem_of_getElem? (i := 940) (by decide +kernel), List.mem_of_getElem? (i := 941) (by decide +kernel)⟩
def lw_privs_3 : List (MethodName × Nat) := [(⟨"RockingRidersModel", "cellsBarred", "(IIIJ)I"⟩, 39), (⟨"RockingRidersModel", "failed", "(I)I"⟩, 39), (⟨"RockingRidersModel", "readsNursery", "(II)Z"⟩, 39), (⟨"RockingRidersModel", "codeAt", "(II)I"⟩, 39), (⟨"RockingRidersModel", "figure", "(IIII)I"⟩, 39), (⟨"RockingRidersModel", "readsLands", "(II)Z"⟩, 39), (⟨"RockingRidersModel", "readsRider", "(II)Z"⟩, 39), (⟨"RockingRidersModel", "noRider", "(I)Z"⟩, 39), (⟨"RockingRidersModel", "paceOf", "(I)I"⟩, 39), (⟨"RockingRidersModel", "landBy", "(I)I"⟩, 39), (⟨"RockingRidersModel", "noLand", "(I)Z"⟩, 39), (⟨"RockingRidersModel", "passes", "()V"⟩, 39), (⟨"RockingRidersModel", "looked", "(I)V"⟩, 39), (⟨"RockingRidersModel", "shuts", "(I)Z"⟩, 39), (⟨"RockingRidersModel", "pairsBarred", "(II)I"⟩, 39), (⟨"RockingRidersModel", "keepAll", "()V"⟩, 39)]
theorem lw_r3 : ∀ q ∈ lw_privs_3, lw_okq q := List.forall_mem_cons.mpr ⟨lw_p32, List.forall_mem_cons.mpr ⟨lw_p33, List.forall_mem_cons.mpr ⟨lw_p34, List.forall_mem_cons.mpr ⟨lw_p35, List.forall_mem_cons.mpr ⟨lw_p36, List.forall_mem_cons.mpr ⟨lw_p37, List.forall_mem_cons.mpr ⟨lw_p38, List.forall_mem_cons.mpr ⟨lw_p39, List.forall_mem_cons.mpr ⟨lw_p40, List.forall_mem_cons.mpr ⟨lw_p41, List.forall_mem_cons.mpr ⟨lw_p42, List.forall_mem_cons.mpr ⟨lw_p43, List.forall_mem_cons.mpr ⟨lw_p44, List.forall_mem_cons.mpr ⟨lw_p45, List.forall_mem_cons.mpr ⟨lw_p46, List.forall_mem_cons.mpr ⟨lw_p47, fun _ h => absurd h List.not_mem_nil⟩⟩⟩⟩⟩⟩⟩⟩⟩⟩⟩⟩⟩⟩⟩⟩
theorem lw_p48 : lw_okq (⟨"RockingRidersModel", "afternoonBy", "(III)I"⟩, 39) := ⟨⟨by decide +kernel, by decide +kernel⟩, List.mem_of_getElem? (i := 693) (by decide +kernel), List.mem_of_getElem? (i := 944) (by decide +kernel), List.mem_of_getElem? (i := 945) (by decide +kernel)⟩
theorem lw_p49 : lw_okq (⟨"RockingRidersModel", "did", "(II)Z"⟩, 39) := ⟨⟨by decide +kernel, by decide +kernel⟩, List.mem_of_getElem? (i := 693) (by decide +kernel), List.mem_of_getElem? (i := 948) (by decide +kernel), List.mem_of_getElem? (i := 949) (by decide +kernel)⟩
theorem lw_p50 : lw_okq (⟨"RockingRidersModel", "bringBack", "()V"⟩, 39) := ⟨⟨by decide +kernel, by decide +kernel⟩, List.mem_of_getElem? (i := 693) (by decide +kernel), List.mem_of_getElem? (i := 952) (by decide +kernel), List.mem_of_getElem? (i := 953) (by decide +kernel)⟩
theorem lw_p51 : lw_okq (⟨"RockingRidersModel", "comesTo", "(II)I"⟩, 39) := ⟨⟨by decide +kernel, by decide +kernel⟩, List.mem_of_getElem? (i := 693) (by decide +kernel), List.mem_of_getElem? (i := 960) (by decide +kernel), List.mem_of_getElem? (i := 961) (by decide +kernel)⟩
theorem lw_p52 : lw_okq (⟨"RockingRidersModel", "seenBy", "(I)I"⟩, 39) := ⟨⟨by decide +kernel, by decide +kernel⟩, List.mem_of_getElem? (i := 693) (by decide +kernel), List.mem_of_getElem? (i := 976) (by decide +kernel), List.mem_of_getElem? (i := 977) (by decide +kernel)⟩
theorem lw_p53 : lw_okq (⟨"RockingRidersModel", "rowBy", "(I)V"⟩, 39) := ⟨⟨by decide +kernel, by decide +kernel⟩, List.mem_of_getElem? (i := 693) (by decide +kernel), List.mem_of_getElem? (i := 985) (by decide +kernel), List.mem_of_getElem? (i := 986) (by decide +kernel)⟩
theorem lw_p54 : lw_okq (⟨"RockingRidersModel", "judgesRow", "()V"⟩, 39) := ⟨⟨by decide +kernel, by decide +kernel⟩, List.mem_of_getElem? (i := 693) (by decide +kernel), List.mem_of_getElem? (i := 989) (by decide +kernel), List.mem_of_getElem? (i := 990) (by decide +kernel)⟩
theorem lw_p55 : lw_okq (⟨"RockingRidersModel", "areSo", "()Z"⟩, 39) := ⟨⟨by decide +kernel, by decide +kernel⟩, List.mem_of_getElem? (i := 693) (by decide +kernel), List.mem_of_getElem? (i := 1006) (by decide +kernel), List.mem_of_getElem? (i := 1007) (by decide +kernel)⟩
theorem lw_p56 : lw_okq (⟨"RockingRidersModel", "noCell", "(II)I"⟩, 39) := ⟨⟨by decide +kernel, by decide +kernel⟩, List.mem_of_getElem? (i := 693) (by decide +kernel), List.mem_of_getElem? (i := 1041) (by decide +kernel), List.mem_of_getElem? (i := 1042) (by decide +kernel)⟩
theorem lw_p57 : lw_okq (⟨"RockingRidersModel", "failedLong", "(I)J"⟩, 39) := ⟨⟨by decide +kernel, by decide +kernel⟩, List.mem_of_getElem? (i := 693) (by decide +kernel), List.mem_of_getElem? (i := 1049) (by decide +kernel), List.mem_of_getElem? (i := 1050) (by decide +kernel)⟩
theorem lw_p58 : lw_okq (⟨"RockingRidersModel", "traced", "(I)V"⟩, 39) := ⟨⟨by decide +kernel, by decide +kernel⟩, List.mem_of_getElem? (i := 693) (by decide +kernel), List.mem_of_getElem? (i := 1061) (by decide +kernel), List.mem_of_getElem? (i := 1062) (by decide +kernel)⟩
def lw_privs_4 : List (MethodName × Nat) := [(⟨"RockingRidersModel", "afternoonBy", "(III)I"⟩, 39), (⟨"RockingRidersModel", "did", "(II)Z"⟩, 39), (⟨"RockingRidersModel", "bringBack", "()V"⟩, 39), (⟨"RockingRidersModel", "comesTo", "(II)I"⟩, 39), (⟨"RockingRidersModel", "seenBy", "(I)I"⟩, 39), (⟨"RockingRidersModel", "rowBy", "(I)V"⟩, 39), (⟨"RockingRidersModel", "judgesRow", "()V"⟩, 39), (⟨"RockingRidersModel", "areSo", "()Z"⟩, 39), (⟨"RockingRidersModel", "noCell", "(II)I"⟩, 39), (⟨"RockingRidersModel", "failedLong", "(I)J"⟩, 39), (⟨"RockingRidersModel", "traced", "(I)V"⟩, 39)]
theorem lw_r4 : ∀ q ∈ lw_privs_4, lw_okq q := List.forall_mem_cons.mpr ⟨lw_p48, List.forall_mem_cons.mpr ⟨lw_p49, List.forall_mem_cons.mpr ⟨lw_p50, List.forall_mem_cons.mpr ⟨lw_p51, List.forall_mem_cons.mpr ⟨lw_p52, List.forall_mem_cons.mpr ⟨lw_p53, List.forall_mem_cons.mpr ⟨lw_p54, List.forall_mem_cons.mpr ⟨lw_p55, List.forall_mem_cons.mpr ⟨lw_p56, List.forall_mem_cons.mpr ⟨lw_p57, List.forall_mem_cons.mpr ⟨lw_p58, fun _ h => absurd h List.not_mem_nil⟩⟩⟩⟩⟩⟩⟩⟩⟩⟩⟩
def lw_privs : List (MethodName × Nat) := lw_privs_1 ++ (lw_privs_2 ++ (lw_privs_3 ++ (lw_privs_4)))
def lw_tbl : List Cond := k2_sels lw_privs ++ tables_1
theorem lw_privs_ok : ∀ q ∈ lw_privs, lw_okq q := by
  show ∀ q ∈ lw_privs_1 ++ (lw_privs_2 ++ (lw_privs_3 ++ (lw_privs_4))), lw_okq q
  exact List.forall_mem_append.mpr ⟨lw_r1, List.forall_mem_append.mpr ⟨lw_r2, List.forall_mem_append.mpr ⟨lw_r3, lw_r4⟩⟩⟩
def RX0 : String := "RockingRiders$Guiding"
def RX1 : String := "RockingRiders$Nursery"
def RX2 : String := "RockingRiders$Readings"
def RX3 : String := "RockingRiders$Rider"
def RX4 : String := "RockingRiders$Sheet"
def RX5 : String := "RockingRiders$Tale"
def RX6 : String := "RockingRiders$Text"
def RX7 : String := "RockingRiders"
def RX8 : String := "RockingRidersModel"
def RJ6 : String := "java/lang/Integer"
def RJ9 : String := "java/lang/Math"
def RJ10 : String := "java/lang/System"
def RL : String := "RockingRidersLaw"
def TX0 : u_T := fun k => match k with
  | 0 => ("RockingRiders$Guiding", "comings", "[I", true)
  | 1 => ("RockingRiders$Guiding", "best", "[I", true)
  | 2 => ("RockingRiders$Guiding", "given", "[I", true)
  | 3 => ("RockingRiders$Guiding", "landsGiven", "I", false)
  | _ => ("RockingRiders$Guiding", "minutesTaken", "I", false)
def tyX0 : Nat → FieldType := fun k => match k with
  | 0 => .array .int
  | 1 => .array .int
  | 2 => .array .int
  | 3 => .int
  | _ => .int
theorem nmX0 : ∀ a, a < 5 → ∀ b, b < 5 → a ≠ b → (TX0 a).2.1 ≠ (TX0 b).2.1 := by decide +kernel
theorem tyX0_ok : ∀ k, k < 5 → parseFieldDescriptor (TX0 k).2.2.1 = some (tyX0 k) := by decide +kernel
def TX1 : u_T := fun k => match k with
  | 0 => ("RockingRiders$Nursery", "fars", "[I", true)
  | 1 => ("RockingRiders$Nursery", "riders", "[LRockingRiders$Rider;", true)
  | 2 => ("RockingRiders$Nursery", "creaksToMile", "I", false)
  | 3 => ("RockingRiders$Nursery", "landCount", "I", false)
  | 4 => ("RockingRiders$Nursery", "riderCount", "I", false)
  | _ => ("RockingRiders$Nursery", "minute", "I", false)
def tyX1 : Nat → FieldType := fun k => match k with
  | 0 => .array .int
  | 1 => .array (.object "RockingRiders$Rider")
  | 2 => .int
  | 3 => .int
  | 4 => .int
  | _ => .int
theorem nmX1 : ∀ a, a < 6 → ∀ b, b < 6 → a ≠ b → (TX1 a).2.1 ≠ (TX1 b).2.1 := by decide +kernel
theorem tyX1_ok : ∀ k, k < 6 → parseFieldDescriptor (TX1 k).2.2.1 = some (tyX1 k) := by decide +kernel
def TX2 : u_T := fun k => match k with
  | 0 => ("RockingRiders$Readings", "riders", "[I", true)
  | 1 => ("RockingRiders$Readings", "minutes", "[I", true)
  | 2 => ("RockingRiders$Readings", "miles", "[I", true)
  | _ => ("RockingRiders$Readings", "count", "I", false)
def tyX2 : Nat → FieldType := fun k => match k with
  | 0 => .array .int
  | 1 => .array .int
  | 2 => .array .int
  | _ => .int
theorem nmX2 : ∀ a, a < 4 → ∀ b, b < 4 → a ≠ b → (TX2 a).2.1 ≠ (TX2 b).2.1 := by decide +kernel
theorem tyX2_ok : ∀ k, k < 4 → parseFieldDescriptor (TX2 k).2.2.1 = some (tyX2 k) := by decide +kernel
def TX3 : u_T := fun k => match k with
  | 0 => ("RockingRiders$Rider", "kind", "I", false)
  | 1 => ("RockingRiders$Rider", "leaning", "I", false)
  | 2 => ("RockingRiders$Rider", "lasting", "I", false)
  | 3 => ("RockingRiders$Rider", "gone", "I", false)
  | 4 => ("RockingRiders$Rider", "shutFor", "I", false)
  | _ => ("RockingRiders$Rider", "eyesShut", "Z", false)
def tyX3 : Nat → FieldType := fun k => match k with
  | 0 => .int
  | 1 => .int
  | 2 => .int
  | 3 => .int
  | 4 => .int
  | _ => .boolean
theorem nmX3 : ∀ a, a < 6 → ∀ b, b < 6 → a ≠ b → (TX3 a).2.1 ≠ (TX3 b).2.1 := by decide +kernel
theorem tyX3_ok : ∀ k, k < 6 → parseFieldDescriptor (TX3 k).2.2.1 = some (tyX3 k) := by decide +kernel
def TX4 : u_T := fun k => match k with
  | 0 => ("RockingRiders$Sheet", "cells", "[I", true)
  | 1 => ("RockingRiders$Sheet", "lane", "I", false)
  | _ => ("RockingRiders$Sheet", "length", "I", false)
def tyX4 : Nat → FieldType := fun k => match k with
  | 0 => .array .int
  | 1 => .int
  | _ => .int
theorem nmX4 : ∀ a, a < 3 → ∀ b, b < 3 → a ≠ b → (TX4 a).2.1 ≠ (TX4 b).2.1 := by decide +kernel
theorem tyX4_ok : ∀ k, k < 3 → parseFieldDescriptor (TX4 k).2.2.1 = some (tyX4 k) := by decide +kernel
def TX5 : u_T := fun k => match k with
  | 0 => ("RockingRiders$Tale", "nursery", "LRockingRiders$Nursery;", true)
  | 1 => ("RockingRiders$Tale", "looks", "I", false)
  | _ => ("RockingRiders$Tale", "landsSeen", "I", false)
def tyX5 : Nat → FieldType := fun k => match k with
  | 0 => .object "RockingRiders$Nursery"
  | 1 => .int
  | _ => .int
theorem nmX5 : ∀ a, a < 3 → ∀ b, b < 3 → a ≠ b → (TX5 a).2.1 ≠ (TX5 b).2.1 := by decide +kernel
theorem tyX5_ok : ∀ k, k < 3 → parseFieldDescriptor (TX5 k).2.2.1 = some (tyX5 k) := by decide +kernel
def TX6 : u_T := fun k => match k with
  | 0 => ("RockingRiders$Text", "sheet", "LRockingRiders$Sheet;", true)
  | 1 => ("RockingRiders$Text", "from", "I", true)
  | 2 => ("RockingRiders$Text", "length", "I", true)
  | _ => ("RockingRiders$Text", "place", "I", false)
def tyX6 : Nat → FieldType := fun k => match k with
  | 0 => .object "RockingRiders$Sheet"
  | 1 => .int
  | 2 => .int
  | _ => .int
theorem nmX6 : ∀ a, a < 4 → ∀ b, b < 4 → a ≠ b → (TX6 a).2.1 ≠ (TX6 b).2.1 := by decide +kernel
theorem tyX6_ok : ∀ k, k < 4 → parseFieldDescriptor (TX6 k).2.2.1 = some (tyX6 k) := by decide +kernel
def TX7 : u_T := fun k => match k with
  | 0 => ("RockingRiders", "now", "LRockingRiders$Nursery;", true)
  | 1 => ("RockingRiders", "spare", "LRockingRiders$Nursery;", true)
  | 2 => ("RockingRiders", "tale", "LRockingRiders$Tale;", true)
  | 3 => ("RockingRiders", "readings", "LRockingRiders$Readings;", true)
  | 4 => ("RockingRiders", "guiding", "LRockingRiders$Guiding;", true)
  | 5 => ("RockingRiders", "sheets", "[LRockingRiders$Sheet;", true)
  | 6 => ("RockingRiders", "traceLeft", "I", false)
  | _ => ("RockingRiders", "latestFault", "I", false)
def tyX7 : Nat → FieldType := fun k => match k with
  | 0 => .object "RockingRiders$Nursery"
  | 1 => .object "RockingRiders$Nursery"
  | 2 => .object "RockingRiders$Tale"
  | 3 => .object "RockingRiders$Readings"
  | 4 => .object "RockingRiders$Guiding"
  | 5 => .array (.object "RockingRiders$Sheet")
  | 6 => .int
  | _ => .int
theorem nmX7 : ∀ a, a < 8 → ∀ b, b < 8 → a ≠ b → (TX7 a).2.1 ≠ (TX7 b).2.1 := by decide +kernel
theorem tyX7_ok : ∀ k, k < 8 → parseFieldDescriptor (TX7 k).2.2.1 = some (tyX7 k) := by decide +kernel
def TX8 : u_T := fun k => match k with
  | 0 => ("RockingRidersModel", "fault", "I", false)
  | 1 => ("RockingRidersModel", "lands", "I", false)
  | 2 => ("RockingRidersModel", "riders", "I", false)
  | 3 => ("RockingRidersModel", "creaksNow", "I", false)
  | 4 => ("RockingRidersModel", "minuteNow", "I", false)
  | 5 => ("RockingRidersModel", "shutNow", "I", false)
  | 6 => ("RockingRidersModel", "farOf", "[I", true)
  | 7 => ("RockingRidersModel", "kindOf", "[I", true)
  | 8 => ("RockingRidersModel", "leanOf", "[I", true)
  | 9 => ("RockingRidersModel", "lastsOf", "[I", true)
  | 10 => ("RockingRidersModel", "goneOf", "[I", true)
  | 11 => ("RockingRidersModel", "shutFor", "[I", true)
  | 12 => ("RockingRidersModel", "readAt", "I", false)
  | 13 => ("RockingRidersModel", "readCreaks", "I", false)
  | 14 => ("RockingRidersModel", "readLands", "I", false)
  | 15 => ("RockingRidersModel", "readRiders", "I", false)
  | 16 => ("RockingRidersModel", "readFar", "[I", true)
  | 17 => ("RockingRidersModel", "readKind", "[I", true)
  | 18 => ("RockingRidersModel", "readLean", "[I", true)
  | 19 => ("RockingRidersModel", "readLasts", "[I", true)
  | 20 => ("RockingRidersModel", "looks", "I", false)
  | 21 => ("RockingRidersModel", "landsSeen", "I", false)
  | 22 => ("RockingRidersModel", "minuteKept", "I", false)
  | 23 => ("RockingRidersModel", "shutKept", "I", false)
  | 24 => ("RockingRidersModel", "goneKept", "[I", true)
  | 25 => ("RockingRidersModel", "forKept", "[I", true)
  | 26 => ("RockingRidersModel", "rowNow", "[I", true)
  | 27 => ("RockingRidersModel", "rowBest", "[I", true)
  | 28 => ("RockingRidersModel", "mostLands", "I", false)
  | 29 => ("RockingRidersModel", "leastMinutes", "I", false)
  | 30 => ("RockingRidersModel", "readings", "I", false)
  | 31 => ("RockingRidersModel", "readingOf", "[I", true)
  | 32 => ("RockingRidersModel", "readingMinutes", "[I", true)
  | 33 => ("RockingRidersModel", "readingWas", "[I", true)
  | 34 => ("RockingRidersModel", "sheetSize", "[I", true)
  | 35 => ("RockingRidersModel", "sheetLane", "[I", true)
  | 36 => ("RockingRidersModel", "sheet", "[I", true)
  | 37 => ("RockingRidersModel", "hands", "[I", true)
  | _ => ("RockingRidersModel", "traceNow", "I", false)
def tyX8 : Nat → FieldType := fun k => match k with
  | 0 => .int
  | 1 => .int
  | 2 => .int
  | 3 => .int
  | 4 => .int
  | 5 => .int
  | 6 => .array .int
  | 7 => .array .int
  | 8 => .array .int
  | 9 => .array .int
  | 10 => .array .int
  | 11 => .array .int
  | 12 => .int
  | 13 => .int
  | 14 => .int
  | 15 => .int
  | 16 => .array .int
  | 17 => .array .int
  | 18 => .array .int
  | 19 => .array .int
  | 20 => .int
  | 21 => .int
  | 22 => .int
  | 23 => .int
  | 24 => .array .int
  | 25 => .array .int
  | 26 => .array .int
  | 27 => .array .int
  | 28 => .int
  | 29 => .int
  | 30 => .int
  | 31 => .array .int
  | 32 => .array .int
  | 33 => .array .int
  | 34 => .array .int
  | 35 => .array .int
  | 36 => .array .int
  | 37 => .array .int
  | _ => .int
theorem nmX8 : ∀ a, a < 39 → ∀ b, b < 39 → a ≠ b → (TX8 a).2.1 ≠ (TX8 b).2.1 := by decide +kernel
theorem tyX8_ok : ∀ k, k < 39 → parseFieldDescriptor (TX8 k).2.2.1 = some (tyX8 k) := by decide +kernel
def TJ6 : u_T := fun k => match k with
  | _ => ("", "", "", false)
def tyJ6 : Nat → FieldType := fun k => match k with
  | _ => .int
theorem nmJ6 : ∀ a, a < 0 → ∀ b, b < 0 → a ≠ b → (TJ6 a).2.1 ≠ (TJ6 b).2.1 := by decide +kernel
theorem tyJ6_ok : ∀ k, k < 0 → parseFieldDescriptor (TJ6 k).2.2.1 = some (tyJ6 k) := by decide +kernel
def TJ9 : u_T := fun k => match k with
  | _ => ("", "", "", false)
def tyJ9 : Nat → FieldType := fun k => match k with
  | _ => .int
theorem nmJ9 : ∀ a, a < 0 → ∀ b, b < 0 → a ≠ b → (TJ9 a).2.1 ≠ (TJ9 b).2.1 := by decide +kernel
theorem tyJ9_ok : ∀ k, k < 0 → parseFieldDescriptor (TJ9 k).2.2.1 = some (tyJ9 k) := by decide +kernel
def TJ10 : u_T := fun k => match k with
  | _ => ("", "", "", false)
def tyJ10 : Nat → FieldType := fun k => match k with
  | _ => .int
theorem nmJ10 : ∀ a, a < 0 → ∀ b, b < 0 → a ≠ b → (TJ10 a).2.1 ≠ (TJ10 b).2.1 := by decide +kernel
theorem tyJ10_ok : ∀ k, k < 0 → parseFieldDescriptor (TJ10 k).2.2.1 = some (tyJ10 k) := by decide +kernel
abbrev cX0_init : ByteArray := prog_2_method_1_code
def yX0_init : MethodName := ⟨RX0, "<init>", "()V"⟩
abbrev cX0_finds : ByteArray := prog_2_method_2_code
def yX0_finds : MethodName := ⟨RX0, "finds", "(LRockingRiders$Nursery;)V"⟩
abbrev cX0_readComings : ByteArray := prog_2_method_3_code
def yX0_readComings : MethodName := ⟨RX0, "readComings", "(LRockingRiders$Nursery;)V"⟩
abbrev cX0_gives : ByteArray := prog_2_method_4_code
def yX0_gives : MethodName := ⟨RX0, "gives", "()V"⟩
abbrev cX0_choice : ByteArray := prog_2_method_5_code
def yX0_choice : MethodName := ⟨RX0, "choice", "(II)I"⟩
abbrev cX0_worthOf : ByteArray := prog_2_method_6_code
def yX0_worthOf : MethodName := ⟨RX0, "worthOf", "(III)I"⟩
abbrev cX0_comingOf : ByteArray := prog_2_method_7_code
def yX0_comingOf : MethodName := ⟨RX0, "comingOf", "(II)I"⟩
abbrev cX0_bestFrom : ByteArray := prog_2_method_8_code
def yX0_bestFrom : MethodName := ⟨RX0, "bestFrom", "(II)I"⟩
abbrev cX0_setBest : ByteArray := prog_2_method_9_code
def yX0_setBest : MethodName := ⟨RX0, "setBest", "(III)V"⟩
abbrev cX0_landGivenTo : ByteArray := prog_2_method_10_code
def yX0_landGivenTo : MethodName := ⟨RX0, "landGivenTo", "(I)I"⟩
abbrev cX1_init : ByteArray := prog_3_method_1_code
def yX1_init : MethodName := ⟨RX1, "<init>", "()V"⟩
abbrev cX1_isThere : ByteArray := prog_3_method_2_code
def yX1_isThere : MethodName := ⟨RX1, "isThere", "()Z"⟩
abbrev cX1_begins : ByteArray := prog_3_method_3_code
def yX1_begins : MethodName := ⟨RX1, "begins", "(I)V"⟩
abbrev cX1_addLand : ByteArray := prog_3_method_4_code
def yX1_addLand : MethodName := ⟨RX1, "addLand", "(I)V"⟩
abbrev cX1_addRider : ByteArray := prog_3_method_5_code
def yX1_addRider : MethodName := ⟨RX1, "addRider", "(III)V"⟩
abbrev cX1_becomesLike : ByteArray := prog_3_method_6_code
def yX1_becomesLike : MethodName := ⟨RX1, "becomesLike", "(LRockingRiders$Nursery;)V"⟩
abbrev cX1_riderAt : ByteArray := prog_3_method_7_code
def yX1_riderAt : MethodName := ⟨RX1, "riderAt", "(I)LRockingRiders$Rider;"⟩
abbrev cX1_isLand : ByteArray := prog_3_method_8_code
def yX1_isLand : MethodName := ⟨RX1, "isLand", "(I)Z"⟩
abbrev cX1_farOf : ByteArray := prog_3_method_9_code
def yX1_farOf : MethodName := ⟨RX1, "farOf", "(I)I"⟩
abbrev cX1_milesOf : ByteArray := prog_3_method_10_code
def yX1_milesOf : MethodName := ⟨RX1, "milesOf", "(LRockingRiders$Rider;)I"⟩
abbrev cX1_landOf : ByteArray := prog_3_method_11_code
def yX1_landOf : MethodName := ⟨RX1, "landOf", "(LRockingRiders$Rider;)I"⟩
abbrev cX1_landAt : ByteArray := prog_3_method_12_code
def yX1_landAt : MethodName := ⟨RX1, "landAt", "(I)I"⟩
abbrev cX1_areInOneLand : ByteArray := prog_3_method_13_code
def yX1_areInOneLand : MethodName := ⟨RX1, "areInOneLand", "(II)Z"⟩
abbrev cX1_howManyAreInLands : ByteArray := prog_3_method_14_code
def yX1_howManyAreInLands : MethodName := ⟨RX1, "howManyAreInLands", "()I"⟩
abbrev cX1_landsWithAnybody : ByteArray := prog_3_method_15_code
def yX1_landsWithAnybody : MethodName := ⟨RX1, "landsWithAnybody", "()I"⟩
abbrev cX1_whoseEyesAreShut : ByteArray := prog_3_method_16_code
def yX1_whoseEyesAreShut : MethodName := ⟨RX1, "whoseEyesAreShut", "()I"⟩
abbrev cX1_passMinute : ByteArray := prog_3_method_17_code
def yX1_passMinute : MethodName := ⟨RX1, "passMinute", "()I"⟩
abbrev cX1_comingOf : ByteArray := prog_3_method_18_code
def yX1_comingOf : MethodName := ⟨RX1, "comingOf", "(LRockingRiders$Rider;I)I"⟩
abbrev cX1_milesBehind : ByteArray := prog_3_method_19_code
def yX1_milesBehind : MethodName := ⟨RX1, "milesBehind", "(LRockingRiders$Rider;I)I"⟩
abbrev cX1_latestComing : ByteArray := prog_3_method_20_code
def yX1_latestComing : MethodName := ⟨RX1, "latestComing", "(I)I"⟩
abbrev cX1_landsComeToBy : ByteArray := prog_3_method_21_code
def yX1_landsComeToBy : MethodName := ⟨RX1, "landsComeToBy", "(I)I"⟩
abbrev cX1_landsReachedBy : ByteArray := prog_3_method_22_code
def yX1_landsReachedBy : MethodName := ⟨RX1, "landsReachedBy", "(LRockingRiders$Rider;)I"⟩
abbrev cX1_minutesIn : ByteArray := prog_3_method_23_code
def yX1_minutesIn : MethodName := ⟨RX1, "minutesIn", "(LRockingRiders$Rider;I)I"⟩
abbrev cX2_init : ByteArray := prog_4_method_1_code
def yX2_init : MethodName := ⟨RX2, "<init>", "()V"⟩
abbrev cX2_adds : ByteArray := prog_4_method_2_code
def yX2_adds : MethodName := ⟨RX2, "adds", "(III)V"⟩
abbrev cX2_areSo : ByteArray := prog_4_method_3_code
def yX2_areSo : MethodName := ⟨RX2, "areSo", "(LRockingRiders$Nursery;IIII)Z"⟩
abbrev cX2_paceIn : ByteArray := prog_4_method_4_code
def yX2_paceIn : MethodName := ⟨RX2, "paceIn", "(LRockingRiders$Nursery;I)I"⟩
abbrev cX2_has : ByteArray := prog_4_method_5_code
def yX2_has : MethodName := ⟨RX2, "has", "(I)Z"⟩
abbrev cX3_init : ByteArray := prog_5_method_1_code
def yX3_init : MethodName := ⟨RX3, "<init>", "()V"⟩
abbrev cX3_becomesNew : ByteArray := prog_5_method_2_code
def yX3_becomesNew : MethodName := ⟨RX3, "becomesNew", "(III)V"⟩
abbrev cX3_becomesLike : ByteArray := prog_5_method_3_code
def yX3_becomesLike : MethodName := ⟨RX3, "becomesLike", "(LRockingRiders$Rider;)V"⟩
abbrev cX3_shutsEyes : ByteArray := prog_5_method_4_code
def yX3_shutsEyes : MethodName := ⟨RX3, "shutsEyes", "()V"⟩
abbrev cX3_looksUp : ByteArray := prog_5_method_5_code
def yX3_looksUp : MethodName := ⟨RX3, "looksUp", "()V"⟩
abbrev cX3_passesMinute : ByteArray := prog_5_method_6_code
def yX3_passesMinute : MethodName := ⟨RX3, "passesMinute", "()Z"⟩
abbrev cX4_init : ByteArray := prog_6_method_1_code
def yX4_init : MethodName := ⟨RX4, "<init>", "()V"⟩
abbrev cX4_hasNothing : ByteArray := prog_6_method_2_code
def yX4_hasNothing : MethodName := ⟨RX4, "hasNothing", "()Z"⟩
abbrev cX4_becomesNothing : ByteArray := prog_6_method_3_code
def yX4_becomesNothing : MethodName := ⟨RX4, "becomesNothing", "()V"⟩
abbrev cX4_becomesRow : ByteArray := prog_6_method_4_code
def yX4_becomesRow : MethodName := ⟨RX4, "becomesRow", "(II)V"⟩
abbrev cX4_hasCell : ByteArray := prog_6_method_5_code
def yX4_hasCell : MethodName := ⟨RX4, "hasCell", "(I)Z"⟩
abbrev cX4_hasRun : ByteArray := prog_6_method_6_code
def yX4_hasRun : MethodName := ⟨RX4, "hasRun", "(II)Z"⟩
abbrev cX4_at : ByteArray := prog_6_method_7_code
def yX4_at : MethodName := ⟨RX4, "at", "(I)I"⟩
abbrev cX4_setCell : ByteArray := prog_6_method_8_code
def yX4_setCell : MethodName := ⟨RX4, "setCell", "(II)V"⟩
abbrev cX4_cutToLane : ByteArray := prog_6_method_9_code
def yX4_cutToLane : MethodName := ⟨RX4, "cutToLane", "(I)I"⟩
abbrev cX4_takesRun : ByteArray := prog_6_method_10_code
def yX4_takesRun : MethodName := ⟨RX4, "takesRun", "(ILRockingRiders$Sheet;II)V"⟩
abbrev cX5_init : ByteArray := prog_7_method_1_code
def yX5_init : MethodName := ⟨RX5, "<init>", "()V"⟩
abbrev cX5_tells : ByteArray := prog_7_method_2_code
def yX5_tells : MethodName := ⟨RX5, "tells", "(LRockingRiders$Nursery;LRockingRiders$Sheet;II)I"⟩
abbrev cX5_acts : ByteArray := prog_7_method_3_code
def yX5_acts : MethodName := ⟨RX5, "acts", "(II)Z"⟩
abbrev cX5_passMinutes : ByteArray := prog_7_method_4_code
def yX5_passMinutes : MethodName := ⟨RX5, "passMinutes", "(I)V"⟩
abbrev cX6_init : ByteArray := prog_8_method_1_code
def yX6_init : MethodName := ⟨RX6, "<init>", "(LRockingRiders$Sheet;II)V"⟩
abbrev cX6_fills : ByteArray := prog_8_method_2_code
def yX6_fills : MethodName := ⟨RX6, "fills", "(LRockingRiders$Nursery;)Z"⟩
abbrev cX6_fillsLand : ByteArray := prog_8_method_3_code
def yX6_fillsLand : MethodName := ⟨RX6, "fillsLand", "(LRockingRiders$Nursery;)Z"⟩
abbrev cX6_fillsRider : ByteArray := prog_8_method_4_code
def yX6_fillsRider : MethodName := ⟨RX6, "fillsRider", "(LRockingRiders$Nursery;)Z"⟩
abbrev cX6_takesKind : ByteArray := prog_8_method_5_code
def yX6_takesKind : MethodName := ⟨RX6, "takesKind", "()I"⟩
abbrev cX6_kindBy : ByteArray := prog_8_method_6_code
def yX6_kindBy : MethodName := ⟨RX6, "kindBy", "(I)I"⟩
abbrev cX6_takesDigit : ByteArray := prog_8_method_7_code
def yX6_takesDigit : MethodName := ⟨RX6, "takesDigit", "(I)I"⟩
abbrev cX6_takes : ByteArray := prog_8_method_8_code
def yX6_takes : MethodName := ⟨RX6, "takes", "(I)Z"⟩
abbrev cX6_next : ByteArray := prog_8_method_9_code
def yX6_next : MethodName := ⟨RX6, "next", "()I"⟩
abbrev cX7_init : ByteArray := prog_1_method_1_code
def yX7_init : MethodName := ⟨RX7, "<init>", "()V"⟩
abbrev cX7_nursery : ByteArray := prog_1_method_2_code
def yX7_nursery : MethodName := ⟨RX7, "nursery", "(IIII)I"⟩
abbrev cX7_ofRider : ByteArray := prog_1_method_3_code
def yX7_ofRider : MethodName := ⟨RX7, "ofRider", "(II)I"⟩
abbrev cX7_far : ByteArray := prog_1_method_4_code
def yX7_far : MethodName := ⟨RX7, "far", "(I)I"⟩
abbrev cX7_wax : ByteArray := prog_1_method_5_code
def yX7_wax : MethodName := ⟨RX7, "wax", "(I)I"⟩
abbrev cX7_lean : ByteArray := prog_1_method_6_code
def yX7_lean : MethodName := ⟨RX7, "lean", "(II)I"⟩
abbrev cX7_minutes : ByteArray := prog_1_method_7_code
def yX7_minutes : MethodName := ⟨RX7, "minutes", "(I)I"⟩
abbrev cX7_shut : ByteArray := prog_1_method_8_code
def yX7_shut : MethodName := ⟨RX7, "shut", "(I)I"⟩
abbrev cX7_look : ByteArray := prog_1_method_9_code
def yX7_look : MethodName := ⟨RX7, "look", "(I)I"⟩
abbrev cX7_afternoon : ByteArray := prog_1_method_10_code
def yX7_afternoon : MethodName := ⟨RX7, "afternoon", "(IIIII)I"⟩
abbrev cX7_isAskedOfAfternoon : ByteArray := prog_1_method_11_code
def yX7_isAskedOfAfternoon : MethodName := ⟨RX7, "isAskedOfAfternoon", "(I)Z"⟩
abbrev cX7_refusalOfPairs : ByteArray := prog_1_method_12_code
def yX7_refusalOfPairs : MethodName := ⟨RX7, "refusalOfPairs", "(LRockingRiders$Sheet;II)I"⟩
abbrev cX7_refusalOfPair : ByteArray := prog_1_method_13_code
def yX7_refusalOfPair : MethodName := ⟨RX7, "refusalOfPair", "(II)I"⟩
abbrev cX7_answerOfTale : ByteArray := prog_1_method_14_code
def yX7_answerOfTale : MethodName := ⟨RX7, "answerOfTale", "(II)I"⟩
abbrev cX7_milesTold : ByteArray := prog_1_method_15_code
def yX7_milesTold : MethodName := ⟨RX7, "milesTold", "(I)I"⟩
abbrev cX7_comes : ByteArray := prog_1_method_16_code
def yX7_comes : MethodName := ⟨RX7, "comes", "(II)I"⟩
abbrev cX7_together : ByteArray := prog_1_method_17_code
def yX7_together : MethodName := ⟨RX7, "together", "(II)I"⟩
abbrev cX7_waits : ByteArray := prog_1_method_18_code
def yX7_waits : MethodName := ⟨RX7, "waits", "(II)I"⟩
abbrev cX7_scouts : ByteArray := prog_1_method_19_code
def yX7_scouts : MethodName := ⟨RX7, "scouts", "()I"⟩
abbrev cX7_guides : ByteArray := prog_1_method_20_code
def yX7_guides : MethodName := ⟨RX7, "guides", "(I)I"⟩
abbrev cX7_reading : ByteArray := prog_1_method_21_code
def yX7_reading : MethodName := ⟨RX7, "reading", "(III)I"⟩
abbrev cX7_back : ByteArray := prog_1_method_22_code
def yX7_back : MethodName := ⟨RX7, "back", "(I)I"⟩
abbrev cX7_leans : ByteArray := prog_1_method_23_code
def yX7_leans : MethodName := ⟨RX7, "leans", "(I)I"⟩
abbrev cX7_kinds : ByteArray := prog_1_method_24_code
def yX7_kinds : MethodName := ⟨RX7, "kinds", "(I)I"⟩
abbrev cX7_creaks : ByteArray := prog_1_method_25_code
def yX7_creaks : MethodName := ⟨RX7, "creaks", "()I"⟩
abbrev cX7_odds : ByteArray := prog_1_method_26_code
def yX7_odds : MethodName := ⟨RX7, "odds", "(III)J"⟩
abbrev cX7_greatestDivisor : ByteArray := prog_1_method_27_code
def yX7_greatestDivisor : MethodName := ⟨RX7, "greatestDivisor", "(II)I"⟩
abbrev cX7_sheet : ByteArray := prog_1_method_28_code
def yX7_sheet : MethodName := ⟨RX7, "sheet", "(III)I"⟩
abbrev cX7_lose : ByteArray := prog_1_method_29_code
def yX7_lose : MethodName := ⟨RX7, "lose", "(I)I"⟩
abbrev cX7_put : ByteArray := prog_1_method_30_code
def yX7_put : MethodName := ⟨RX7, "put", "(III)I"⟩
abbrev cX7_cell : ByteArray := prog_1_method_31_code
def yX7_cell : MethodName := ⟨RX7, "cell", "(III)J"⟩
abbrev cX7_copy : ByteArray := prog_1_method_32_code
def yX7_copy : MethodName := ⟨RX7, "copy", "(IIIII)I"⟩
abbrev cX7_tell : ByteArray := prog_1_method_33_code
def yX7_tell : MethodName := ⟨RX7, "tell", "(I)I"⟩
abbrev cX7_childTells : ByteArray := prog_1_method_34_code
def yX7_childTells : MethodName := ⟨RX7, "childTells", "(LRockingRiders$Rider;)I"⟩
abbrev cX7_maidTells : ByteArray := prog_1_method_35_code
def yX7_maidTells : MethodName := ⟨RX7, "maidTells", "(LRockingRiders$Rider;)I"⟩
abbrev cX7_uncleTells : ByteArray := prog_1_method_36_code
def yX7_uncleTells : MethodName := ⟨RX7, "uncleTells", "(LRockingRiders$Rider;)I"⟩
abbrev cX7_call : ByteArray := prog_1_method_37_code
def yX7_call : MethodName := ⟨RX7, "call", "(I)I"⟩
abbrev cX7_isCalledByLentBody : ByteArray := prog_1_method_38_code
def yX7_isCalledByLentBody : MethodName := ⟨RX7, "isCalledByLentBody", "(I)I"⟩
abbrev cX7_uncleIsCalled : ByteArray := prog_1_method_39_code
def yX7_uncleIsCalled : MethodName := ⟨RX7, "uncleIsCalled", "()I"⟩
abbrev cX7_leaveInTrace : ByteArray := prog_1_method_40_code
def yX7_leaveInTrace : MethodName := ⟨RX7, "leaveInTrace", "(I)V"⟩
abbrev cX7_as : ByteArray := prog_1_method_41_code
def yX7_as : MethodName := ⟨RX7, "as", "(II)I"⟩
abbrev cX7_trace : ByteArray := prog_1_method_42_code
def yX7_trace : MethodName := ⟨RX7, "trace", "()I"⟩
abbrev cX7_fault : ByteArray := prog_1_method_43_code
def yX7_fault : MethodName := ⟨RX7, "fault", "()I"⟩
abbrev cX7_many : ByteArray := prog_1_method_44_code
def yX7_many : MethodName := ⟨RX7, "many", "(I)I"⟩
abbrev cX7_sheetAt : ByteArray := prog_1_method_45_code
def yX7_sheetAt : MethodName := ⟨RX7, "sheetAt", "(I)LRockingRiders$Sheet;"⟩
abbrev cX7_isLane : ByteArray := prog_1_method_46_code
def yX7_isLane : MethodName := ⟨RX7, "isLane", "(I)Z"⟩
abbrev cX7_isOneToNine : ByteArray := prog_1_method_47_code
def yX7_isOneToNine : MethodName := ⟨RX7, "isOneToNine", "(I)Z"⟩
abbrev cX7_rowFault : ByteArray := prog_1_method_48_code
def yX7_rowFault : MethodName := ⟨RX7, "rowFault", "(LRockingRiders$Sheet;I)I"⟩
abbrev cX7_faulted : ByteArray := prog_1_method_49_code
def yX7_faulted : MethodName := ⟨RX7, "faulted", "(I)I"⟩
abbrev cX7_paceOf : ByteArray := prog_1_method_50_code
def yX7_paceOf : MethodName := ⟨RX7, "paceOf", "(II)I"⟩
abbrev cX7_quotient : ByteArray := prog_1_method_51_code
def yX7_quotient : MethodName := ⟨RX7, "quotient", "(II)I"⟩
abbrev cX8_init : ByteArray := prog_10_method_1_code
def yX8_init : MethodName := ⟨RX8, "<init>", "()V"⟩
abbrev cX8_in : ByteArray := prog_10_method_2_code
def yX8_in : MethodName := ⟨RX8, "in", "(JJJ)Z"⟩
abbrev cX8_lost : ByteArray := prog_10_method_3_code
def yX8_lost : MethodName := ⟨RX8, "lost", "()J"⟩
abbrev cX8_isIn : ByteArray := prog_10_method_4_code
def yX8_isIn : MethodName := ⟨RX8, "isIn", "(II)Z"⟩
abbrev cX8_bits : ByteArray := prog_10_method_5_code
def yX8_bits : MethodName := ⟨RX8, "bits", "(I)I"⟩
abbrev cX8_share : ByteArray := prog_10_method_6_code
def yX8_share : MethodName := ⟨RX8, "share", "(JJI)J"⟩
abbrev cX8_refused : ByteArray := prog_10_method_7_code
def yX8_refused : MethodName := ⟨RX8, "refused", "(I)I"⟩
abbrev cX8_failed : ByteArray := prog_10_method_8_code
def yX8_failed : MethodName := ⟨RX8, "failed", "(I)I"⟩
abbrev cX8_failedLong : ByteArray := prog_10_method_9_code
def yX8_failedLong : MethodName := ⟨RX8, "failedLong", "(I)J"⟩
abbrev cX8_noRider : ByteArray := prog_10_method_10_code
def yX8_noRider : MethodName := ⟨RX8, "noRider", "(I)Z"⟩
abbrev cX8_noLand : ByteArray := prog_10_method_11_code
def yX8_noLand : MethodName := ⟨RX8, "noLand", "(I)Z"⟩
abbrev cX8_codeAt : ByteArray := prog_10_method_12_code
def yX8_codeAt : MethodName := ⟨RX8, "codeAt", "(II)I"⟩
abbrev cX8_figure : ByteArray := prog_10_method_13_code
def yX8_figure : MethodName := ⟨RX8, "figure", "(IIII)I"⟩
abbrev cX8_readsLands : ByteArray := prog_10_method_14_code
def yX8_readsLands : MethodName := ⟨RX8, "readsLands", "(II)Z"⟩
abbrev cX8_readsRider : ByteArray := prog_10_method_15_code
def yX8_readsRider : MethodName := ⟨RX8, "readsRider", "(II)Z"⟩
abbrev cX8_readsNursery : ByteArray := prog_10_method_16_code
def yX8_readsNursery : MethodName := ⟨RX8, "readsNursery", "(II)Z"⟩
abbrev cX8_cellsBarred : ByteArray := prog_10_method_17_code
def yX8_cellsBarred : MethodName := ⟨RX8, "cellsBarred", "(IIIJ)I"⟩
abbrev cX8_nursery : ByteArray := prog_10_method_18_code
def yX8_nursery : MethodName := ⟨RX8, "nursery", "(IIII)I"⟩
abbrev cX8_paceOf : ByteArray := prog_10_method_19_code
def yX8_paceOf : MethodName := ⟨RX8, "paceOf", "(I)I"⟩
abbrev cX8_landBy : ByteArray := prog_10_method_20_code
def yX8_landBy : MethodName := ⟨RX8, "landBy", "(I)I"⟩
abbrev cX8_ofRider : ByteArray := prog_10_method_21_code
def yX8_ofRider : MethodName := ⟨RX8, "ofRider", "(II)I"⟩
abbrev cX8_far : ByteArray := prog_10_method_22_code
def yX8_far : MethodName := ⟨RX8, "far", "(I)I"⟩
abbrev cX8_wax : ByteArray := prog_10_method_23_code
def yX8_wax : MethodName := ⟨RX8, "wax", "(I)I"⟩
abbrev cX8_lean : ByteArray := prog_10_method_24_code
def yX8_lean : MethodName := ⟨RX8, "lean", "(II)I"⟩
abbrev cX8_looked : ByteArray := prog_10_method_25_code
def yX8_looked : MethodName := ⟨RX8, "looked", "(I)V"⟩
abbrev cX8_passes : ByteArray := prog_10_method_26_code
def yX8_passes : MethodName := ⟨RX8, "passes", "()V"⟩
abbrev cX8_minutes : ByteArray := prog_10_method_27_code
def yX8_minutes : MethodName := ⟨RX8, "minutes", "(I)I"⟩
abbrev cX8_shuts : ByteArray := prog_10_method_28_code
def yX8_shuts : MethodName := ⟨RX8, "shuts", "(I)Z"⟩
abbrev cX8_shut : ByteArray := prog_10_method_29_code
def yX8_shut : MethodName := ⟨RX8, "shut", "(I)I"⟩
abbrev cX8_look : ByteArray := prog_10_method_30_code
def yX8_look : MethodName := ⟨RX8, "look", "(I)I"⟩
abbrev cX8_keepAll : ByteArray := prog_10_method_31_code
def yX8_keepAll : MethodName := ⟨RX8, "keepAll", "()V"⟩
abbrev cX8_bringBack : ByteArray := prog_10_method_32_code
def yX8_bringBack : MethodName := ⟨RX8, "bringBack", "()V"⟩
abbrev cX8_pairsBarred : ByteArray := prog_10_method_33_code
def yX8_pairsBarred : MethodName := ⟨RX8, "pairsBarred", "(II)I"⟩
abbrev cX8_did : ByteArray := prog_10_method_34_code
def yX8_did : MethodName := ⟨RX8, "did", "(II)Z"⟩
abbrev cX8_afternoonBy : ByteArray := prog_10_method_35_code
def yX8_afternoonBy : MethodName := ⟨RX8, "afternoonBy", "(III)I"⟩
abbrev cX8_afternoon : ByteArray := prog_10_method_36_code
def yX8_afternoon : MethodName := ⟨RX8, "afternoon", "(IIIII)I"⟩
abbrev cX8_comesTo : ByteArray := prog_10_method_37_code
def yX8_comesTo : MethodName := ⟨RX8, "comesTo", "(II)I"⟩
abbrev cX8_comes : ByteArray := prog_10_method_38_code
def yX8_comes : MethodName := ⟨RX8, "comes", "(II)I"⟩
abbrev cX8_together : ByteArray := prog_10_method_39_code
def yX8_together : MethodName := ⟨RX8, "together", "(II)I"⟩
abbrev cX8_waits : ByteArray := prog_10_method_40_code
def yX8_waits : MethodName := ⟨RX8, "waits", "(II)I"⟩
abbrev cX8_seenBy : ByteArray := prog_10_method_41_code
def yX8_seenBy : MethodName := ⟨RX8, "seenBy", "(I)I"⟩
abbrev cX8_scouts : ByteArray := prog_10_method_42_code
def yX8_scouts : MethodName := ⟨RX8, "scouts", "()I"⟩
abbrev cX8_rowBy : ByteArray := prog_10_method_43_code
def yX8_rowBy : MethodName := ⟨RX8, "rowBy", "(I)V"⟩
abbrev cX8_judgesRow : ByteArray := prog_10_method_44_code
def yX8_judgesRow : MethodName := ⟨RX8, "judgesRow", "()V"⟩
abbrev cX8_guides : ByteArray := prog_10_method_45_code
def yX8_guides : MethodName := ⟨RX8, "guides", "(I)I"⟩
abbrev cX8_reading : ByteArray := prog_10_method_46_code
def yX8_reading : MethodName := ⟨RX8, "reading", "(III)I"⟩
abbrev cX8_back : ByteArray := prog_10_method_47_code
def yX8_back : MethodName := ⟨RX8, "back", "(I)I"⟩
abbrev cX8_areSo : ByteArray := prog_10_method_48_code
def yX8_areSo : MethodName := ⟨RX8, "areSo", "()Z"⟩
abbrev cX8_leans : ByteArray := prog_10_method_49_code
def yX8_leans : MethodName := ⟨RX8, "leans", "(I)I"⟩
abbrev cX8_kinds : ByteArray := prog_10_method_50_code
def yX8_kinds : MethodName := ⟨RX8, "kinds", "(I)I"⟩
abbrev cX8_creaks : ByteArray := prog_10_method_51_code
def yX8_creaks : MethodName := ⟨RX8, "creaks", "()I"⟩
abbrev cX8_odds : ByteArray := prog_10_method_52_code
def yX8_odds : MethodName := ⟨RX8, "odds", "(III)J"⟩
abbrev cX8_noSheet : ByteArray := prog_10_method_53_code
def yX8_noSheet : MethodName := ⟨RX8, "noSheet", "(I)Z"⟩
abbrev cX8_sheet : ByteArray := prog_10_method_54_code
def yX8_sheet : MethodName := ⟨RX8, "sheet", "(III)I"⟩
abbrev cX8_lose : ByteArray := prog_10_method_55_code
def yX8_lose : MethodName := ⟨RX8, "lose", "(I)I"⟩
abbrev cX8_noCell : ByteArray := prog_10_method_56_code
def yX8_noCell : MethodName := ⟨RX8, "noCell", "(II)I"⟩
abbrev cX8_put : ByteArray := prog_10_method_57_code
def yX8_put : MethodName := ⟨RX8, "put", "(III)I"⟩
abbrev cX8_cell : ByteArray := prog_10_method_58_code
def yX8_cell : MethodName := ⟨RX8, "cell", "(III)J"⟩
abbrev cX8_isBeyond : ByteArray := prog_10_method_59_code
def yX8_isBeyond : MethodName := ⟨RX8, "isBeyond", "(IJI)Z"⟩
abbrev cX8_copy : ByteArray := prog_10_method_60_code
def yX8_copy : MethodName := ⟨RX8, "copy", "(IIIII)I"⟩
abbrev cX8_traced : ByteArray := prog_10_method_61_code
def yX8_traced : MethodName := ⟨RX8, "traced", "(I)V"⟩
abbrev cX8_tell : ByteArray := prog_10_method_62_code
def yX8_tell : MethodName := ⟨RX8, "tell", "(I)I"⟩
abbrev cX8_call : ByteArray := prog_10_method_63_code
def yX8_call : MethodName := ⟨RX8, "call", "(I)I"⟩
abbrev cX8_as : ByteArray := prog_10_method_64_code
def yX8_as : MethodName := ⟨RX8, "as", "(II)I"⟩
abbrev cX8_trace : ByteArray := prog_10_method_65_code
def yX8_trace : MethodName := ⟨RX8, "trace", "()I"⟩
abbrev cX8_fault : ByteArray := prog_10_method_66_code
def yX8_fault : MethodName := ⟨RX8, "fault", "()I"⟩
abbrev cX8_many : ByteArray := prog_10_method_67_code
def yX8_many : MethodName := ⟨RX8, "many", "(I)I"⟩
abbrev cJ6_bitCount_0f7a4 : ByteArray := prog_11_method_49_code
def yJ6_bitCount_0f7a4 : MethodName := ⟨RJ6, "bitCount", "(I)I"⟩
abbrev cL_law : ByteArray := code
abbrev vwCl : List vw_C := [(RX0, TX0, 5), (RX1, TX1, 6), (RX2, TX2, 4), (RX3, TX3, 6), (RX4, TX4, 3), (RX5, TX5, 3), (RX6, TX6, 4), (RX7, TX7, 8), (RX8, TX8, 39)]
def zbytL : List ByteArray := [cX0_init, cX0_finds, cX0_readComings, cX0_gives, cX0_choice, cX0_worthOf, cX0_comingOf, cX0_bestFrom, cX0_setBest, cX0_landGivenTo, cX1_init, cX1_isThere, cX1_begins, cX1_addLand, cX1_addRider, cX1_becomesLike, cX1_riderAt, cX1_isLand, cX1_farOf, cX1_milesOf, cX1_landOf, cX1_landAt, cX1_areInOneLand, cX1_howManyAreInLands, cX1_landsWithAnybody, cX1_whoseEyesAreShut, cX1_passMinute, cX1_comingOf, cX1_milesBehind, cX1_latestComing, cX1_landsComeToBy, cX1_landsReachedBy, cX1_minutesIn, cX2_init, cX2_adds, cX2_areSo, cX2_paceIn, cX2_has, cX3_init, cX3_becomesNew, cX3_becomesLike, cX3_shutsEyes, cX3_looksUp, cX3_passesMinute, cX4_init, cX4_hasNothing, cX4_becomesNothing, cX4_becomesRow, cX4_hasCell, cX4_hasRun, cX4_at, cX4_setCell, cX4_cutToLane, cX4_takesRun, cX5_init, cX5_tells, cX5_acts, cX5_passMinutes, cX6_init, cX6_fills, cX6_fillsLand, cX6_fillsRider, cX6_takesKind, cX6_kindBy, cX6_takesDigit, cX6_takes, cX6_next, cX7_init, cX7_nursery, cX7_ofRider, cX7_far, cX7_wax, cX7_lean, cX7_minutes, cX7_shut, cX7_look, cX7_afternoon, cX7_isAskedOfAfternoon, cX7_refusalOfPairs, cX7_refusalOfPair, cX7_answerOfTale, cX7_milesTold, cX7_comes, cX7_together, cX7_waits, cX7_scouts, cX7_guides, cX7_reading, cX7_back, cX7_leans, cX7_kinds, cX7_creaks, cX7_odds, cX7_greatestDivisor, cX7_sheet, cX7_lose, cX7_put, cX7_cell, cX7_copy, cX7_tell, cX7_childTells, cX7_maidTells, cX7_uncleTells, cX7_call, cX7_isCalledByLentBody, cX7_uncleIsCalled, cX7_leaveInTrace, cX7_as, cX7_trace, cX7_fault, cX7_many, cX7_sheetAt, cX7_isLane, cX7_isOneToNine, cX7_rowFault, cX7_faulted, cX7_paceOf, cX7_quotient, cX8_init, cX8_in, cX8_lost, cX8_isIn, cX8_bits, cX8_share, cX8_refused, cX8_failed, cX8_failedLong, cX8_noRider, cX8_noLand, cX8_codeAt, cX8_figure, cX8_readsLands, cX8_readsRider, cX8_readsNursery, cX8_cellsBarred, cX8_nursery, cX8_paceOf, cX8_landBy, cX8_ofRider, cX8_far, cX8_wax, cX8_lean, cX8_looked, cX8_passes, cX8_minutes, cX8_shuts, cX8_shut, cX8_look, cX8_keepAll, cX8_bringBack, cX8_pairsBarred, cX8_did, cX8_afternoonBy, cX8_afternoon, cX8_comesTo, cX8_comes, cX8_together, cX8_waits, cX8_seenBy, cX8_scouts, cX8_rowBy, cX8_judgesRow, cX8_guides, cX8_reading, cX8_back, cX8_areSo, cX8_leans, cX8_kinds, cX8_creaks, cX8_odds, cX8_noSheet, cX8_sheet, cX8_lose, cX8_noCell, cX8_put, cX8_cell, cX8_isBeyond, cX8_copy, cX8_traced, cX8_tell, cX8_call, cX8_as, cX8_trace, cX8_fault, cX8_many, cJ6_bitCount_0f7a4, cL_law]
def zbyt (i : Nat) : ByteArray := zbytL.getD i cL_law
def zynmL : List MethodName := [yX0_init, yX0_finds, yX0_readComings, yX0_gives, yX0_choice, yX0_worthOf, yX0_comingOf, yX0_bestFrom, yX0_setBest, yX0_landGivenTo, yX1_init, yX1_isThere, yX1_begins, yX1_addLand, yX1_addRider, yX1_becomesLike, yX1_riderAt, yX1_isLand, yX1_farOf, yX1_milesOf, yX1_landOf, yX1_landAt, yX1_areInOneLand, yX1_howManyAreInLands, yX1_landsWithAnybody, yX1_whoseEyesAreShut, yX1_passMinute, yX1_comingOf, yX1_milesBehind, yX1_latestComing, yX1_landsComeToBy, yX1_landsReachedBy, yX1_minutesIn, yX2_init, yX2_adds, yX2_areSo, yX2_paceIn, yX2_has, yX3_init, yX3_becomesNew, yX3_becomesLike, yX3_shutsEyes, yX3_looksUp, yX3_passesMinute, yX4_init, yX4_hasNothing, yX4_becomesNothing, yX4_becomesRow, yX4_hasCell, yX4_hasRun, yX4_at, yX4_setCell, yX4_cutToLane, yX4_takesRun, yX5_init, yX5_tells, yX5_acts, yX5_passMinutes, yX6_init, yX6_fills, yX6_fillsLand, yX6_fillsRider, yX6_takesKind, yX6_kindBy, yX6_takesDigit, yX6_takes, yX6_next, yX7_init, yX7_nursery, yX7_ofRider, yX7_far, yX7_wax, yX7_lean, yX7_minutes, yX7_shut, yX7_look, yX7_afternoon, yX7_isAskedOfAfternoon, yX7_refusalOfPairs, yX7_refusalOfPair, yX7_answerOfTale, yX7_milesTold, yX7_comes, yX7_together, yX7_waits, yX7_scouts, yX7_guides, yX7_reading, yX7_back, yX7_leans, yX7_kinds, yX7_creaks, yX7_odds, yX7_greatestDivisor, yX7_sheet, yX7_lose, yX7_put, yX7_cell, yX7_copy, yX7_tell, yX7_childTells, yX7_maidTells, yX7_uncleTells, yX7_call, yX7_isCalledByLentBody, yX7_uncleIsCalled, yX7_leaveInTrace, yX7_as, yX7_trace, yX7_fault, yX7_many, yX7_sheetAt, yX7_isLane, yX7_isOneToNine, yX7_rowFault, yX7_faulted, yX7_paceOf, yX7_quotient, yX8_init, yX8_in, yX8_lost, yX8_isIn, yX8_bits, yX8_share, yX8_refused, yX8_failed, yX8_failedLong, yX8_noRider, yX8_noLand, yX8_codeAt, yX8_figure, yX8_readsLands, yX8_readsRider, yX8_readsNursery, yX8_cellsBarred, yX8_nursery, yX8_paceOf, yX8_landBy, yX8_ofRider, yX8_far, yX8_wax, yX8_lean, yX8_looked, yX8_passes, yX8_minutes, yX8_shuts, yX8_shut, yX8_look, yX8_keepAll, yX8_bringBack, yX8_pairsBarred, yX8_did, yX8_afternoonBy, yX8_afternoon, yX8_comesTo, yX8_comes, yX8_together, yX8_waits, yX8_seenBy, yX8_scouts, yX8_rowBy, yX8_judgesRow, yX8_guides, yX8_reading, yX8_back, yX8_areSo, yX8_leans, yX8_kinds, yX8_creaks, yX8_odds, yX8_noSheet, yX8_sheet, yX8_lose, yX8_noCell, yX8_put, yX8_cell, yX8_isBeyond, yX8_copy, yX8_traced, yX8_tell, yX8_call, yX8_as, yX8_trace, yX8_fault, yX8_many, yJ6_bitCount_0f7a4, x]
def zynm (i : Nat) : MethodName := zynmL.getD i x
def znLL : List Nat := [1, 4, 5, 4, 7, 5, 4, 4, 5, 2, 2, 1, 2, 2, 5, 5, 2, 2, 2, 2, 2, 5, 6, 4, 5, 4, 4, 4, 3, 6, 5, 4, 5, 1, 4, 8, 3, 2, 1, 4, 2, 1, 1, 1, 1, 1, 1, 4, 2, 3, 2, 3, 2, 5, 1, 6, 4, 3, 4, 4, 4, 5, 2, 1, 3, 2, 1, 2, 8, 4, 2, 3, 5, 4, 3, 4, 9, 1, 6, 3, 3, 3, 4, 4, 5, 5, 2, 4, 2, 5, 5, 3, 7, 3, 5, 3, 5, 5, 8, 3, 2, 2, 3, 3, 2, 1, 2, 4, 1, 1, 2, 2, 1, 1, 2, 2, 2, 2, 2, 6, 0, 2, 3, 11, 2, 2, 2, 2, 2, 3, 7, 6, 6, 4, 6, 7, 3, 5, 3, 2, 3, 4, 2, 3, 3, 3, 2, 3, 2, 2, 6, 4, 7, 8, 5, 3, 6, 6, 5, 5, 4, 8, 4, 4, 2, 3, 5, 5, 4, 7, 1, 5, 3, 3, 4, 4, 4, 7, 2, 4, 2, 3, 1, 1, 2, 1, 4]
def znL (i : Nat) : Nat := znLL.getD i 0
def zrtL : List (Option FieldType) := [(none), (none), (none), (none), (some FieldType.int), (some FieldType.int), (some FieldType.int), (some FieldType.int), (none), (some FieldType.int), (none), (some FieldType.boolean), (none), (none), (none), (none), (some (FieldType.object "RockingRiders$Rider")), (some FieldType.boolean), (some FieldType.int), (some FieldType.int), (some FieldType.int), (some FieldType.int), (some FieldType.boolean), (some FieldType.int), (some FieldType.int), (some FieldType.int), (some FieldType.int), (some FieldType.int), (some FieldType.int), (some FieldType.int), (some FieldType.int), (some FieldType.int), (some FieldType.int), (none), (none), (some FieldType.boolean), (some FieldType.int), (some FieldType.boolean), (none), (none), (none), (none), (none), (some FieldType.boolean), (none), (some FieldType.boolean), (none), (none), (some FieldType.boolean), (some FieldType.boolean), (some FieldType.int), (none), (some FieldType.int), (none), (none), (some FieldType.int), (some FieldType.boolean), (none), (none), (some FieldType.boolean), (some FieldType.boolean), (some FieldType.boolean), (some FieldType.int), (some FieldType.int), (some FieldType.int), (some FieldType.boolean), (some FieldType.int), (none), (some FieldType.int), (some FieldType.int), (some FieldType.int), (some FieldType.int), (some FieldType.int), (some FieldType.int), (some FieldType.int), (some FieldType.int), (some FieldType.int), (some FieldType.boolean), (some FieldType.int), (some FieldType.int), (some FieldType.int), (some FieldType.int), (some FieldType.int), (some FieldType.int), (some FieldType.int), (some FieldType.int), (some FieldType.int), (some FieldType.int), (some FieldType.int), (some FieldType.int), (some FieldType.int), (some FieldType.int), (some FieldType.long), (some FieldType.int), (some FieldType.int), (some FieldType.int), (some FieldType.int), (some FieldType.long), (some FieldType.int), (some FieldType.int), (some FieldType.int), (some FieldType.int), (some FieldType.int), (some FieldType.int), (some FieldType.int), (some FieldType.int), (none), (some FieldType.int), (some FieldType.int), (some FieldType.int), (some FieldType.int), (some (FieldType.object "RockingRiders$Sheet")), (some FieldType.boolean), (some FieldType.boolean), (some FieldType.int), (some FieldType.int), (some FieldType.int), (some FieldType.int), (none), (some FieldType.boolean), (some FieldType.long), (some FieldType.boolean), (some FieldType.int), (some FieldType.long), (some FieldType.int), (some FieldType.int), (some FieldType.long), (some FieldType.boolean), (some FieldType.boolean), (some FieldType.int), (some FieldType.int), (some FieldType.boolean), (some FieldType.boolean), (some FieldType.boolean), (some FieldType.int), (some FieldType.int), (some FieldType.int), (some FieldType.int), (some FieldType.int), (some FieldType.int), (some FieldType.int), (some FieldType.int), (none), (none), (some FieldType.int), (some FieldType.boolean), (some FieldType.int), (some FieldType.int), (none), (none), (some FieldType.int), (some FieldType.boolean), (some FieldType.int), (some FieldType.int), (some FieldType.int), (some FieldType.int), (some FieldType.int), (some FieldType.int), (some FieldType.int), (some FieldType.int), (none), (none), (some FieldType.int), (some FieldType.int), (some FieldType.int), (some FieldType.boolean), (some FieldType.int), (some FieldType.int), (some FieldType.int), (some FieldType.long), (some FieldType.boolean), (some FieldType.int), (some FieldType.int), (some FieldType.int), (some FieldType.int), (some FieldType.long), (some FieldType.boolean), (some FieldType.int), (none), (some FieldType.int), (some FieldType.int), (some FieldType.int), (some FieldType.int), (some FieldType.int), (some FieldType.int), (some FieldType.int), ret]
def zrt (i : Nat) : Option FieldType := zrtL.getD i none
def zownL : List Nat := [0, 0, 0, 0, 0, 0, 0, 0, 0, 0, 1, 1, 1, 1, 1, 1, 1, 1, 1, 1, 1, 1, 1, 1, 1, 1, 1, 1, 1, 1, 1, 1, 1, 2, 2, 2, 2, 2, 3, 3, 3, 3, 3, 3, 4, 4, 4, 4, 4, 4, 4, 4, 4, 4, 5, 5, 5, 5, 6, 6, 6, 6, 6, 6, 6, 6, 6, 7, 7, 7, 7, 7, 7, 7, 7, 7, 7, 7, 7, 7, 7, 7, 7, 7, 7, 7, 7, 7, 7, 7, 7, 7, 7, 7, 7, 7, 7, 7, 7, 7, 7, 7, 7, 7, 7, 7, 7, 7, 7, 7, 7, 7, 7, 7, 7, 7, 7, 7, 8, 8, 8, 8, 8, 8, 8, 8, 8, 8, 8, 8, 8, 8, 8, 8, 8, 8, 8, 8, 8, 8, 8, 8, 8, 8, 8, 8, 8, 8, 8, 8, 8, 8, 8, 8, 8, 8, 8, 8, 8, 8, 8, 8, 8, 8, 8, 8, 8, 8, 8, 8, 8, 8, 8, 8, 8, 8, 8, 8, 8, 8, 8, 8, 8, 8, 8, 9, 12]
def zown (i : Nat) : Nat := zownL.getD i 0
def zcnL : List String := [RX0, RX1, RX2, RX3, RX4, RX5, RX6, RX7, RX8, RJ6, RJ9, RJ10, RL]
def zcn (i : Nat) : String := zcnL.getD i ""
def znpL : List Nat := [0, 1, 1, 0, 2, 3, 2, 2, 3, 1, 0, 0, 1, 1, 3, 1, 1, 1, 1, 1, 1, 1, 2, 0, 0, 0, 0, 2, 2, 1, 1, 1, 2, 0, 3, 5, 2, 1, 0, 3, 1, 0, 0, 0, 0, 0, 0, 2, 1, 2, 1, 2, 1, 4, 0, 4, 2, 1, 3, 1, 1, 1, 0, 1, 1, 1, 0, 0, 4, 2, 1, 1, 2, 1, 1, 1, 5, 1, 3, 2, 2, 1, 2, 2, 2, 0, 1, 3, 1, 1, 1, 0, 3, 2, 3, 1, 3, 3, 5, 1, 1, 1, 1, 1, 1, 0, 1, 2, 0, 0, 1, 1, 1, 1, 2, 1, 2, 2, 0, 3, 0, 2, 1, 3, 1, 1, 1, 1, 1, 2, 4, 2, 2, 2, 4, 4, 1, 1, 2, 1, 1, 2, 1, 0, 1, 1, 1, 1, 0, 0, 2, 2, 3, 5, 2, 2, 2, 2, 1, 0, 1, 0, 1, 3, 1, 0, 1, 1, 0, 3, 1, 3, 1, 2, 3, 3, 3, 5, 1, 1, 1, 2, 0, 0, 1, 1, 1]
def znp (i : Nat) : Nat := znpL.getD i 0
def zhlL : List Bool := [false, false, false, false, false, false, false, false, false, false, false, false, false, false, false, false, false, false, false, false, false, false, false, false, false, false, false, false, false, false, false, false, false, false, false, false, false, false, false, false, false, false, false, false, false, false, false, false, false, false, false, false, false, false, false, false, false, false, false, false, false, false, false, false, false, false, false, false, false, false, false, false, false, false, false, false, false, false, false, false, false, false, false, false, false, false, false, false, false, false, false, false, false, false, false, false, false, false, false, false, false, false, false, false, false, false, false, false, false, false, false, false, false, false, false, false, false, false, false, true, false, false, false, true, false, false, false, false, false, false, false, false, false, false, true, false, false, false, false, false, false, false, false, false, false, false, false, false, false, false, false, false, false, false, false, false, false, false, false, false, false, false, false, false, false, false, false, false, false, true, false, false, false, false, false, false, true, false, false, false, false, false, false, false, false, false, false]
def zhl (i : Nat) : Bool := zhlL.getD i false
def ziniL : List Bool := [true, false, false, false, false, false, false, false, false, false, true, false, false, false, false, false, false, false, false, false, false, false, false, false, false, false, false, false, false, false, false, false, false, true, false, false, false, false, true, false, false, false, false, false, true, false, false, false, false, false, false, false, false, false, true, false, false, false, true, false, false, false, false, false, false, false, false, true, false, false, false, false, false, false, false, false, false, false, false, false, false, false, false, false, false, false, false, false, false, false, false, false, false, false, false, false, false, false, false, false, false, false, false, false, false, false, false, false, false, false, false, false, false, false, false, false, false, false, true, false, false, false, false, false, false, false, false, false, false, false, false, false, false, false, false, false, false, false, false, false, false, false, false, false, false, false, false, false, false, false, false, false, false, false, false, false, false, false, false, false, false, false, false, false, false, false, false, false, false, false, false, false, false, false, false, false, false, false, false, false, false, false, false, false, false, false, false]
def zini (i : Nat) : Bool := ziniL.getD i false
def zTL : List u_T := [TX0, TX1, TX2, TX3, TX4, TX5, TX6, TX7, TX8, TJ6, TJ9, TJ10]
def zT (i : Nat) : u_T := zTL.getD i TX0
def zNL : List Nat := [5, 6, 4, 6, 3, 3, 4, 8, 39, 1, 1, 1]
def zN (i : Nat) : Nat := zNL.getD i 0
def zfrL : List Nat := [1, 4, 3, 3, 2, 1, 0, 0, 0, 0, 2, 0, 0, 0, 2, 1, 0, 0, 1, 1, 2, 0, 3, 3, 2, 1, 2, 2, 1, 3, 4, 3, 2, 1, 1, 2, 1, 0, 1, 1, 0, 0, 0, 1, 1, 0, 0, 1, 0, 0, 1, 1, 0, 1, 3, 5, 4, 3, 1, 5, 4, 4, 3, 0, 3, 3, 2, 4, 6, 3, 2, 1, 1, 3, 2, 3, 6, 0, 2, 1, 4, 2, 3, 4, 4, 5, 5, 2, 0, 3, 3, 3, 3, 0, 2, 1, 2, 2, 2, 4, 1, 2, 3, 2, 1, 1, 0, 1, 0, 0, 2, 0, 0, 0, 1, 0, 0, 0, 1, 0, 0, 0, 0, 0, 0, 0, 1, 1, 1, 0, 1, 2, 2, 3, 1, 4, 0, 0, 2, 2, 1, 2, 0, 1, 2, 1, 2, 2, 0, 0, 2, 2, 3, 4, 1, 2, 2, 2, 2, 3, 0, 2, 3, 2, 1, 1, 2, 2, 2, 2, 1, 2, 2, 1, 2, 2, 0, 2, 0, 2, 2, 2, 0, 0, 1, 0, 7]
def zfr (i : Nat) : Nat := zfrL.getD i 0
def zloL : List Nat := [20, 96, 66, 73, 47, 23, 0, 0, 0, 0, 40, 0, 0, 0, 43, 21, 0, 0, 21, 21, 42, 0, 63, 63, 42, 21, 41, 43, 21, 66, 89, 66, 43, 20, 21, 43, 21, 0, 20, 20, 0, 0, 0, 21, 20, 0, 0, 60, 0, 0, 21, 21, 0, 60, 61, 111, 88, 66, 20, 108, 84, 84, 62, 0, 62, 62, 42, 81, 131, 63, 42, 20, 21, 64, 44, 63, 136, 0, 43, 21, 86, 42, 66, 88, 91, 113, 119, 44, 0, 70, 70, 70, 67, 0, 83, 21, 43, 42, 84, 85, 21, 42, 63, 42, 21, 21, 0, 21, 0, 0, 44, 0, 0, 0, 20, 0, 0, 0, 20, 0, 0, 0, 0, 0, 0, 0, 19, 25, 25, 0, 25, 51, 51, 76, 23, 99, 0, 0, 46, 46, 25, 46, 0, 24, 46, 21, 46, 46, 0, 0, 46, 46, 69, 95, 22, 46, 46, 46, 46, 70, 0, 46, 73, 46, 25, 22, 46, 46, 44, 46, 25, 45, 45, 25, 47, 47, 0, 45, 0, 46, 46, 46, 0, 0, 22, 0, 164]
def zlo (i : Nat) : Nat := zloL.getD i 0
def zflT : List (Nat × Nat × Nat × Nat × Nat) := [(3, 7, 3, 0, 93), (7, 99, 3, 0, 94), (2, 46, 3, 0, 95), (1, 87, 3, 0, 96), (3, 13, 3, 1, 97), (7, 104, 3, 1, 98), (2, 51, 3, 1, 99), (1, 90, 3, 1, 100), (3, 16, 3, 2, 101), (7, 107, 3, 2, 102), (1, 77, 3, 2, 103), (3, 22, 3, 3, 104), (7, 114, 3, 3, 105), (1, 47, 3, 3, 106), (3, 25, 3, 4, 107), (7, 128, 3, 4, 108), (5, 47, 3, 5, 109), (3, 28, 3, 5, 110), (7, 124, 3, 5, 111), (1, 69, 3, 5, 112), (1, 9, 1, 0, 127), (1, 17, 1, 1, 128), (1, 22, 1, 2, 129), (7, 144, 1, 2, 130), (1, 26, 1, 3, 131), (7, 289, 1, 3, 132), (7, 92, 1, 4, 133), (1, 29, 1, 4, 134), (1, 32, 1, 5, 135), (7, 292, 1, 5, 136), (5, 12, 5, 0, 158), (7, 185, 5, 0, 159), (5, 22, 5, 1, 160), (7, 194, 5, 1, 161), (5, 26, 5, 2, 162), (7, 191, 5, 2, 163), (2, 9, 2, 0, 177), (2, 15, 2, 1, 178), (2, 18, 2, 2, 179), (2, 21, 2, 3, 180), (7, 89, 2, 3, 181), (0, 9, 0, 0, 197), (0, 15, 0, 1, 198), (0, 18, 0, 2, 199), (0, 54, 0, 3, 200), (7, 216, 0, 3, 201), (0, 58, 0, 4, 202), (7, 219, 0, 4, 203), (4, 9, 4, 0, 222), (4, 15, 4, 1, 223), (7, 260, 4, 1, 224), (4, 19, 4, 2, 225), (7, 12, 7, 0, 233), (7, 18, 7, 1, 234), (7, 24, 7, 2, 235), (7, 31, 7, 3, 236), (7, 38, 7, 4, 237), (7, 44, 7, 5, 238), (7, 286, 7, 6, 239), (7, 49, 7, 7, 240), (6, 9, 6, 0, 290), (6, 15, 6, 1, 291), (6, 19, 6, 2, 292), (6, 47, 6, 3, 293), (7, 82, 6, 3, 294), (8, 75, 8, 0, 757), (8, 90, 8, 1, 758), (8, 83, 8, 2, 759), (8, 146, 8, 3, 760), (8, 149, 8, 4, 761), (8, 152, 8, 5, 762), (8, 7, 8, 6, 763), (8, 13, 8, 7, 764), (8, 16, 8, 8, 765), (8, 19, 8, 9, 766), (8, 22, 8, 10, 767), (8, 25, 8, 11, 768), (8, 93, 8, 12, 769), (8, 112, 8, 13, 770), (8, 102, 8, 14, 771), (8, 109, 8, 15, 772), (8, 28, 8, 16, 773), (8, 31, 8, 17, 774), (8, 34, 8, 18, 775), (8, 37, 8, 19, 776), (8, 170, 8, 20, 777), (8, 180, 8, 21, 778), (8, 194, 8, 22, 779), (8, 197, 8, 23, 780), (8, 40, 8, 24, 781), (8, 43, 8, 25, 782), (8, 46, 8, 26, 783), (8, 49, 8, 27, 784), (8, 230, 8, 28, 785), (8, 233, 8, 29, 786), (8, 155, 8, 30, 787), (8, 52, 8, 31, 788), (8, 55, 8, 32, 789), (8, 58, 8, 33, 790), (8, 61, 8, 34, 791), (8, 64, 8, 35, 792), (8, 67, 8, 36, 793), (8, 70, 8, 37, 794), (8, 263, 8, 38, 795)]
def zclT : List (Nat × Nat × Nat × Nat × Nat × Nat × Nat × Nat × Nat × Nat) := [(7, 11, 10, 2, 0, 82, 83, 0, 61, 84), (7, 23, 54, 2, 0, 152, 153, 0, 63, 154), (7, 30, 33, 2, 0, 173, 174, 0, 64, 175), (7, 37, 0, 2, 0, 193, 194, 0, 65, 195), (7, 48, 44, 2, 0, 218, 219, 0, 66, 220), (7, 53, 111, 0, 0, 262, 264, 0, 60, 265), (7, 57, 112, 1, 0, 266, 267, 0, 60, 268), (7, 61, 114, 1, 0, 269, 270, 0, 60, 271), (7, 65, 49, 0, 0, 276, 277, 278, 66, 279), (7, 69, 115, 0, 0, 280, 282, 1, 60, 283), (7, 75, 58, 2, 0, 286, 287, 0, 68, 288), (7, 78, 59, 0, 0, 304, 305, 306, 68, 307), (7, 85, 15, 0, 0, 363, 364, 365, 61, 366), (7, 95, 16, 0, 0, 375, 376, 377, 61, 378), (7, 110, 116, 1, 0, 379, 380, 0, 60, 381), (7, 117, 19, 0, 0, 382, 383, 384, 61, 385), (7, 121, 20, 0, 0, 389, 390, 391, 61, 392), (7, 131, 17, 0, 0, 402, 403, 404, 61, 405), (7, 134, 18, 0, 0, 406, 407, 408, 61, 409), (7, 137, 11, 0, 0, 415, 416, 417, 61, 418), (7, 141, 113, 1, 0, 419, 420, 0, 60, 421), (7, 147, 26, 0, 0, 430, 431, 432, 61, 433), (7, 151, 41, 0, 0, 444, 445, 446, 62, 447), (7, 154, 25, 0, 0, 448, 449, 450, 61, 451), (7, 157, 185, 1, 0, 452, 453, 0, 69, 454), (7, 162, 42, 0, 0, 462, 360, 361, 62, 362), (7, 165, 77, 1, 0, 467, 468, 0, 60, 469), (7, 168, 78, 0, 0, 470, 472, 8, 60, 473), (7, 172, 55, 0, 0, 479, 480, 481, 63, 482), (7, 176, 80, 0, 0, 501, 503, 12, 60, 504), (7, 179, 50, 0, 0, 474, 317, 318, 66, 319), (7, 182, 79, 0, 0, 475, 477, 9, 60, 478), (7, 188, 23, 0, 0, 505, 506, 507, 61, 508), (7, 197, 81, 0, 0, 510, 512, 13, 60, 513), (7, 200, 27, 0, 0, 518, 519, 520, 61, 521), (7, 204, 22, 0, 0, 532, 533, 534, 61, 535), (7, 207, 29, 0, 0, 540, 541, 542, 61, 543), (7, 210, 30, 0, 0, 552, 553, 554, 61, 555), (7, 213, 1, 0, 0, 564, 565, 566, 65, 567), (7, 222, 9, 0, 0, 599, 600, 601, 65, 602), (7, 225, 34, 0, 0, 607, 608, 609, 64, 610), (7, 229, 35, 0, 0, 623, 624, 625, 64, 626), (7, 235, 32, 0, 0, 646, 647, 648, 61, 649), (7, 238, 93, 1, 0, 650, 651, 0, 60, 652), (7, 241, 117, 1, 0, 653, 387, 0, 60, 388), (7, 244, 47, 0, 0, 658, 659, 660, 66, 661), (7, 248, 45, 0, 0, 272, 273, 274, 66, 275), (7, 251, 46, 0, 0, 670, 671, 672, 66, 673), (7, 254, 48, 0, 0, 678, 321, 322, 66, 323), (7, 257, 51, 0, 0, 679, 680, 681, 66, 682), (7, 263, 53, 0, 0, 695, 696, 697, 66, 698), (7, 267, 102, 0, 0, 707, 709, 25, 60, 710), (7, 270, 101, 0, 0, 715, 717, 27, 60, 718), (7, 273, 100, 0, 0, 719, 721, 28, 60, 722), (7, 276, 106, 0, 0, 711, 713, 26, 60, 714), (7, 280, 105, 0, 0, 727, 729, 29, 60, 730), (7, 283, 104, 0, 0, 731, 733, 30, 60, 734), (0, 21, 2, 0, 0, 568, 570, 16, 65, 571), (0, 25, 4, 0, 0, 575, 577, 17, 65, 578), (0, 29, 5, 0, 0, 579, 581, 18, 65, 582), (0, 33, 8, 0, 0, 591, 593, 21, 65, 594), (0, 37, 3, 0, 0, 595, 597, 22, 65, 598), (0, 40, 16, 0, 0, 572, 376, 377, 61, 378), (0, 46, 17, 0, 0, 573, 403, 404, 61, 405), (0, 50, 27, 0, 0, 574, 519, 520, 61, 521), (0, 61, 6, 0, 0, 587, 589, 20, 65, 590), (0, 63, 7, 0, 0, 583, 585, 19, 65, 586), (1, 21, 38, 2, 1, 89, 90, 0, 62, 91), (1, 35, 39, 0, 0, 355, 356, 357, 62, 358), (1, 39, 40, 0, 0, 367, 368, 369, 62, 370), (1, 43, 17, 0, 0, 410, 403, 404, 61, 405), (1, 50, 117, 1, 1, 386, 387, 0, 60, 388), (1, 54, 19, 0, 0, 393, 383, 384, 61, 385), (1, 58, 21, 0, 0, 394, 395, 396, 61, 397), (1, 62, 16, 0, 0, 434, 376, 377, 61, 378), (1, 66, 20, 0, 0, 509, 390, 391, 61, 392), (1, 73, 43, 0, 0, 435, 436, 437, 62, 438), (1, 80, 28, 0, 0, 522, 524, 14, 61, 525), (1, 84, 18, 0, 0, 527, 407, 408, 61, 409), (1, 93, 116, 1, 1, 526, 380, 0, 60, 381), (1, 96, 27, 0, 0, 544, 519, 520, 61, 521), (1, 104, 31, 0, 0, 556, 558, 15, 61, 559), (2, 25, 37, 0, 0, 611, 613, 23, 64, 614), (2, 29, 116, 1, 1, 627, 380, 0, 60, 381), (2, 33, 36, 1, 0, 628, 629, 0, 64, 630), (2, 37, 117, 1, 1, 632, 387, 0, 60, 388), (2, 40, 16, 0, 0, 631, 376, 377, 61, 378), (3, 19, 42, 0, 0, 359, 360, 361, 62, 362), (3, 32, 116, 1, 1, 439, 380, 0, 60, 381), (4, 31, 48, 0, 0, 320, 321, 322, 66, 323), (4, 35, 52, 0, 0, 683, 685, 24, 66, 686), (4, 39, 49, 0, 0, 699, 277, 278, 66, 279), (5, 11, 10, 2, 0, 157, 83, 0, 61, 84), (5, 18, 15, 0, 0, 483, 364, 365, 61, 366), (5, 29, 50, 0, 0, 484, 317, 318, 66, 319), (5, 35, 56, 0, 0, 485, 487, 10, 63, 488), (5, 39, 57, 0, 0, 489, 491, 11, 63, 492), (5, 43, 16, 0, 0, 498, 376, 377, 61, 378), (5, 53, 42, 0, 0, 499, 360, 361, 62, 362), (5, 56, 41, 0, 0, 500, 445, 446, 62, 447), (5, 59, 26, 0, 0, 493, 431, 432, 61, 433), (5, 63, 24, 0, 0, 494, 495, 496, 61, 497), (6, 22, 65, 0, 0, 308, 310, 2, 68, 311), (6, 26, 64, 0, 0, 324, 326, 4, 68, 327), (6, 30, 12, 0, 0, 328, 329, 330, 61, 331), (6, 36, 66, 0, 0, 312, 314, 3, 68, 315), (6, 40, 60, 0, 0, 332, 334, 5, 68, 335), (6, 44, 61, 0, 0, 340, 342, 6, 68, 343), (6, 50, 13, 0, 0, 336, 337, 338, 61, 339), (6, 53, 62, 0, 0, 344, 346, 7, 68, 347), (6, 56, 14, 0, 0, 351, 352, 353, 61, 354), (6, 60, 63, 1, 0, 348, 349, 0, 68, 350), (6, 63, 50, 0, 0, 316, 317, 318, 66, 319), (12, 9, 67, 2, 0, 74, 75, 0, 60, 76), (12, 12, 118, 2, 0, 753, 754, 0, 67, 755), (12, 13, 68, 0, 0, 258, 259, 260, 60, 261), (12, 17, 135, 0, 0, 875, 876, 877, 67, 878), (12, 18, 69, 0, 0, 371, 372, 373, 60, 374), (12, 22, 138, 0, 0, 923, 924, 925, 67, 926), (12, 23, 70, 0, 0, 398, 399, 400, 60, 401), (12, 27, 139, 0, 0, 939, 940, 941, 67, 942), (12, 28, 71, 0, 0, 411, 412, 413, 60, 414), (12, 31, 140, 0, 0, 947, 948, 949, 67, 950), (12, 32, 72, 0, 0, 422, 423, 424, 60, 425), (12, 35, 141, 0, 0, 951, 952, 953, 67, 954), (12, 36, 73, 0, 0, 426, 427, 428, 60, 429), (12, 39, 144, 0, 0, 955, 956, 957, 67, 958), (12, 40, 74, 0, 0, 440, 441, 442, 60, 443), (12, 43, 146, 0, 0, 971, 972, 973, 67, 974), (12, 44, 75, 0, 0, 458, 459, 460, 60, 461), (12, 47, 147, 0, 0, 982, 983, 984, 67, 985), (12, 48, 76, 0, 0, 463, 464, 465, 60, 466), (12, 52, 153, 0, 0, 986, 987, 988, 67, 989), (12, 53, 82, 0, 0, 514, 515, 516, 60, 517), (12, 56, 155, 0, 0, 1014, 1015, 1016, 67, 1017), (12, 57, 83, 0, 0, 528, 529, 530, 60, 531), (12, 60, 156, 0, 0, 1022, 1023, 1024, 67, 1025), (12, 61, 84, 0, 0, 536, 537, 538, 60, 539), (12, 64, 157, 0, 0, 1026, 1027, 1028, 67, 1029), (12, 65, 85, 0, 0, 548, 549, 550, 60, 551), (12, 69, 159, 0, 0, 1030, 1031, 1032, 67, 1033), (12, 70, 86, 0, 0, 560, 561, 562, 60, 563), (12, 73, 162, 0, 0, 1038, 1039, 1040, 67, 1041), (12, 74, 87, 0, 0, 603, 604, 605, 60, 606), (12, 78, 163, 0, 0, 1051, 1052, 1053, 67, 1054), (12, 79, 88, 0, 0, 615, 616, 617, 60, 618), (12, 82, 164, 0, 0, 1056, 1057, 1058, 67, 1059), (12, 83, 89, 0, 0, 619, 620, 621, 60, 622), (12, 86, 166, 0, 0, 1060, 1061, 1062, 67, 1063), (12, 87, 90, 0, 0, 633, 634, 635, 60, 636), (12, 90, 167, 0, 0, 1068, 1069, 1070, 67, 1071), (12, 91, 91, 0, 0, 637, 638, 639, 60, 640), (12, 94, 168, 0, 0, 1072, 1073, 1074, 67, 1075), (12, 95, 92, 0, 0, 641, 642, 643, 60, 644), (12, 99, 169, 0, 0, 1076, 1077, 1078, 67, 1079), (12, 100, 94, 0, 0, 654, 655, 656, 60, 657), (12, 103, 171, 0, 0, 1087, 1088, 1089, 67, 1090), (12, 104, 95, 0, 0, 666, 667, 668, 60, 669), (12, 107, 172, 0, 0, 1091, 1092, 1093, 67, 1094), (12, 108, 96, 0, 0, 674, 675, 676, 60, 677), (12, 111, 174, 0, 0, 1095, 1096, 1097, 67, 1098), (12, 112, 97, 0, 0, 687, 688, 689, 60, 690), (12, 115, 175, 0, 0, 1103, 1104, 1105, 67, 1106), (12, 116, 98, 0, 0, 691, 692, 693, 60, 694), (12, 119, 177, 0, 0, 1111, 1112, 1113, 67, 1114), (12, 120, 99, 0, 0, 703, 704, 705, 60, 706), (12, 123, 179, 0, 0, 1115, 1116, 1117, 67, 1118), (12, 124, 103, 0, 0, 723, 724, 725, 60, 726), (12, 127, 180, 0, 0, 1123, 1124, 1125, 67, 1126), (12, 128, 107, 0, 0, 735, 736, 737, 60, 738), (12, 131, 181, 0, 0, 1127, 1128, 1129, 67, 1130), (12, 132, 108, 0, 0, 739, 740, 741, 60, 742), (12, 135, 182, 0, 0, 1131, 1132, 1133, 67, 1134), (12, 136, 109, 0, 0, 743, 744, 745, 60, 746), (12, 139, 183, 0, 0, 1135, 1136, 1137, 67, 1138), (12, 140, 110, 0, 0, 747, 748, 749, 60, 750), (12, 143, 184, 0, 0, 1139, 1140, 1141, 67, 1142), (8, 79, 120, 1, 0, 1080, 1081, 0, 67, 1082), (8, 86, 119, 1, 0, 883, 884, 0, 67, 885), (8, 96, 129, 0, 0, 906, 908, 35, 67, 909), (8, 105, 130, 0, 0, 910, 912, 36, 67, 913), (8, 115, 131, 0, 0, 915, 917, 37, 67, 918), (8, 119, 132, 0, 0, 919, 921, 38, 67, 922), (8, 122, 125, 0, 0, 895, 897, 33, 67, 898), (8, 126, 176, 1, 0, 899, 900, 0, 67, 901), (8, 130, 170, 1, 0, 879, 880, 0, 67, 881), (8, 134, 124, 0, 0, 886, 888, 31, 67, 889), (8, 139, 134, 0, 0, 891, 893, 32, 67, 894), (8, 143, 133, 0, 0, 902, 904, 34, 67, 905), (8, 158, 127, 0, 0, 927, 929, 39, 67, 930), (8, 161, 136, 0, 0, 931, 933, 40, 67, 934), (8, 164, 137, 0, 0, 935, 937, 41, 67, 938), (8, 167, 128, 0, 0, 943, 945, 42, 67, 946), (8, 173, 121, 1, 0, 964, 965, 0, 67, 966), (8, 176, 142, 0, 0, 967, 969, 44, 67, 970), (8, 185, 143, 0, 0, 960, 962, 43, 67, 963), (8, 188, 145, 0, 0, 975, 977, 45, 67, 978), (8, 191, 122, 1, 0, 979, 980, 0, 67, 981), (8, 202, 151, 0, 0, 1006, 1008, 49, 67, 1009), (8, 211, 150, 0, 0, 994, 996, 46, 67, 997), (8, 214, 148, 0, 0, 998, 1000, 47, 67, 1001), (8, 217, 152, 0, 0, 1002, 1004, 48, 67, 1005), (8, 221, 149, 0, 0, 1010, 1012, 50, 67, 1013), (8, 224, 154, 0, 0, 1018, 1020, 51, 67, 1021), (8, 227, 158, 0, 0, 1034, 1036, 52, 67, 1037), (8, 238, 160, 0, 0, 1043, 1045, 53, 67, 1046), (8, 241, 161, 0, 0, 1047, 1049, 54, 67, 1050), (8, 246, 165, 0, 0, 1064, 1066, 55, 67, 1067), (8, 250, 123, 1, 0, 1084, 1085, 0, 67, 1086), (8, 256, 173, 0, 0, 1099, 1101, 56, 67, 1102), (8, 259, 126, 0, 0, 1107, 1109, 57, 67, 1110), (8, 266, 178, 0, 0, 1119, 1121, 58, 67, 1122)]
def ziT : List (Nat × Nat × Nat) := [(7, 3, 77), (0, 3, 196), (1, 3, 85), (2, 3, 176), (3, 1, 92), (4, 3, 221), (5, 3, 155), (6, 3, 289), (8, 1, 756)]
def zacT : List (Nat × Nat × Nat × Nat × Nat × Nat) := [(4, 43, 700, 701, 71, 702)]
def zncT : List (Nat × Nat × Nat × Nat) := [(12, 7, 7, 72), (7, 9, 1, 80), (1, 15, 3, 86), (7, 21, 5, 150), (5, 9, 1, 156), (7, 28, 2, 171), (7, 35, 0, 191), (7, 42, 4, 215), (7, 73, 6, 284), (12, 10, 8, 751)]
def zmmT : List (Nat × Nat × Nat × Nat × Nat × Nat × Nat) := [(1, 99, 0, 545, 546, 70, 547), (4, 22, 1, 662, 663, 70, 664), (4, 28, 0, 665, 546, 70, 547)]
def zclcT : List (Nat × Nat × Int64 × Nat) := [(7, 233, (-9223372036854775808 : Int64), 645), (8, 254, (3 : Int64), 882), (8, 137, (2 : Int64), 890), (8, 100, (9 : Int64), 914), (8, 183, (99 : Int64), 959), (8, 200, (20 : Int64), 990), (8, 205, (4 : Int64), 991), (8, 207, (10 : Int64), 992), (8, 209, (14 : Int64), 993), (8, 236, (-2 : Int64), 1042), (8, 244, (400 : Int64), 1055), (8, 73, (-9223372036854775808 : Int64), 1083)]
def zcicT : List (Nat × Nat × Int32 × Nat) := [(9, 265, (1431655765 : Int32), 455), (9, 266, (858993459 : Int32), 456), (9, 267, (252645135 : Int32), 457)]
def zfl (o i : Nat) : Option (Nat × Nat) := (zflT.find? (fun e => e.1 == o && e.2.1 == i)).map (fun e => (e.2.2.1, e.2.2.2.1))
def zcl (o i : Nat) : Option Nat := (zclT.find? (fun e => e.1 == o && e.2.1 == i)).map (fun e => e.2.2.1)
def zoi (o i : Nat) : Bool := ziT.any (fun e => e.1 == o && e.2.1 == i)
def zac (o i : Nat) : Bool := zacT.any (fun e => e.1 == o && e.2.1 == i)
def zmm (o i : Nat) : Option Nat := (zmmT.find? (fun e => e.1 == o && e.2.1 == i)).map (fun e => e.2.2.1)
def znc (o i : Nat) : Option Nat := (zncT.find? (fun e => e.1 == o && e.2.1 == i)).map (fun e => e.2.2.1)
def zcL (o i : Nat) : Option Int64 := (zclcT.find? (fun e => e.1 == o && e.2.1 == i)).map (fun e => e.2.2.1)
def zcI (o i : Nat) : Option Int32 := (zcicT.find? (fun e => e.1 == o && e.2.1 == i)).map (fun e => e.2.2.1)
/-- the word at a place of the tables' words -/
def zw (j : Nat) : Option Jvm.Cond := lw_tbl[j]?
theorem zw_mem {j : Nat} {w : Jvm.Cond} (h : zw j = some w) : w ∈ lw_tbl := List.mem_of_getElem? h
def znest : List Jvm.Cond := [.methodLinkNest (zcn 1) 21 (zynm 38) RX7, .methodLinkNest (zcn 1) 50 (zynm 117) RX7, .methodLinkNest (zcn 1) 93 (zynm 116) RX7, .methodLinkNest (zcn 2) 29 (zynm 116) RX7, .methodLinkNest (zcn 2) 37 (zynm 117) RX7, .methodLinkNest (zcn 3) 32 (zynm 116) RX7]
theorem zflT_ok : ∀ e ∈ zflT, zw e.2.2.2.2 = some (.fieldLink (zcn e.1) e.2.1 ((zT e.2.2.1) e.2.2.2.1).1 ((zT e.2.2.1) e.2.2.2.1).2.1 ((zT e.2.2.1) e.2.2.2.1).2.2.1) ∧ e.2.2.2.1 < zN e.2.2.1 ∧ e.2.2.1 < 9 := by decide +kernel
theorem zvw : ∀ ci, ci < 9 → vwCl[ci]? = some (zcn ci, zT ci, zN ci) := by
  intro ci h
  match ci, h with
  | 0, _ => rfl
  | 1, _ => rfl
  | 2, _ => rfl
  | 3, _ => rfl
  | 4, _ => rfl
  | 5, _ => rfl
  | 6, _ => rfl
  | 7, _ => rfl
  | 8, _ => rfl
theorem ziT_ok : ∀ e ∈ ziT, zw e.2.2 = some (.methodLink (zcn e.1) e.2.1 objectInit) := by decide +kernel
theorem zacT_ok : ∀ e ∈ zacT, zw e.2.2.1 = some (.methodLink (zcn e.1) e.2.1 arraycopyName) ∧ zw e.2.2.2.1 = some (.static arraycopyName) ∧ zw e.2.2.2.2.1 = some (.initialized "java/lang/System") := by decide +kernel
theorem zclcT_ok : ∀ e ∈ zclcT, zw e.2.2.2 = some (.constantLong (zcn e.1) e.2.1 e.2.2.1) := by decide +kernel
theorem zcicT_ok : ∀ e ∈ zcicT, zw e.2.2.2 = some (.constant (zcn e.1) e.2.1 e.2.2.1) := by decide +kernel
theorem zncT_ok : ∀ e ∈ zncT, zw e.2.2.2 = some (.classLink (zcn e.1) e.2.1 (zcn e.2.2.1)) ∧ e.2.2.1 < 9 := by decide +kernel
theorem zobj_ok : zw 78 = some (.instanceMethod objectInit) ∧ zw 79 = some (.code objectInit ⟨#[0xb1]⟩ 1 none) := by decide +kernel
def zinsL : List Nat := [192, 81, 172, 88, 217, 151, 285, 73, 752]
theorem zins_ok : ∀ ci, ci < 9 → zw (zinsL.getD ci 0) = some (.instantiable (zcn ci) (zN ci)) := by decide +kernel
def zntL : List Nat := [65, 61, 64, 62, 66, 63, 68, 60, 67]
theorem znt_ok : ∀ ci, ci < 9 → zw (zntL.getD ci 0) = some (.initialized (zcn ci)) := by decide +kernel
theorem zarr_ok : zw 126 = some (.arrayClass .int) := by decide +kernel
theorem zclV_ok : ∀ e ∈ zclT, e.2.2.2.1 = 0 → e.2.2.2.2.1 = 0 ∧ zw e.2.2.2.2.2.1 = some (.methodLink (zcn e.1) e.2.1 (zynm e.2.2.1)) ∧ zw e.2.2.2.2.2.2.1 = some (.instanceMethod (zynm e.2.2.1)) ∧ zw e.2.2.2.2.2.2.2.1 = some (.selects (zynm e.2.2.1).cls (zynm e.2.2.1) (zynm e.2.2.1)) := by decide +kernel
theorem zclS_ok : ∀ e ∈ zclT, e.2.2.2.1 = 1 → (e.2.2.2.2.1 = 0 ∧ zw e.2.2.2.2.2.1 = some (.methodLink (zcn e.1) e.2.1 (zynm e.2.2.1)) ∨ e.2.2.2.2.1 = 1 ∧ Cond.methodLinkNest (zcn e.1) e.2.1 (zynm e.2.2.1) RX7 ∈ znest) ∧ zw e.2.2.2.2.2.2.1 = some (.static (zynm e.2.2.1)) := by decide +kernel
theorem zclI_ok : ∀ e ∈ zclT, e.2.2.2.1 = 2 → (e.2.2.2.2.1 = 0 ∧ zw e.2.2.2.2.2.1 = some (.methodLink (zcn e.1) e.2.1 (zynm e.2.2.1)) ∨ e.2.2.2.2.1 = 1 ∧ Cond.methodLinkNest (zcn e.1) e.2.1 (zynm e.2.2.1) RX7 ∈ znest) ∧ zw e.2.2.2.2.2.2.1 = some (.instanceMethod (zynm e.2.2.1)) ∧ (zynm e.2.2.1).name = "<init>" ∧ zrt e.2.2.1 = none := by decide +kernel
theorem zclA_ok : ∀ e ∈ zclT, e.2.2.2.1 < 3 ∧ zw e.2.2.2.2.2.2.2.2.1 = some (.initialized (zynm e.2.2.1).cls) ∧ (zynm e.2.2.1).cls = zcn (zown e.2.2.1) ∧ e.2.2.1 < 186 := by decide +kernel
theorem zclD_ok : ∀ e ∈ zclT, (zynm e.2.2.1).cls ≠ "java/lang/invoke/MethodHandle" ∧ (zynm e.2.2.1).cls ≠ "java/lang/invoke/VarHandle" ∧ (parseMethodDescriptor (zynm e.2.2.1).desc).map (fun d => d.parameters.length) = some (znp e.2.2.1) ∧ plainName (zynm e.2.2.1).cls = true := by decide +kernel
theorem zin0 {w : Jvm.Cond} (h : w ∈ tables_1) : w ∈ lw_tbl := List.mem_append_right _ h
theorem zin1 {w : Jvm.Cond} (h : w ∈ tables_1_1) : w ∈ lw_tbl := zin0 (List.mem_append_left _ h)
theorem zin2 {w : Jvm.Cond} (h : w ∈ tables_1_2) : w ∈ lw_tbl := zin0 (List.mem_append_right _ (List.mem_append_left _ h))
theorem zin3 {w : Jvm.Cond} (h : w ∈ tables_1_3) : w ∈ lw_tbl := zin0 (List.mem_append_right _ (List.mem_append_right _ (List.mem_append_left _ h)))
theorem zin4 {w : Jvm.Cond} (h : w ∈ tables_1_4) : w ∈ lw_tbl := zin0 (List.mem_append_right _ (List.mem_append_right _ (List.mem_append_right _ (List.mem_append_left _ h))))
theorem zin5 {w : Jvm.Cond} (h : w ∈ tables_1_5) : w ∈ lw_tbl := zin0 (List.mem_append_right _ (List.mem_append_right _ (List.mem_append_right _ (List.mem_append_right _ h))))
theorem zcw_0 : Cond.code yX0_init cX0_init 1 (none) ∈ lw_tbl := zin1 (List.mem_of_getElem? (i := 136) rfl)
theorem zcw_1 : Cond.code yX0_finds cX0_finds 4 (none) ∈ lw_tbl := zin3 (List.mem_of_getElem? (i := 28) rfl)
theorem zcw_2 : Cond.code yX0_readComings cX0_readComings 5 (none) ∈ lw_tbl := zin3 (List.mem_of_getElem? (i := 32) rfl)
theorem zcw_3 : Cond.code yX0_gives cX0_gives 4 (none) ∈ lw_tbl := zin3 (List.mem_of_getElem? (i := 59) rfl)
theorem zcw_4 : Cond.code yX0_choice cX0_choice 7 (some FieldType.int) ∈ lw_tbl := zin3 (List.mem_of_getElem? (i := 39) rfl)
theorem zcw_5 : Cond.code yX0_worthOf cX0_worthOf 5 (some FieldType.int) ∈ lw_tbl := zin3 (List.mem_of_getElem? (i := 43) rfl)
theorem zcw_6 : Cond.code yX0_comingOf cX0_comingOf 4 (some FieldType.int) ∈ lw_tbl := zin3 (List.mem_of_getElem? (i := 51) rfl)
theorem zcw_7 : Cond.code yX0_bestFrom cX0_bestFrom 4 (some FieldType.int) ∈ lw_tbl := zin3 (List.mem_of_getElem? (i := 47) rfl)
theorem zcw_8 : Cond.code yX0_setBest cX0_setBest 5 (none) ∈ lw_tbl := zin3 (List.mem_of_getElem? (i := 55) rfl)
theorem zcw_9 : Cond.code yX0_landGivenTo cX0_landGivenTo 2 (some FieldType.int) ∈ lw_tbl := zin3 (List.mem_of_getElem? (i := 63) rfl)
theorem zcw_10 : Cond.code yX1_init cX1_init 2 (none) ∈ lw_tbl := zin1 (List.mem_of_getElem? (i := 25) rfl)
theorem zcw_11 : Cond.code yX1_isThere cX1_isThere 1 (some FieldType.boolean) ∈ lw_tbl := zin2 (List.mem_of_getElem? (i := 119) rfl)
theorem zcw_12 : Cond.code yX1_begins cX1_begins 2 (none) ∈ lw_tbl := zin2 (List.mem_of_getElem? (i := 32) rfl)
theorem zcw_13 : Cond.code yX1_addLand cX1_addLand 2 (none) ∈ lw_tbl := zin2 (List.mem_of_getElem? (i := 40) rfl)
theorem zcw_14 : Cond.code yX1_addRider cX1_addRider 5 (none) ∈ lw_tbl := zin2 (List.mem_of_getElem? (i := 55) rfl)
theorem zcw_15 : Cond.code yX1_becomesLike cX1_becomesLike 5 (none) ∈ lw_tbl := zin2 (List.mem_of_getElem? (i := 67) rfl)
theorem zcw_16 : Cond.code yX1_riderAt cX1_riderAt 2 (some (FieldType.object "RockingRiders$Rider")) ∈ lw_tbl := zin2 (List.mem_of_getElem? (i := 79) rfl)
theorem zcw_17 : Cond.code yX1_isLand cX1_isLand 2 (some FieldType.boolean) ∈ lw_tbl := zin2 (List.mem_of_getElem? (i := 106) rfl)
theorem zcw_18 : Cond.code yX1_farOf cX1_farOf 2 (some FieldType.int) ∈ lw_tbl := zin2 (List.mem_of_getElem? (i := 110) rfl)
theorem zcw_19 : Cond.code yX1_milesOf cX1_milesOf 2 (some FieldType.int) ∈ lw_tbl := zin2 (List.mem_of_getElem? (i := 86) rfl)
theorem zcw_20 : Cond.code yX1_landOf cX1_landOf 2 (some FieldType.int) ∈ lw_tbl := zin2 (List.mem_of_getElem? (i := 93) rfl)
theorem zcw_21 : Cond.code yX1_landAt cX1_landAt 5 (some FieldType.int) ∈ lw_tbl := zin2 (List.mem_of_getElem? (i := 98) rfl)
theorem zcw_22 : Cond.code yX1_areInOneLand cX1_areInOneLand 6 (some FieldType.boolean) ∈ lw_tbl := zin2 (List.mem_of_getElem? (i := 236) rfl)
theorem zcw_23 : Cond.code yX1_howManyAreInLands cX1_howManyAreInLands 4 (some FieldType.int) ∈ lw_tbl := zin2 (List.mem_of_getElem? (i := 209) rfl)
theorem zcw_24 : Cond.code yX1_landsWithAnybody cX1_landsWithAnybody 5 (some FieldType.int) ∈ lw_tbl := zin2 (List.mem_of_getElem? (i := 198) rfl)
theorem zcw_25 : Cond.code yX1_whoseEyesAreShut cX1_whoseEyesAreShut 4 (some FieldType.int) ∈ lw_tbl := zin2 (List.mem_of_getElem? (i := 152) rfl)
theorem zcw_26 : Cond.code yX1_passMinute cX1_passMinute 4 (some FieldType.int) ∈ lw_tbl := zin2 (List.mem_of_getElem? (i := 134) rfl)
theorem zcw_27 : Cond.code yX1_comingOf cX1_comingOf 4 (some FieldType.int) ∈ lw_tbl := zin2 (List.mem_of_getElem? (i := 222) rfl)
theorem zcw_28 : Cond.code yX1_milesBehind cX1_milesBehind 3 (some FieldType.int) ∈ lw_tbl := zin2 (List.mem_of_getElem? (i := 226) rfl)
theorem zcw_29 : Cond.code yX1_latestComing cX1_latestComing 6 (some FieldType.int) ∈ lw_tbl := zin3 (List.mem_of_getElem? (i := 4) rfl)
theorem zcw_30 : Cond.code yX1_landsComeToBy cX1_landsComeToBy 5 (some FieldType.int) ∈ lw_tbl := zin3 (List.mem_of_getElem? (i := 16) rfl)
theorem zcw_31 : Cond.code yX1_landsReachedBy cX1_landsReachedBy 4 (some FieldType.int) ∈ lw_tbl := zin3 (List.mem_of_getElem? (i := 20) rfl)
theorem zcw_32 : Cond.code yX1_minutesIn cX1_minutesIn 5 (some FieldType.int) ∈ lw_tbl := zin3 (List.mem_of_getElem? (i := 110) rfl)
theorem zcw_33 : Cond.code yX2_init cX2_init 1 (none) ∈ lw_tbl := zin1 (List.mem_of_getElem? (i := 116) rfl)
theorem zcw_34 : Cond.code yX2_adds cX2_adds 4 (none) ∈ lw_tbl := zin3 (List.mem_of_getElem? (i := 71) rfl)
theorem zcw_35 : Cond.code yX2_areSo cX2_areSo 8 (some FieldType.boolean) ∈ lw_tbl := zin3 (List.mem_of_getElem? (i := 87) rfl)
theorem zcw_36 : Cond.code yX2_paceIn cX2_paceIn 3 (some FieldType.int) ∈ lw_tbl := zin3 (List.mem_of_getElem? (i := 91) rfl)
theorem zcw_37 : Cond.code yX2_has cX2_has 2 (some FieldType.boolean) ∈ lw_tbl := zin3 (List.mem_of_getElem? (i := 75) rfl)
theorem zcw_38 : Cond.code yX3_init cX3_init 1 (none) ∈ lw_tbl := zin1 (List.mem_of_getElem? (i := 32) rfl)
theorem zcw_39 : Cond.code yX3_becomesNew cX3_becomesNew 4 (none) ∈ lw_tbl := zin2 (List.mem_of_getElem? (i := 59) rfl)
theorem zcw_40 : Cond.code yX3_becomesLike cX3_becomesLike 2 (none) ∈ lw_tbl := zin2 (List.mem_of_getElem? (i := 71) rfl)
theorem zcw_41 : Cond.code yX3_shutsEyes cX3_shutsEyes 1 (none) ∈ lw_tbl := zin2 (List.mem_of_getElem? (i := 148) rfl)
theorem zcw_42 : Cond.code yX3_looksUp cX3_looksUp 1 (none) ∈ lw_tbl := zin2 (List.mem_of_getElem? (i := 63) rfl)
theorem zcw_43 : Cond.code yX3_passesMinute cX3_passesMinute 1 (some FieldType.boolean) ∈ lw_tbl := zin2 (List.mem_of_getElem? (i := 139) rfl)
theorem zcw_44 : Cond.code yX4_init cX4_init 1 (none) ∈ lw_tbl := zin1 (List.mem_of_getElem? (i := 161) rfl)
theorem zcw_45 : Cond.code yX4_hasNothing cX4_hasNothing 1 (some FieldType.boolean) ∈ lw_tbl := zin1 (List.mem_of_getElem? (i := 216) rfl)
theorem zcw_46 : Cond.code yX4_becomesNothing cX4_becomesNothing 1 (none) ∈ lw_tbl := zin3 (List.mem_of_getElem? (i := 134) rfl)
theorem zcw_47 : Cond.code yX4_becomesRow cX4_becomesRow 4 (none) ∈ lw_tbl := zin3 (List.mem_of_getElem? (i := 122) rfl)
theorem zcw_48 : Cond.code yX4_hasCell cX4_hasCell 2 (some FieldType.boolean) ∈ lw_tbl := zin2 (List.mem_of_getElem? (i := 24) rfl)
theorem zcw_49 : Cond.code yX4_hasRun cX4_hasRun 3 (some FieldType.boolean) ∈ lw_tbl := zin1 (List.mem_of_getElem? (i := 220) rfl)
theorem zcw_50 : Cond.code yX4_at cX4_at 2 (some FieldType.int) ∈ lw_tbl := zin2 (List.mem_of_getElem? (i := 20) rfl)
theorem zcw_51 : Cond.code yX4_setCell cX4_setCell 3 (none) ∈ lw_tbl := zin3 (List.mem_of_getElem? (i := 143) rfl)
theorem zcw_52 : Cond.code yX4_cutToLane cX4_cutToLane 2 (some FieldType.int) ∈ lw_tbl := zin3 (List.mem_of_getElem? (i := 147) rfl)
theorem zcw_53 : Cond.code yX4_takesRun cX4_takesRun 5 (none) ∈ lw_tbl := zin3 (List.mem_of_getElem? (i := 159) rfl)
theorem zcw_54 : Cond.code yX5_init cX5_init 1 (none) ∈ lw_tbl := zin1 (List.mem_of_getElem? (i := 95) rfl)
theorem zcw_55 : Cond.code yX5_tells cX5_tells 6 (some FieldType.int) ∈ lw_tbl := zin2 (List.mem_of_getElem? (i := 183) rfl)
theorem zcw_56 : Cond.code yX5_acts cX5_acts 4 (some FieldType.boolean) ∈ lw_tbl := zin2 (List.mem_of_getElem? (i := 189) rfl)
theorem zcw_57 : Cond.code yX5_passMinutes cX5_passMinutes 3 (none) ∈ lw_tbl := zin2 (List.mem_of_getElem? (i := 193) rfl)
theorem zcw_58 : Cond.code yX6_init cX6_init 4 (none) ∈ lw_tbl := zin1 (List.mem_of_getElem? (i := 229) rfl)
theorem zcw_59 : Cond.code yX6_fills cX6_fills 4 (some FieldType.boolean) ∈ lw_tbl := zin2 (List.mem_of_getElem? (i := 8) rfl)
theorem zcw_60 : Cond.code yX6_fillsLand cX6_fillsLand 4 (some FieldType.boolean) ∈ lw_tbl := zin2 (List.mem_of_getElem? (i := 36) rfl)
theorem zcw_61 : Cond.code yX6_fillsRider cX6_fillsRider 5 (some FieldType.boolean) ∈ lw_tbl := zin2 (List.mem_of_getElem? (i := 44) rfl)
theorem zcw_62 : Cond.code yX6_takesKind cX6_takesKind 2 (some FieldType.int) ∈ lw_tbl := zin2 (List.mem_of_getElem? (i := 48) rfl)
theorem zcw_63 : Cond.code yX6_kindBy cX6_kindBy 1 (some FieldType.int) ∈ lw_tbl := zin2 (List.mem_of_getElem? (i := 51) rfl)
theorem zcw_64 : Cond.code yX6_takesDigit cX6_takesDigit 3 (some FieldType.int) ∈ lw_tbl := zin2 (List.mem_of_getElem? (i := 28) rfl)
theorem zcw_65 : Cond.code yX6_takes cX6_takes 2 (some FieldType.boolean) ∈ lw_tbl := zin2 (List.mem_of_getElem? (i := 12) rfl)
theorem zcw_66 : Cond.code yX6_next cX6_next 1 (some FieldType.int) ∈ lw_tbl := zin2 (List.mem_of_getElem? (i := 16) rfl)
theorem zcw_67 : Cond.code yX7_init cX7_init 2 (none) ∈ lw_tbl := zin1 (List.mem_of_getElem? (i := 17) rfl)
theorem zcw_68 : Cond.code yX7_nursery cX7_nursery 8 (some FieldType.int) ∈ lw_tbl := zin1 (List.mem_of_getElem? (i := 202) rfl)
theorem zcw_69 : Cond.code yX7_ofRider cX7_ofRider 4 (some FieldType.int) ∈ lw_tbl := zin2 (List.mem_of_getElem? (i := 75) rfl)
theorem zcw_70 : Cond.code yX7_far cX7_far 2 (some FieldType.int) ∈ lw_tbl := zin2 (List.mem_of_getElem? (i := 102) rfl)
theorem zcw_71 : Cond.code yX7_wax cX7_wax 3 (some FieldType.int) ∈ lw_tbl := zin2 (List.mem_of_getElem? (i := 115) rfl)
theorem zcw_72 : Cond.code yX7_lean cX7_lean 5 (some FieldType.int) ∈ lw_tbl := zin2 (List.mem_of_getElem? (i := 126) rfl)
theorem zcw_73 : Cond.code yX7_minutes cX7_minutes 4 (some FieldType.int) ∈ lw_tbl := zin2 (List.mem_of_getElem? (i := 130) rfl)
theorem zcw_74 : Cond.code yX7_shut cX7_shut 3 (some FieldType.int) ∈ lw_tbl := zin2 (List.mem_of_getElem? (i := 144) rfl)
theorem zcw_75 : Cond.code yX7_look cX7_look 4 (some FieldType.int) ∈ lw_tbl := zin2 (List.mem_of_getElem? (i := 162) rfl)
theorem zcw_76 : Cond.code yX7_afternoon cX7_afternoon 9 (some FieldType.int) ∈ lw_tbl := zin2 (List.mem_of_getElem? (i := 167) rfl)
theorem zcw_77 : Cond.code yX7_isAskedOfAfternoon cX7_isAskedOfAfternoon 1 (some FieldType.boolean) ∈ lw_tbl := zin2 (List.mem_of_getElem? (i := 170) rfl)
theorem zcw_78 : Cond.code yX7_refusalOfPairs cX7_refusalOfPairs 6 (some FieldType.int) ∈ lw_tbl := zin2 (List.mem_of_getElem? (i := 174) rfl)
theorem zcw_79 : Cond.code yX7_refusalOfPair cX7_refusalOfPair 3 (some FieldType.int) ∈ lw_tbl := zin2 (List.mem_of_getElem? (i := 179) rfl)
theorem zcw_80 : Cond.code yX7_answerOfTale cX7_answerOfTale 3 (some FieldType.int) ∈ lw_tbl := zin2 (List.mem_of_getElem? (i := 205) rfl)
theorem zcw_81 : Cond.code yX7_milesTold cX7_milesTold 3 (some FieldType.int) ∈ lw_tbl := zin2 (List.mem_of_getElem? (i := 214) rfl)
theorem zcw_82 : Cond.code yX7_comes cX7_comes 4 (some FieldType.int) ∈ lw_tbl := zin2 (List.mem_of_getElem? (i := 218) rfl)
theorem zcw_83 : Cond.code yX7_together cX7_together 4 (some FieldType.int) ∈ lw_tbl := zin2 (List.mem_of_getElem? (i := 232) rfl)
theorem zcw_84 : Cond.code yX7_waits cX7_waits 5 (some FieldType.int) ∈ lw_tbl := zin3 (List.mem_of_getElem? (i := 0) rfl)
theorem zcw_85 : Cond.code yX7_scouts cX7_scouts 5 (some FieldType.int) ∈ lw_tbl := zin3 (List.mem_of_getElem? (i := 12) rfl)
theorem zcw_86 : Cond.code yX7_guides cX7_guides 2 (some FieldType.int) ∈ lw_tbl := zin3 (List.mem_of_getElem? (i := 24) rfl)
theorem zcw_87 : Cond.code yX7_reading cX7_reading 4 (some FieldType.int) ∈ lw_tbl := zin3 (List.mem_of_getElem? (i := 67) rfl)
theorem zcw_88 : Cond.code yX7_back cX7_back 2 (some FieldType.int) ∈ lw_tbl := zin3 (List.mem_of_getElem? (i := 79) rfl)
theorem zcw_89 : Cond.code yX7_leans cX7_leans 5 (some FieldType.int) ∈ lw_tbl := zin3 (List.mem_of_getElem? (i := 83) rfl)
theorem zcw_90 : Cond.code yX7_kinds cX7_kinds 5 (some FieldType.int) ∈ lw_tbl := zin3 (List.mem_of_getElem? (i := 97) rfl)
theorem zcw_91 : Cond.code yX7_creaks cX7_creaks 3 (some FieldType.int) ∈ lw_tbl := zin3 (List.mem_of_getElem? (i := 101) rfl)
theorem zcw_92 : Cond.code yX7_odds cX7_odds 7 (some FieldType.long) ∈ lw_tbl := zin3 (List.mem_of_getElem? (i := 105) rfl)
theorem zcw_93 : Cond.code yX7_greatestDivisor cX7_greatestDivisor 3 (some FieldType.int) ∈ lw_tbl := zin3 (List.mem_of_getElem? (i := 113) rfl)
theorem zcw_94 : Cond.code yX7_sheet cX7_sheet 5 (some FieldType.int) ∈ lw_tbl := zin3 (List.mem_of_getElem? (i := 118) rfl)
theorem zcw_95 : Cond.code yX7_lose cX7_lose 3 (some FieldType.int) ∈ lw_tbl := zin3 (List.mem_of_getElem? (i := 130) rfl)
theorem zcw_96 : Cond.code yX7_put cX7_put 5 (some FieldType.int) ∈ lw_tbl := zin3 (List.mem_of_getElem? (i := 138) rfl)
theorem zcw_97 : Cond.code yX7_cell cX7_cell 5 (some FieldType.long) ∈ lw_tbl := zin3 (List.mem_of_getElem? (i := 151) rfl)
theorem zcw_98 : Cond.code yX7_copy cX7_copy 8 (some FieldType.int) ∈ lw_tbl := zin3 (List.mem_of_getElem? (i := 155) rfl)
theorem zcw_99 : Cond.code yX7_tell cX7_tell 3 (some FieldType.int) ∈ lw_tbl := zin3 (List.mem_of_getElem? (i := 167) rfl)
theorem zcw_100 : Cond.code yX7_childTells cX7_childTells 2 (some FieldType.int) ∈ lw_tbl := zin3 (List.mem_of_getElem? (i := 183) rfl)
theorem zcw_101 : Cond.code yX7_maidTells cX7_maidTells 2 (some FieldType.int) ∈ lw_tbl := zin3 (List.mem_of_getElem? (i := 179) rfl)
theorem zcw_102 : Cond.code yX7_uncleTells cX7_uncleTells 3 (some FieldType.int) ∈ lw_tbl := zin3 (List.mem_of_getElem? (i := 171) rfl)
theorem zcw_103 : Cond.code yX7_call cX7_call 3 (some FieldType.int) ∈ lw_tbl := zin3 (List.mem_of_getElem? (i := 187) rfl)
theorem zcw_104 : Cond.code yX7_isCalledByLentBody cX7_isCalledByLentBody 2 (some FieldType.int) ∈ lw_tbl := zin3 (List.mem_of_getElem? (i := 195) rfl)
theorem zcw_105 : Cond.code yX7_uncleIsCalled cX7_uncleIsCalled 1 (some FieldType.int) ∈ lw_tbl := zin3 (List.mem_of_getElem? (i := 191) rfl)
theorem zcw_106 : Cond.code yX7_leaveInTrace cX7_leaveInTrace 2 (none) ∈ lw_tbl := zin3 (List.mem_of_getElem? (i := 175) rfl)
theorem zcw_107 : Cond.code yX7_as cX7_as 4 (some FieldType.int) ∈ lw_tbl := zin3 (List.mem_of_getElem? (i := 199) rfl)
theorem zcw_108 : Cond.code yX7_trace cX7_trace 1 (some FieldType.int) ∈ lw_tbl := zin3 (List.mem_of_getElem? (i := 203) rfl)
theorem zcw_109 : Cond.code yX7_fault cX7_fault 1 (some FieldType.int) ∈ lw_tbl := zin3 (List.mem_of_getElem? (i := 207) rfl)
theorem zcw_110 : Cond.code yX7_many cX7_many 2 (some FieldType.int) ∈ lw_tbl := zin3 (List.mem_of_getElem? (i := 211) rfl)
theorem zcw_111 : Cond.code yX7_sheetAt cX7_sheetAt 2 (some (FieldType.object "RockingRiders$Sheet")) ∈ lw_tbl := zin1 (List.mem_of_getElem? (i := 206) rfl)
theorem zcw_112 : Cond.code yX7_isLane cX7_isLane 1 (some FieldType.boolean) ∈ lw_tbl := zin1 (List.mem_of_getElem? (i := 209) rfl)
theorem zcw_113 : Cond.code yX7_isOneToNine cX7_isOneToNine 1 (some FieldType.boolean) ∈ lw_tbl := zin2 (List.mem_of_getElem? (i := 122) rfl)
theorem zcw_114 : Cond.code yX7_rowFault cX7_rowFault 2 (some FieldType.int) ∈ lw_tbl := zin1 (List.mem_of_getElem? (i := 212) rfl)
theorem zcw_115 : Cond.code yX7_faulted cX7_faulted 2 (some FieldType.int) ∈ lw_tbl := zin1 (List.mem_of_getElem? (i := 224) rfl)
theorem zcw_116 : Cond.code yX7_paceOf cX7_paceOf 2 (some FieldType.int) ∈ lw_tbl := zin2 (List.mem_of_getElem? (i := 82) rfl)
theorem zcw_117 : Cond.code yX7_quotient cX7_quotient 2 (some FieldType.int) ∈ lw_tbl := zin2 (List.mem_of_getElem? (i := 89) rfl)
theorem zcw_118 : Cond.code yX8_init cX8_init 2 (none) ∈ lw_tbl := zin3 (List.mem_of_getElem? (i := 216) rfl)
theorem zcw_119 : Cond.code yX8_in cX8_in 6 (some FieldType.boolean) ∈ lw_tbl := zin4 (List.mem_of_getElem? (i := 106) rfl)
theorem zcw_120 : Cond.code yX8_lost cX8_lost 0 (some FieldType.long) ∈ lw_tbl := zin5 (List.mem_of_getElem? (i := 63) rfl)
theorem zcw_121 : Cond.code yX8_isIn cX8_isIn 2 (some FieldType.boolean) ∈ lw_tbl := zin4 (List.mem_of_getElem? (i := 187) rfl)
theorem zcw_122 : Cond.code yX8_bits cX8_bits 3 (some FieldType.int) ∈ lw_tbl := zin4 (List.mem_of_getElem? (i := 202) rfl)
theorem zcw_123 : Cond.code yX8_share cX8_share 11 (some FieldType.long) ∈ lw_tbl := zin5 (List.mem_of_getElem? (i := 67) rfl)
theorem zcw_124 : Cond.code yX8_refused cX8_refused 2 (some FieldType.int) ∈ lw_tbl := zin4 (List.mem_of_getElem? (i := 110) rfl)
theorem zcw_125 : Cond.code yX8_failed cX8_failed 2 (some FieldType.int) ∈ lw_tbl := zin4 (List.mem_of_getElem? (i := 119) rfl)
theorem zcw_126 : Cond.code yX8_failedLong cX8_failedLong 2 (some FieldType.long) ∈ lw_tbl := zin5 (List.mem_of_getElem? (i := 91) rfl)
theorem zcw_127 : Cond.code yX8_noRider cX8_noRider 2 (some FieldType.boolean) ∈ lw_tbl := zin4 (List.mem_of_getElem? (i := 151) rfl)
theorem zcw_128 : Cond.code yX8_noLand cX8_noLand 2 (some FieldType.boolean) ∈ lw_tbl := zin4 (List.mem_of_getElem? (i := 167) rfl)
theorem zcw_129 : Cond.code yX8_codeAt cX8_codeAt 3 (some FieldType.int) ∈ lw_tbl := zin4 (List.mem_of_getElem? (i := 130) rfl)
theorem zcw_130 : Cond.code yX8_figure cX8_figure 7 (some FieldType.int) ∈ lw_tbl := zin4 (List.mem_of_getElem? (i := 134) rfl)
theorem zcw_131 : Cond.code yX8_readsLands cX8_readsLands 6 (some FieldType.boolean) ∈ lw_tbl := zin4 (List.mem_of_getElem? (i := 139) rfl)
theorem zcw_132 : Cond.code yX8_readsRider cX8_readsRider 6 (some FieldType.boolean) ∈ lw_tbl := zin4 (List.mem_of_getElem? (i := 143) rfl)
theorem zcw_133 : Cond.code yX8_readsNursery cX8_readsNursery 4 (some FieldType.boolean) ∈ lw_tbl := zin4 (List.mem_of_getElem? (i := 126) rfl)
theorem zcw_134 : Cond.code yX8_cellsBarred cX8_cellsBarred 6 (some FieldType.int) ∈ lw_tbl := zin4 (List.mem_of_getElem? (i := 115) rfl)
theorem zcw_135 : Cond.code yX8_nursery cX8_nursery 7 (some FieldType.int) ∈ lw_tbl := zin4 (List.mem_of_getElem? (i := 99) rfl)
theorem zcw_136 : Cond.code yX8_paceOf cX8_paceOf 3 (some FieldType.int) ∈ lw_tbl := zin4 (List.mem_of_getElem? (i := 155) rfl)
theorem zcw_137 : Cond.code yX8_landBy cX8_landBy 5 (some FieldType.int) ∈ lw_tbl := zin4 (List.mem_of_getElem? (i := 159) rfl)
theorem zcw_138 : Cond.code yX8_ofRider cX8_ofRider 3 (some FieldType.int) ∈ lw_tbl := zin4 (List.mem_of_getElem? (i := 147) rfl)
theorem zcw_139 : Cond.code yX8_far cX8_far 2 (some FieldType.int) ∈ lw_tbl := zin4 (List.mem_of_getElem? (i := 163) rfl)
theorem zcw_140 : Cond.code yX8_wax cX8_wax 3 (some FieldType.int) ∈ lw_tbl := zin4 (List.mem_of_getElem? (i := 171) rfl)
theorem zcw_141 : Cond.code yX8_lean cX8_lean 4 (some FieldType.int) ∈ lw_tbl := zin4 (List.mem_of_getElem? (i := 175) rfl)
theorem zcw_142 : Cond.code yX8_looked cX8_looked 2 (none) ∈ lw_tbl := zin4 (List.mem_of_getElem? (i := 191) rfl)
theorem zcw_143 : Cond.code yX8_passes cX8_passes 3 (none) ∈ lw_tbl := zin4 (List.mem_of_getElem? (i := 184) rfl)
theorem zcw_144 : Cond.code yX8_minutes cX8_minutes 3 (some FieldType.int) ∈ lw_tbl := zin4 (List.mem_of_getElem? (i := 179) rfl)
theorem zcw_145 : Cond.code yX8_shuts cX8_shuts 3 (some FieldType.boolean) ∈ lw_tbl := zin4 (List.mem_of_getElem? (i := 199) rfl)
theorem zcw_146 : Cond.code yX8_shut cX8_shut 2 (some FieldType.int) ∈ lw_tbl := zin4 (List.mem_of_getElem? (i := 195) rfl)
theorem zcw_147 : Cond.code yX8_look cX8_look 3 (some FieldType.int) ∈ lw_tbl := zin4 (List.mem_of_getElem? (i := 206) rfl)
theorem zcw_148 : Cond.code yX8_keepAll cX8_keepAll 2 (none) ∈ lw_tbl := zin4 (List.mem_of_getElem? (i := 222) rfl)
theorem zcw_149 : Cond.code yX8_bringBack cX8_bringBack 2 (none) ∈ lw_tbl := zin4 (List.mem_of_getElem? (i := 234) rfl)
theorem zcw_150 : Cond.code yX8_pairsBarred cX8_pairsBarred 6 (some FieldType.int) ∈ lw_tbl := zin4 (List.mem_of_getElem? (i := 218) rfl)
theorem zcw_151 : Cond.code yX8_did cX8_did 4 (some FieldType.boolean) ∈ lw_tbl := zin4 (List.mem_of_getElem? (i := 230) rfl)
theorem zcw_152 : Cond.code yX8_afternoonBy cX8_afternoonBy 7 (some FieldType.int) ∈ lw_tbl := zin4 (List.mem_of_getElem? (i := 226) rfl)
theorem zcw_153 : Cond.code yX8_afternoon cX8_afternoon 8 (some FieldType.int) ∈ lw_tbl := zin4 (List.mem_of_getElem? (i := 210) rfl)
theorem zcw_154 : Cond.code yX8_comesTo cX8_comesTo 5 (some FieldType.int) ∈ lw_tbl := zin5 (List.mem_of_getElem? (i := 2) rfl)
theorem zcw_155 : Cond.code yX8_comes cX8_comes 3 (some FieldType.int) ∈ lw_tbl := zin4 (List.mem_of_getElem? (i := 238) rfl)
theorem zcw_156 : Cond.code yX8_together cX8_together 6 (some FieldType.int) ∈ lw_tbl := zin5 (List.mem_of_getElem? (i := 6) rfl)
theorem zcw_157 : Cond.code yX8_waits cX8_waits 6 (some FieldType.int) ∈ lw_tbl := zin5 (List.mem_of_getElem? (i := 10) rfl)
theorem zcw_158 : Cond.code yX8_seenBy cX8_seenBy 5 (some FieldType.int) ∈ lw_tbl := zin5 (List.mem_of_getElem? (i := 18) rfl)
theorem zcw_159 : Cond.code yX8_scouts cX8_scouts 5 (some FieldType.int) ∈ lw_tbl := zin5 (List.mem_of_getElem? (i := 14) rfl)
theorem zcw_160 : Cond.code yX8_rowBy cX8_rowBy 4 (none) ∈ lw_tbl := zin5 (List.mem_of_getElem? (i := 27) rfl)
theorem zcw_161 : Cond.code yX8_judgesRow cX8_judgesRow 8 (none) ∈ lw_tbl := zin5 (List.mem_of_getElem? (i := 31) rfl)
theorem zcw_162 : Cond.code yX8_guides cX8_guides 4 (some FieldType.int) ∈ lw_tbl := zin5 (List.mem_of_getElem? (i := 22) rfl)
theorem zcw_163 : Cond.code yX8_reading cX8_reading 4 (some FieldType.int) ∈ lw_tbl := zin5 (List.mem_of_getElem? (i := 35) rfl)
theorem zcw_164 : Cond.code yX8_back cX8_back 2 (some FieldType.int) ∈ lw_tbl := zin5 (List.mem_of_getElem? (i := 40) rfl)
theorem zcw_165 : Cond.code yX8_areSo cX8_areSo 3 (some FieldType.boolean) ∈ lw_tbl := zin5 (List.mem_of_getElem? (i := 48) rfl)
theorem zcw_166 : Cond.code yX8_leans cX8_leans 5 (some FieldType.int) ∈ lw_tbl := zin5 (List.mem_of_getElem? (i := 44) rfl)
theorem zcw_167 : Cond.code yX8_kinds cX8_kinds 5 (some FieldType.int) ∈ lw_tbl := zin5 (List.mem_of_getElem? (i := 52) rfl)
theorem zcw_168 : Cond.code yX8_creaks cX8_creaks 4 (some FieldType.int) ∈ lw_tbl := zin5 (List.mem_of_getElem? (i := 56) rfl)
theorem zcw_169 : Cond.code yX8_odds cX8_odds 7 (some FieldType.long) ∈ lw_tbl := zin5 (List.mem_of_getElem? (i := 60) rfl)
theorem zcw_170 : Cond.code yX8_noSheet cX8_noSheet 1 (some FieldType.boolean) ∈ lw_tbl := zin4 (List.mem_of_getElem? (i := 102) rfl)
theorem zcw_171 : Cond.code yX8_sheet cX8_sheet 5 (some FieldType.int) ∈ lw_tbl := zin5 (List.mem_of_getElem? (i := 71) rfl)
theorem zcw_172 : Cond.code yX8_lose cX8_lose 3 (some FieldType.int) ∈ lw_tbl := zin5 (List.mem_of_getElem? (i := 75) rfl)
theorem zcw_173 : Cond.code yX8_noCell cX8_noCell 3 (some FieldType.int) ∈ lw_tbl := zin5 (List.mem_of_getElem? (i := 83) rfl)
theorem zcw_174 : Cond.code yX8_put cX8_put 4 (some FieldType.int) ∈ lw_tbl := zin5 (List.mem_of_getElem? (i := 79) rfl)
theorem zcw_175 : Cond.code yX8_cell cX8_cell 4 (some FieldType.long) ∈ lw_tbl := zin5 (List.mem_of_getElem? (i := 87) rfl)
theorem zcw_176 : Cond.code yX8_isBeyond cX8_isBeyond 4 (some FieldType.boolean) ∈ lw_tbl := zin4 (List.mem_of_getElem? (i := 122) rfl)
theorem zcw_177 : Cond.code yX8_copy cX8_copy 7 (some FieldType.int) ∈ lw_tbl := zin5 (List.mem_of_getElem? (i := 95) rfl)
theorem zcw_178 : Cond.code yX8_traced cX8_traced 2 (none) ∈ lw_tbl := zin5 (List.mem_of_getElem? (i := 103) rfl)
theorem zcw_179 : Cond.code yX8_tell cX8_tell 4 (some FieldType.int) ∈ lw_tbl := zin5 (List.mem_of_getElem? (i := 99) rfl)
theorem zcw_180 : Cond.code yX8_call cX8_call 2 (some FieldType.int) ∈ lw_tbl := zin5 (List.mem_of_getElem? (i := 107) rfl)
theorem zcw_181 : Cond.code yX8_as cX8_as 3 (some FieldType.int) ∈ lw_tbl := zin5 (List.mem_of_getElem? (i := 111) rfl)
theorem zcw_182 : Cond.code yX8_trace cX8_trace 1 (some FieldType.int) ∈ lw_tbl := zin5 (List.mem_of_getElem? (i := 115) rfl)
theorem zcw_183 : Cond.code yX8_fault cX8_fault 1 (some FieldType.int) ∈ lw_tbl := zin5 (List.mem_of_getElem? (i := 119) rfl)
theorem zcw_184 : Cond.code yX8_many cX8_many 2 (some FieldType.int) ∈ lw_tbl := zin5 (List.mem_of_getElem? (i := 123) rfl)
theorem zcw_185 : Cond.code yJ6_bitCount_0f7a4 cJ6_bitCount_0f7a4 1 (some FieldType.int) ∈ lw_tbl := zin2 (List.mem_of_getElem? (i := 155) rfl)
theorem zcw_ok : ∀ mi, mi < 186 → Cond.code (zynm mi) (zbyt mi) (znL mi) (zrt mi) ∈ lw_tbl :=
  (lt_s (lt_s (lt_s (lt_s (lt_s (lt_s (lt_s (lt_s (lt_s (lt_s (lt_s (lt_s (lt_s (lt_s (lt_s (lt_s (lt_s (lt_s (lt_s (lt_s (lt_s (lt_s (lt_s (lt_s (lt_s (lt_s (lt_s (lt_s (lt_s (lt_s (lt_s (lt_s (lt_s (lt_s (lt_s (lt_s (lt_s (lt_s (lt_s (lt_s (lt_s (lt_s (lt_s (lt_s (lt_s (lt_s (lt_s (lt_s (lt_s (lt_s (lt_s (lt_s (lt_s (lt_s (lt_s (lt_s (lt_s (lt_s (lt_s (lt_s (lt_s (lt_s (lt_s (lt_s (lt_s (lt_s (lt_s (lt_s (lt_s (lt_s (lt_s (lt_s (lt_s (lt_s (lt_s (lt_s (lt_s (lt_s (lt_s (lt_s (lt_s (lt_s (lt_s (lt_s (lt_s (lt_s (lt_s (lt_s (lt_s (lt_s (lt_s (lt_s (lt_s (lt_s (lt_s (lt_s (lt_s (lt_s (lt_s (lt_s (lt_s (lt_s (lt_s (lt_s (lt_s (lt_s (lt_s (lt_s (lt_s (lt_s (lt_s (lt_s (lt_s (lt_s (lt_s (lt_s (lt_s (lt_s (lt_s (lt_s (lt_s (lt_s (lt_s (lt_s (lt_s (lt_s (lt_s (lt_s (lt_s (lt_s (lt_s (lt_s (lt_s (lt_s (lt_s (lt_s (lt_s (lt_s (lt_s (lt_s (lt_s (lt_s (lt_s (lt_s (lt_s (lt_s (lt_s (lt_s (lt_s (lt_s (lt_s (lt_s (lt_s (lt_s (lt_s (lt_s (lt_s (lt_s (lt_s (lt_s (lt_s (lt_s (lt_s (lt_s (lt_s (lt_s (lt_s (lt_s (lt_s (lt_s (lt_s (lt_s (lt_s (lt_s (lt_s (lt_s (lt_s (lt_s (lt_s (lt_s (lt_s (lt_s (lt_s (lt_s (lt_s (lt_s lt_0 zcw_0) zcw_1) zcw_2) zcw_3) zcw_4) zcw_5) zcw_6) zcw_7) zcw_8) zcw_9) zcw_10) zcw_11) zcw_12) zcw_13) zcw_14) zcw_15) zcw_16) zcw_17) zcw_18) zcw_19) zcw_20) zcw_21) zcw_22) zcw_23) zcw_24) zcw_25) zcw_26) zcw_27) zcw_28) zcw_29) zcw_30) zcw_31) zcw_32) zcw_33) zcw_34) zcw_35) zcw_36) zcw_37) zcw_38) zcw_39) zcw_40) zcw_41) zcw_42) zcw_43) zcw_44) zcw_45) zcw_46) zcw_47) zcw_48) zcw_49) zcw_50) zcw_51) zcw_52) zcw_53) zcw_54) zcw_55) zcw_56) zcw_57) zcw_58) zcw_59) zcw_60) zcw_61) zcw_62) zcw_63) zcw_64) zcw_65) zcw_66) zcw_67) zcw_68) zcw_69) zcw_70) zcw_71) zcw_72) zcw_73) zcw_74) zcw_75) zcw_76) zcw_77) zcw_78) zcw_79) zcw_80) zcw_81) zcw_82) zcw_83) zcw_84) zcw_85) zcw_86) zcw_87) zcw_88) zcw_89) zcw_90) zcw_91) zcw_92) zcw_93) zcw_94) zcw_95) zcw_96) zcw_97) zcw_98) zcw_99) zcw_100) zcw_101) zcw_102) zcw_103) zcw_104) zcw_105) zcw_106) zcw_107) zcw_108) zcw_109) zcw_110) zcw_111) zcw_112) zcw_113) zcw_114) zcw_115) zcw_116) zcw_117) zcw_118) zcw_119) zcw_120) zcw_121) zcw_122) zcw_123) zcw_124) zcw_125) zcw_126) zcw_127) zcw_128) zcw_129) zcw_130) zcw_131) zcw_132) zcw_133) zcw_134) zcw_135) zcw_136) zcw_137) zcw_138) zcw_139) zcw_140) zcw_141) zcw_142) zcw_143) zcw_144) zcw_145) zcw_146) zcw_147) zcw_148) zcw_149) zcw_150) zcw_151) zcw_152) zcw_153) zcw_154) zcw_155) zcw_156) zcw_157) zcw_158) zcw_159) zcw_160) zcw_161) zcw_162) zcw_163) zcw_164) zcw_165) zcw_166) zcw_167) zcw_168) zcw_169) zcw_170) zcw_171) zcw_172) zcw_173) zcw_174) zcw_175) zcw_176) zcw_177) zcw_178) zcw_179) zcw_180) zcw_181) zcw_182) zcw_183) zcw_184) zcw_185)
theorem zao_3 : Cond.arrayOver (.object RX3) ∈ lw_tbl := zin1 (List.mem_of_getElem? (i := 28) (by decide +kernel))
theorem zao_4 : Cond.arrayOver (.object RX4) ∈ lw_tbl := zin1 (List.mem_of_getElem? (i := 157) (by decide +kernel))
theorem znest_ok : ∀ w ∈ znest, w ∈ lw_tbl := by
  intro w hw
  have h : ∀ e ∈ znest.zip [89, 386, 526, 627, 632, 439], zw e.2 = some e.1 := by decide +kernel
  obtain ⟨k, hk⟩ := List.getElem?_of_mem hw
  have hk2 : k < 6 := (List.getElem?_eq_some_iff.mp hk).1
  have hz : ∃ j, (w, j) ∈ znest.zip [89, 386, 526, 627, 632, 439] := by
    match k, hk2, hk with
    | 0, _, hk => exact ⟨89, List.mem_of_getElem? (i := 0) (by cases hk; rfl)⟩
    | 1, _, hk => exact ⟨386, List.mem_of_getElem? (i := 1) (by cases hk; rfl)⟩
    | 2, _, hk => exact ⟨526, List.mem_of_getElem? (i := 2) (by cases hk; rfl)⟩
    | 3, _, hk => exact ⟨627, List.mem_of_getElem? (i := 3) (by cases hk; rfl)⟩
    | 4, _, hk => exact ⟨632, List.mem_of_getElem? (i := 4) (by cases hk; rfl)⟩
    | 5, _, hk => exact ⟨439, List.mem_of_getElem? (i := 5) (by cases hk; rfl)⟩
  obtain ⟨j, hj⟩ := hz
  exact zw_mem (h _ hj)
theorem zmmT_ok : ∀ e ∈ zmmT, (e.2.2.1 = 0 → zw e.2.2.2.1 = some (.methodLink (zcn e.1) e.2.1 Lib.Math.max.name) ∧ zw e.2.2.2.2.1 = some (.static Lib.Math.max.name)) ∧ (e.2.2.1 = 1 → zw e.2.2.2.1 = some (.methodLink (zcn e.1) e.2.1 Lib.Math.min.name) ∧ zw e.2.2.2.2.1 = some (.static Lib.Math.min.name)) ∧ zw e.2.2.2.2.2.1 = some (.initialized "java/lang/Math") ∧ e.2.2.1 < 2 := by decide +kernel
theorem zmmax_ok : Cond.code Lib.Math.max.name Lib.Math.max.code 2 (some .int) ∈ lw_tbl := zin3 (List.mem_of_getElem? (i := 8) (by decide +kernel))
theorem zmmin_ok : Cond.code Lib.Math.min.name Lib.Math.min.code 2 (some .int) ∈ lw_tbl := zin3 (List.mem_of_getElem? (i := 125) (by decide +kernel))
theorem zwin : ∀ ci, ci < 9 → ∀ w ∈ u_ws (zcn ci) (zT ci) (zN ci), w ∈ lw_tbl := by decide +kernel
theorem znm : ∀ ci, ci < 9 → ∀ a, a < zN ci → ∀ b, b < zN ci → a ≠ b → ((zT ci) a).2.1 ≠ ((zT ci) b).2.1 := by decide +kernel
